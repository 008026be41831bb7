theorem nA {x y : Int32} {a b : Nat} (h1 : x = nI a) (h2 : y = nI b) : x + y = nI (a + b) := by rw [h1, h2, nI_add]
theorem nM {x y : Int32} {a b : Nat} (h1 : x = nI a) (h2 : y = nI b) : x * y = nI (a * b) := by rw [h1, h2, pk_mul]
theorem fz01 {v : Int32} (h : v = 0 ∨ v = 1) : fits .boolean (.int v) = true := by rcases h with rfl | rfl <;> rfl
theorem sw_split (x : Int32) (lo : Int) (m : Nat) : (x.toInt < lo ∨ lo + m < x.toInt) ∨ ∃ j : Nat, j ≤ m ∧ x = Int32.ofInt (lo + j) := by
  by_cases h : x.toInt < lo ∨ lo + m < x.toInt
  · exact Or.inl h
  · refine Or.inr ⟨(x.toInt - lo).toNat, by omega, ?_⟩
    rw [show lo + ((x.toInt - lo).toNat : Int) = x.toInt by omega]
    simp
/-- a number is out of range, or one of the numbers below n -/
theorem ixB (x : Int32) (n : Nat) (hn : n < 2 ^ 31) : (x < 0 ∨ n ≤ x.toNatClampNeg) ∨ ∃ e : Nat, e < n ∧ x = nI e := by
  by_cases h : x < 0 ∨ n ≤ x.toNatClampNeg
  · exact Or.inl h
  · exact Or.inr (vp_in_of h hn)
theorem ixN {e n : Nat} (h : e < n) (hn : n < 2 ^ 31) : ¬ (nI e < 0 ∨ n ≤ (nI e).toNatClampNeg) := vp_in_nI h hn
theorem ixR {x : Int32} {n : Nat} (hn : n < 2 ^ 31) (h : ¬ (0 ≤ x ∧ x ≤ nI n - 1)) : x < 0 ∨ n ≤ x.toNatClampNeg := by
  rcases ixB x n hn with h1 | ⟨e, he, rfl⟩
  · exact h1
  · exfalso
    apply h
    refine ⟨nI_pos' (by omega), ?_⟩
    rw [show nI n - 1 = nI (n - 1) by rw [show n = (n - 1) + 1 by omega, nI_pred]; simp]
    exact nI_le (by omega) (by omega)
theorem ixQ {x : Int32} {n : Nat} (hn : n < 2 ^ 31) (h : 0 ≤ x ∧ x ≤ nI n - 1) : ∃ e : Nat, e < n ∧ x = nI e := by
  rcases ixB x n hn with h1 | h1
  · exfalso
    rcases h1 with h1 | h1
    · exact absurd h.1 (Int32.not_le.mpr h1)
    · have h2 := h.2
      have h0 := h.1
      rw [Int32.le_iff_toInt_le] at h2 h0
      have hz : x.toNatClampNeg = x.toInt.toNat := rfl
      cases n with
      | zero =>
        rw [show nI 0 - 1 = -1 by decide] at h2
        have e0 : (0 : Int32).toInt = 0 := by decide
        have e1 : (-1 : Int32).toInt = -1 := by decide
        omega
      | succ m =>
        rw [nI_pred, nI_toInt (by omega)] at h2
        omega
  · exact h1
/-! ===== the words of the promises, over a row of 346 numbers ===== -/
def MISS : Int32 := -1000000000
def far (a b : Int32) : Int32 := if a < b then b - a else a - b
def dn (u l : Int64) : Int64 := if u < u / l * l then u / l - 1 else u / l
def rdc (r : Nat → Int32) (e : Nat) (t : Int32) : Int32 := t + r (6 + 4 * e + 2) + (dn ((r (6 + 4 * e + 3)).toInt64 * t.toInt64) 10000).toInt32
def toldAs (c : Int32) : Int64 := -9223372036854775808 - c.toInt64
/-- the sum of what f gives below n -/
def sumN (f : Nat → Int32) : Nat → Int32
  | 0 => 0
  | k + 1 => sumN f k + f k
/-- a history of at most 4 with one more -/
def hpush (nh : Nat) (h : Nat → Nat → Int32) (x : Nat → Int32) : Nat → Nat → Int32 := fun i => if nh = 4 then (if i = 3 then x else h (i + 1)) else (if i = nh then x else h i)
def nup (nh : Nat) : Nat := if nh = 4 then 4 else nh + 1
def hof (p : Nat → Int32) : Nat → Nat → Int32 := fun i k => p (346 * i + k)
/-- same below n -/
def eqN (n : Nat) (f g : Nat → Int32) : Prop := ∀ k, k < n → f k = g k
def eqH (n : Nat) (f g : Nat → Nat → Int32) : Prop := ∀ i, i < n → eqN 346 (f i) (g i)
theorem eqN.rf {n : Nat} {f : Nat → Int32} : eqN n f f := fun _ _ => rfl
theorem nup_le {nh : Nat} (h : nh ≤ 4) : nup nh ≤ 4 := by unfold nup; split <;> omega
/-- what an act does to row and history: nothing, or a new row -/
def NX (nx : Option (Nat → Int32)) (r p : Nat → Int32) (nh : Nat) (r' p' : Nat → Int32) (nh' : Nat) : Prop := match nx with
  | none => nh' = nh ∧ eqN 346 r' r ∧ eqH nh (hof p') (hof p)
  | some x => nh' = nup nh ∧ eqN 346 r' x ∧ eqH (nup nh) (hof p') (hpush nh (hof p) r)
theorem NX.nil {r p : Nat → Int32} {nh : Nat} : NX none r p nh r p nh := ⟨rfl, eqN.rf, fun _ _ => eqN.rf⟩
theorem eqN_put {m : Nat} {f g : Nat → Int32} {i : Nat} {x : Int32} (h : eqN m f g) (hx : x = g i) : eqN m (upd f i x) g := by
  intro k hk
  by_cases e : k = i
  · subst e; simp [upd, hx]
  · simp [upd, e, h k hk]
/-- the row with one more in place j: both written at j -/
theorem eqN_upd {m : Nat} {f g : Nat → Int32} {i : Nat} {x : Int32} (h : eqN m f g) : eqN m (upd f i x) (upd g i x) := by
  intro k hk
  by_cases e : k = i <;> simp [upd, e, h k hk]
/-- a copy that has come to i -/
theorem eqN_cpy {i : Nat} {f g : Nat → Int32} (h : eqN i f g) : eqN (i + 1) (upd f i (g i)) g := by
  intro k hk
  by_cases e : k = i
  · subst e; simp [upd]
  · simp [upd, e, h k (by omega)]
theorem upd_s {f : Nat → Int32} {k : Nat} {x : Int32} : upd f k x k = x := by simp [upd]
theorem upd_n {f : Nat → Int32} {k j : Nat} {x : Int32} (h : j ≠ k) : upd f k x j = f j := by simp [upd, h]
def Bset (r : Nat → Int32) (place : Int32) : Nat → Int32 := upd (upd (upd (upd (upd r (6 + 4 * (r 0).toNatClampNeg) place) (6 + 4 * (r 0).toNatClampNeg + 1) 0) (6 + 4 * (r 0).toNatClampNeg + 2) 0) (6 + 4 * (r 0).toNatClampNeg + 3) 0) 0 (r 0 + 1)
def sBury (r : Nat → Int32) (ne : Nat) (place : Int32) : Int32 × Option (Nat → Int32) :=
  if 0 ≤ place ∧ place ≤ 1000 then (if ne = 10 then (-3, none) else (nI ne, some (upd (upd (upd (upd (upd r (6 + 4 * ne) place) (6 + 4 * ne + 1) 0) (6 + 4 * ne + 2) 0) (6 + 4 * ne + 3) 0) 0 (nI (ne + 1))))) else (-2, none)
def sClock (r : Nat → Int32) (ne : Nat) (ear off dr : Int32) : Int32 × Option (Nat → Int32) :=
  if ear < 0 ∨ ne ≤ ear.toNatClampNeg then (-1, none)
  else if ¬ ((-500 ≤ off ∧ off ≤ 500) ∧ (-50 ≤ dr ∧ dr ≤ 50)) then (-2, none)
  else if r (6 + 4 * ear.toNatClampNeg + 2) = off ∧ r (6 + 4 * ear.toNatClampNeg + 3) = dr then (-5, none)
  else (1, some (upd (upd r (6 + 4 * ear.toNatClampNeg + 2) off) (6 + 4 * ear.toNatClampNeg + 3) dr))
def flg (b : Int32) : Int32 := if b = 0 then 0 else 1
def sMute (r : Nat → Int32) (ne : Nat) (ear b : Int32) : Int32 × Option (Nat → Int32) :=
  if ear < 0 ∨ ne ≤ ear.toNatClampNeg then (-1, none)
  else if r (6 + 4 * ear.toNatClampNeg + 1) = flg b then (-5, none)
  else (sumN (fun e => (upd r (6 + 4 * ear.toNatClampNeg + 1) (flg b)) (6 + 4 * e + 1)) ne, some (upd r (6 + 4 * ear.toNatClampNeg + 1) (flg b)))
def sSet (r : Nat → Int32) (what value : Int32) : Int32 × Option (Nat → Int32) :=
  if what = 0 then (if 1 ≤ value ∧ value ≤ 20 then (if r 3 = value then (-5, none) else (r 3, some (upd r 3 value))) else (-2, none))
  else if what = 1 then (if 0 ≤ value ∧ value ≤ 500 then (if r 4 = value then (-5, none) else (r 4, some (upd r 4 value))) else (-2, none))
  else (-2, none)
theorem cpS1 {i : Nat} {p past : Nat → Int32} (h1 : ∀ j, j < i → p j = past (346 + j)) (h2 : ∀ j, i ≤ j → j < 1384 → p j = past j) (hi : i < 1038) : ∀ j, j < i + 1 → upd p i (p (346 + i)) j = past (346 + j) := by
  intro j hj
  by_cases e : j = i
  · subst e
    rw [upd_s]
    exact h2 _ (by omega) (by omega)
  · rw [upd_n e]
    exact h1 j (by omega)
theorem cpS2 {i : Nat} {p past : Nat → Int32} {x : Int32} (h2 : ∀ j, i ≤ j → j < 1384 → p j = past j) : ∀ j, i + 1 ≤ j → j < 1384 → upd p i x j = past j := by
  intro j h1 h3
  rw [upd_n (by omega)]
  exact h2 j (by omega) h3
theorem cpP1 {i b : Nat} {q f : Nat → Int32} (h : ∀ j, j < i → q (b + j) = f j) : ∀ j, j < i + 1 → upd q (b + i) (f i) (b + j) = f j := by
  intro j hj
  by_cases e : j = i
  · subst e; rw [upd_s]
  · rw [upd_n (by omega)]; exact h j (by omega)
theorem cpP2 {i b : Nat} {q f : Nat → Int32} {x : Int32} (h : ∀ j, j < b → q j = f j) : ∀ j, j < b → upd q (b + i) x j = f j := by
  intro j hj
  rw [upd_n (by omega)]
  exact h j hj
theorem recA {p1 past q bef : Nat → Int32} {m m2 : Nat} (h0 : 1038 ≤ m) (hp1 : ∀ j, j < m → p1 j = past (346 + j)) (h1 : 346 ≤ m2) (hq1 : ∀ j, j < m2 → q (346 * 3 + j) = bef j) (hq2 : ∀ j, j < 346 * 3 → q j = p1 j) : eqH (nup 4) (hof q) (hpush 4 (hof past) bef) := by
  intro i hi k hk
  have h4 : nup 4 = 4 := rfl
  rw [h4] at hi
  show q (346 * i + k) = _
  unfold hpush
  rw [if_pos rfl]
  by_cases e : i = 3
  · subst e
    rw [if_pos rfl]
    exact hq1 k (by omega)
  · rw [if_neg e, hq2 (346 * i + k) (by omega)]
    show p1 (346 * i + k) = past (346 * (i + 1) + k)
    rw [hp1 (346 * i + k) (by omega)]
    congr 1
    omega
theorem recB {past q bef : Nat → Int32} {m2 nh : Nat} (hn : ¬ nh = 4) (h1 : 346 ≤ m2) (hq1 : ∀ j, j < m2 → q (346 * nh + j) = bef j) (hq2 : ∀ j, j < 346 * nh → q j = past j) : eqH (nup nh) (hof q) (hpush nh (hof past) bef) := by
  intro i hi k hk
  have h4 : nup nh = nh + 1 := if_neg hn
  rw [h4] at hi
  show q (346 * i + k) = _
  unfold hpush
  rw [if_neg hn]
  by_cases e : i = nh
  · subst e
    rw [if_pos rfl]
    exact hq1 k (by omega)
  · rw [if_neg e, hq2 (346 * i + k) (by
      have : i + 1 ≤ nh := by omega
      have := Nat.mul_le_mul_left 346 this
      omega)]
    rfl
theorem hpush_cg {n nh : Nat} {q h : Nat → Nat → Int32} {g r : Nat → Int32} (hg : eqN 346 g r) (hq : eqH n q (hpush nh h g)) : eqH n q (hpush nh h r) := by
  intro i hi k hk
  rw [hq i hi k hk]
  unfold hpush
  repeat' split
  all_goals first | rfl | exact hg k hk
theorem nI_sub1 {n : Nat} (h : 0 < n) : nI n - 1 = nI (n - 1) := by
  rw [show n = (n - 1) + 1 by omega, nI_pred]; simp
theorem cpyH {i m nh : Nat} {g past : Nat → Int32} (hg : ∀ j, j < i → g j = past (346 * m + j)) (hi : 346 ≤ i) : eqN 346 g (hof past m) := fun k hk => hg k (by omega)
theorem cpyS {i b : Nat} {g p : Nat → Int32} (h : ∀ j, j < i → g j = p (b + j)) : ∀ j, j < i + 1 → upd g i (p (b + i)) j = p (b + j) := by
  intro j hj
  by_cases e : j = i
  · subst e; rw [upd_s]
  · rw [upd_n e]; exact h j (by omega)
/-- what an ear writes down of what comes at p, t with the reach c -/
def hv (r : Nat → Int32) (ne : Nat) (p t c : Int32) (e : Nat) : Int32 := if e < ne ∧ r (6 + 4 * e + 1) = 0 ∧ far p (r (6 + 4 * e)) ≤ c then rdc r e (t + r 3 * far p (r (6 + 4 * e))) else MISS
def hcnt (r : Nat → Int32) (ne : Nat) (p c : Int32) : Nat → Int32
  | 0 => 0
  | e + 1 => hcnt r ne p c e + (if e < ne ∧ r (6 + 4 * e + 1) = 0 ∧ far p (r (6 + 4 * e)) ≤ c then 1 else 0)
/-- the row while what comes is written: its own five numbers, then what the first ears write down -/
def stg (r : Nat → Int32) (ne k m : Nat) (p t c : Int32) : Nat → (Nat → Int32)
  | 0 => upd (upd (upd (upd (upd r (46 + 50 * k + 5 * m) p) (46 + 50 * k + 5 * m + 1) t) (46 + 50 * k + 5 * m + 2) c) (46 + 50 * k + 5 * m + 3) (r 3)) (46 + 50 * k + 5 * m + 4) 0
  | e + 1 => upd (stg r ne k m p t c e) (146 + 100 * k + 10 * m + e) (hv r ne p t c e)
def mkR (r : Nat → Int32) (ne k m : Nat) (p t c : Int32) : Nat → Int32 := upd (upd (stg r ne k m p t c 10) (1 + k) (nI (m + 1))) 5 t
def mkS (r : Nat → Int32) (ne k m : Nat) (p t c : Int32) : Int32 × (Nat → Int32) :=
  if (0 ≤ p ∧ p ≤ 1000) ∧ (0 ≤ t ∧ t ≤ 100000) ∧ (1 ≤ c ∧ c ≤ 1000) then (if t < r 5 then (-4, r) else if m = 10 then (-3, r) else (hcnt r ne p c 10, mkR r ne k m p t c)) else (-2, r)
theorem stg_lo {r : Nat → Int32} {ne k m : Nat} {p t c : Int32} {j : Nat} (hj : j < 46) : ∀ e, stg r ne k m p t c e j = r j
  | 0 => by
    unfold stg
    rw [upd_n (by omega), upd_n (by omega), upd_n (by omega), upd_n (by omega), upd_n (by omega)]
  | e + 1 => by
    unfold stg
    rw [upd_n (by omega)]
    exact stg_lo hj e
theorem rdc_cg {f r : Nat → Int32} {e : Nat} {t : Int32} (he : e < 10) (h : ∀ j, j < 46 → f j = r j) : rdc f e t = rdc r e t := by
  unfold rdc
  rw [h _ (by omega), h _ (by omega)]
theorem hcnt_b (r : Nat → Int32) (ne : Nat) (p c : Int32) : ∀ e, ∃ j, j ≤ e ∧ hcnt r ne p c e = nI j
  | 0 => ⟨0, Nat.le_refl _, rfl⟩
  | e + 1 => by
    obtain ⟨j, h1, h2⟩ := hcnt_b r ne p c e
    unfold hcnt
    rw [h2]
    split
    · exact ⟨j + 1, by omega, nI_1 j⟩
    · exact ⟨j, by omega, by simp⟩
theorem hcnt_nn (r : Nat → Int32) (ne : Nat) (p c : Int32) : ¬ hcnt r ne p c 10 < 0 := by
  obtain ⟨j, h1, h2⟩ := hcnt_b r ne p c 10
  rw [h2]
  exact nI_pos (by omega)
theorem mkS_err {r : Nat → Int32} {ne k m : Nat} {p t c : Int32} (h : (mkS r ne k m p t c).1 < 0) : (mkS r ne k m p t c).2 = r := by
  unfold mkS at h ⊢
  repeat' split
  all_goals first | rfl | skip
  rename_i h1 h2 h3
  simp [h1, h2, h3] at h
  exact absurd h (hcnt_nn r ne p c)
def sAct (r : Nat → Int32) (ne k m : Nat) (p t c : Int32) : Int32 × Option (Nat → Int32) := if (mkS r ne k m p t c).1 < 0 then ((mkS r ne k m p t c).1, none) else ((mkS r ne k m p t c).1, some (mkS r ne k m p t c).2)
def sLeave (r : Nat → Int32) (nt : Nat) (th b : Int32) : Int32 × Option (Nat → Int32) :=
  if th < 0 ∨ nt ≤ th.toNatClampNeg then (-1, none)
  else if r (46 + 5 * th.toNatClampNeg + 4) = flg b then (-5, none)
  else (sumN (fun e => (upd r (46 + 5 * th.toNatClampNeg + 4) (flg b)) (46 + 5 * e + 4)) nt, some (upd r (46 + 5 * th.toNatClampNeg + 4) (flg b)))
theorem in01 {x : Int32} (h : 0 ≤ x ∧ x ≤ 1) : x = 0 ∨ x = 1 := by
  obtain ⟨h1, h2⟩ := h
  rw [Int32.le_iff_toInt_le] at h1 h2
  have e0 : (0 : Int32).toInt = 0 := by decide
  have e1 : (1 : Int32).toInt = 1 := by decide
  rw [← Int32.toInt_inj, ← Int32.toInt_inj, e0, e1]
  omega
theorem stg_step {r : Nat → Int32} {ne k m e : Nat} {p t c x : Int32} {v : va_E} {cA : ClassId} (h : v = .inl (cA, 346, .inl (upd (stg r ne k m p t c e) (146 + 100 * k + 10 * m + e) x))) (hx : x = hv r ne p t c e) : v = .inl (cA, 346, .inl (stg r ne k m p t c (e + 1))) := by
  rw [h, hx]; rfl
/-! ===== texts of orders ===== -/
def numL (tx : Nat → Int32) (ln : Nat) : Nat → Int32 → Nat → Int32 × Nat
  | 0, v, p => (v, p)
  | f + 1, v, p => if 0 < v ∧ (p < ln ∧ 48 ≤ tx p ∧ tx p ≤ 57) then numL tx ln f (10 * v + tx p - 48) (p + 1) else (v, p)
def numV (tx : Nat → Int32) (ln p : Nat) : Int32 := if p < ln ∧ 48 ≤ tx p ∧ tx p ≤ 57 then (numL tx ln 5 (tx p - 48) (p + 1)).1 else -5
def numP (tx : Nat → Int32) (ln p : Nat) : Nat := if p < ln ∧ 48 ≤ tx p ∧ tx p ≤ 57 then (numL tx ln 5 (tx p - 48) (p + 1)).2 else p
abbrev Ord := Nat × Int32 × Int32 × Int32
def ordQ (tx : Nat → Int32) (ln k p : Nat) : Nat × Option Ord :=
  if p < ln ∧ 48 ≤ tx p ∧ tx p ≤ 57 then
    if numP tx ln p < ln ∧ tx (numP tx ln p) = 64 then
      if numP tx ln p + 1 < ln ∧ 48 ≤ tx (numP tx ln p + 1) ∧ tx (numP tx ln p + 1) ≤ 57 then
        if numP tx ln (numP tx ln p + 1) < ln ∧ tx (numP tx ln (numP tx ln p + 1)) = 42 then
          if numP tx ln (numP tx ln p + 1) + 1 < ln ∧ 48 ≤ tx (numP tx ln (numP tx ln p + 1) + 1) ∧ tx (numP tx ln (numP tx ln p + 1) + 1) ≤ 57 then
            (numP tx ln (numP tx ln (numP tx ln p + 1) + 1), some (k, numV tx ln p, numV tx ln (numP tx ln p + 1), numV tx ln (numP tx ln (numP tx ln p + 1) + 1)))
          else (numP tx ln (numP tx ln p + 1) + 1, none)
        else (numP tx ln (numP tx ln p + 1), some (k, numV tx ln p, numV tx ln (numP tx ln p + 1), 1000))
      else (numP tx ln p + 1, none)
    else (numP tx ln p, none)
  else (p, none)
def ordP (tx : Nat → Int32) (ln p : Nat) : Nat × Option Ord :=
  if p < ln ∧ tx p = 116 then ordQ tx ln 0 (p + 1) else if p < ln ∧ tx p = 107 then ordQ tx ln 1 (p + 1) else (p, none)
/-- the orders of a text from the place p on, and its fault -/
def prs (tx : Nat → Int32) (ln : Nat) : Nat → Nat → List Ord × Option Nat
  | 0, _ => ([], some 0)
  | f + 1, p => match ordP tx ln p with
    | (q, none) => ([], some q)
    | (q, some o) => if q < ln ∧ tx q = 59 then (o :: (prs tx ln f (q + 1)).1, (prs tx ln f (q + 1)).2) else ([o], if q < ln then some q else none)
/-- orders done one after the other, till one has an error -/
def rl (ne : Nat) : List Ord → (Nat → Int32) → Nat → Nat → Int32 × (Nat → Int32)
  | [], r, _, _ => (0, r)
  | (k, p, t, c) :: os, r, nt, nk => if (mkS r ne k (if k = 0 then nt else nk) p t c).1 < 0 then (mkS r ne k (if k = 0 then nt else nk) p t c) else rl ne os (mkS r ne k (if k = 0 then nt else nk) p t c).2 (if k = 0 then nt + 1 else nt) (if k = 0 then nk else nk + 1)
def sRead (r : Nat → Int32) (ne nt nk : Nat) (tx : Nat → Int32) (ln : Nat) : Int32 × Option (Nat → Int32) :=
  match (prs tx ln 61 0).2 with
  | some q => (-100 - nI q, none)
  | none => if (rl ne (prs tx ln 61 0).1 r nt nk).1 < 0 then ((rl ne (prs tx ln 61 0).1 r nt nk).1, none) else (nI (prs tx ln 61 0).1.length, some (rl ne (prs tx ln 61 0).1 r nt nk).2)
theorem numL_q {tx : Nat → Int32} {ln : Nat} : ∀ (f : Nat) (v : Int32) (p : Nat), p ≤ ln → p ≤ (numL tx ln f v p).2 ∧ (numL tx ln f v p).2 ≤ ln
  | 0, v, p, h => ⟨Nat.le_refl _, h⟩
  | f + 1, v, p, h => by
    unfold numL
    split
    · rename_i h1
      have := numL_q (tx := tx) (ln := ln) f (10 * v + tx p - 48) (p + 1) (by omega)
      omega
    · exact ⟨Nat.le_refl _, h⟩
theorem numP_ge {tx : Nat → Int32} {ln p : Nat} : p ≤ numP tx ln p := by
  unfold numP
  split
  · rename_i h
    have := numL_q (tx := tx) (ln := ln) 5 (tx p - 48) (p + 1) (by omega)
    omega
  · exact Nat.le_refl _
theorem numP_le {tx : Nat → Int32} {ln p : Nat} (h : p ≤ ln) : numP tx ln p ≤ ln := by
  unfold numP
  split
  · exact (numL_q 5 _ _ (by omega)).2
  · exact h
theorem numP_gt {tx : Nat → Int32} {ln p : Nat} (h : p < ln ∧ 48 ≤ tx p ∧ tx p ≤ 57) : p < numP tx ln p := by
  unfold numP
  rw [if_pos h]
  have := numL_q (tx := tx) (ln := ln) 5 (tx p - 48) (p + 1) (by omega)
  omega
theorem i32_lit (n : Nat) (h : n < 2 ^ 31) : (Int32.ofNat n).toInt = n := nI_toInt h
theorem dig {x : Int32} (h1 : 48 ≤ x) (h2 : x ≤ 57) : ∃ d : Nat, d < 10 ∧ x = nI (48 + d) := by
  rw [Int32.le_iff_toInt_le] at h1 h2
  have e0 : (48 : Int32).toInt = 48 := by decide
  have e1 : (57 : Int32).toInt = 57 := by decide
  refine ⟨(x.toInt - 48).toNat, by omega, ?_⟩
  rw [← Int32.toInt_inj, nI_toInt (by omega)]
  omega
theorem numL_v {tx : Nat → Int32} {ln : Nat} : ∀ (f v p : Nat) (m : Nat), v < m → m * 10 ^ f ≤ 1000000 → ∃ w : Nat, w < 1000000 ∧ (numL tx ln f (nI v) p).1 = nI w
  | 0, v, p, m, h, hm => ⟨v, by omega, rfl⟩
  | f + 1, v, p, m, h, hm => by
    unfold numL
    have hp : 0 < 10 ^ f := Nat.pow_pos (by omega)
    have hm2 : m * 10 * 10 ^ f ≤ 1000000 := by rw [Nat.mul_assoc, ← Nat.pow_succ']; exact hm
    have hm3 : m * 10 ≤ 1000000 := Nat.le_trans (Nat.le_mul_of_pos_right _ hp) hm2
    split
    · rename_i h1
      obtain ⟨d, hd, e⟩ := dig h1.2.2.1 h1.2.2.2
      have : 10 * nI v + tx p - 48 = nI (10 * v + d) := by
        rw [e, show (48 : Int32) = nI 48 from rfl, show (10 : Int32) = nI 10 from rfl, pk_mul, nI_add, pk_sub (by omega)]
        congr 1
        omega
      rw [this]
      exact numL_v f (10 * v + d) (p + 1) (m * 10) (by omega) hm2
    · exact ⟨v, by omega, rfl⟩
theorem numV_b {tx : Nat → Int32} {ln p : Nat} (h : p < ln ∧ 48 ≤ tx p ∧ tx p ≤ 57) : ∃ w : Nat, w < 1000000 ∧ numV tx ln p = nI w := by
  obtain ⟨d, hd, e⟩ := dig h.2.1 h.2.2
  unfold numV
  rw [if_pos h]
  have : tx p - 48 = nI d := by
    rw [e, show (48 : Int32) = nI 48 from rfl, pk_sub (by omega)]
    congr 1
    omega
  rw [this]
  exact numL_v 5 d (p + 1) 10 hd (by decide)
theorem numV_ge {tx : Nat → Int32} {ln p : Nat} (h : ¬ numV tx ln p < 0) : p < ln ∧ 48 ≤ tx p ∧ tx p ≤ 57 := by
  by_cases hd : p < ln ∧ 48 ≤ tx p ∧ tx p ≤ 57
  · exact hd
  · exfalso
    apply h
    unfold numV
    rw [if_neg hd]
    decide
theorem numV_lt {tx : Nat → Int32} {ln p : Nat} (h : numV tx ln p < 0) : ¬ (p < ln ∧ 48 ≤ tx p ∧ tx p ≤ 57) := by
  intro hd
  obtain ⟨w, h1, h2⟩ := numV_b hd
  rw [h2] at h
  exact nI_pos (by omega) h
theorem numP_no {tx : Nat → Int32} {ln p : Nat} (h : ¬ (p < ln ∧ 48 ≤ tx p ∧ tx p ≤ 57)) : numP tx ln p = p := if_neg h
