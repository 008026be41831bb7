/-! ===== acts keep that a State stands for a row ===== -/
def IE (r : Nat → Int32) (ne : Nat) : Prop := ∀ e, e < ne → (0 ≤ (r (6 + 4 * e + 0)).toInt ∧ (r (6 + 4 * e + 0)).toInt ≤ 1000) ∧ (r (6 + 4 * e + 1) = 0 ∨ r (6 + 4 * e + 1) = 1) ∧ (-500 ≤ (r (6 + 4 * e + 2)).toInt ∧ (r (6 + 4 * e + 2)).toInt ≤ 500) ∧ (-50 ≤ (r (6 + 4 * e + 3)).toInt ∧ (r (6 + 4 * e + 3)).toInt ≤ 50)
def IS (r : Nat → Int32) (nt nk : Nat) : Prop := ∀ k m, k < 2 → m < (if k = 0 then nt else nk) → (0 ≤ (r (46 + 50 * k + 5 * m + 0)).toInt ∧ (r (46 + 50 * k + 5 * m + 0)).toInt ≤ 1000) ∧ (0 ≤ (r (46 + 50 * k + 5 * m + 1)).toInt ∧ (r (46 + 50 * k + 5 * m + 1)).toInt ≤ 100000) ∧ (1 ≤ (r (46 + 50 * k + 5 * m + 3)).toInt ∧ (r (46 + 50 * k + 5 * m + 3)).toInt ≤ 20) ∧ (r (46 + 50 * k + 5 * m + 4) = 0 ∨ r (46 + 50 * k + 5 * m + 4) = 1) ∧ ∀ e, e < 10 → Rb (r (146 + 100 * k + 10 * m + e))
def CE (v : Nat → Nat → Int32) (r : Nat → Int32) (ne : Nat) : Prop := (∀ e, e < ne → v 1 e = r (6 + 4 * e + 0) ∧ v 4 e = r (6 + 4 * e + 1) ∧ v 2 e = r (6 + 4 * e + 2) ∧ v 3 e = r (6 + 4 * e + 3)) ∧ (∀ e, ne ≤ e → e < 10 → v 2 e = 0 ∧ v 3 e = 0 ∧ v 4 e = 0)
def CT (v : Nat → Nat → Int32) (r : Nat → Int32) (nt : Nat) : Prop := (∀ m, m < nt → v 7 m = r (46 + 50 * 0 + 5 * m + 0) ∧ v 8 m = r (46 + 50 * 0 + 5 * m + 1) ∧ v 9 m = r (46 + 50 * 0 + 5 * m + 3) ∧ v 5 m = r (46 + 50 * 0 + 5 * m + 4) ∧ ∀ e, e < 10 → Rd (v (11 + m) e) (r (146 + 100 * 0 + 10 * m + e))) ∧ (∀ m, nt ≤ m → m < 10 → v 5 m = 0)
def CK (v : Nat → Nat → Int32) (r : Nat → Int32) (nk : Nat) : Prop := ∀ m, m < nk → v 22 m = r (46 + 50 * 1 + 5 * m + 0) ∧ v 23 m = r (46 + 50 * 1 + 5 * m + 1) ∧ v 24 m = r (46 + 50 * 1 + 5 * m + 3) ∧ ∀ e, e < 10 → Rd (v (26 + m) e) (r (146 + 100 * 1 + 10 * m + e))
section CanA
variable {v v' : Nat → Nat → Int32} {r r' : Nat → Int32} {ne nt nk : Nat}
theorem Can.ie (h : Can v r ne nt nk) : IE r ne := h.1.2.2.2.2.2.2.1
theorem Can.is (h : Can v r ne nt nk) : IS r nt nk := h.1.2.2.2.2.2.2.2
theorem Can.ce (h : Can v r ne nt nk) : CE v r ne := ⟨h.2.2.1, h.2.2.2.1⟩
theorem Can.ct (h : Can v r ne nt nk) : CT v r nt := ⟨h.2.2.2.2.1, h.2.2.2.2.2.1⟩
theorem Can.ck (h : Can v r ne nt nk) : CK v r nk := h.2.2.2.2.2.2
theorem Can.b3 (h : Can v r ne nt nk) : 1 ≤ (r 3).toInt ∧ (r 3).toInt ≤ 20 := h.1.2.2.2.1
theorem Can.b4 (h : Can v r ne nt nk) : 0 ≤ (r 4).toInt ∧ (r 4).toInt ≤ 500 := h.1.2.2.2.2.1
theorem Can.b5 (h : Can v r ne nt nk) : 0 ≤ (r 5).toInt ∧ (r 5).toInt ≤ 100000 := h.1.2.2.2.2.2.1
theorem Can.mk (e0 : r 0 = nI ne) (l0 : ne ≤ 10) (e1 : r 1 = nI nt) (l1 : nt ≤ 10) (e2 : r 2 = nI nk) (l2 : nk ≤ 10) (b3 : 1 ≤ (r 3).toInt ∧ (r 3).toInt ≤ 20) (b4 : 0 ≤ (r 4).toInt ∧ (r 4).toInt ≤ 500) (b5 : 0 ≤ (r 5).toInt ∧ (r 5).toInt ≤ 100000)
    (hIE : IE r ne) (hIS : IS r nt nk) (w0 : v 0 0 = nI ne) (w1 : v 6 0 = nI nt) (w2 : v 21 0 = nI nk) (w3 : v 0 1 = r 3) (w4 : v 0 2 = r 4) (w5 : v 0 3 = r 5) (hCE : CE v r ne) (hCT : CT v r nt) (hCK : CK v r nk) : Can v r ne nt nk :=
  ⟨⟨⟨e0, l0⟩, ⟨e1, l1⟩, ⟨e2, l2⟩, b3, b4, b5, hIE, hIS⟩, ⟨w0, w1, w2, w3, w4, w5⟩, hCE.1, hCE.2, hCT.1, hCT.2, hCK⟩
theorem IE.cg (h : IE r ne) (hn : ne ≤ 10) (q : ∀ j, 6 ≤ j → j < 46 → r' j = r j) : IE r' ne := by
  intro e he
  have := h e he
  rw [q _ (by omega) (by omega), q _ (by omega) (by omega), q _ (by omega) (by omega), q _ (by omega) (by omega)]
  exact this
theorem IS.cg (h : IS r nt nk) (h1 : nt ≤ 10) (h2 : nk ≤ 10) (q : ∀ j, 46 ≤ j → j < 346 → r' j = r j) : IS r' nt nk := by
  intro k m hk hm
  have := h k m hk hm
  have hm10 : m < 10 := by split at hm <;> omega
  rw [q _ (by omega) (by omega), q _ (by omega) (by omega), q _ (by omega) (by omega), q _ (by omega) (by omega)]
  exact ⟨this.1, this.2.1, this.2.2.1, this.2.2.2.1, fun e he => by rw [q _ (by omega) (by omega)]; exact this.2.2.2.2 e he⟩
theorem CE.cg (h : CE v r ne) (hn : ne ≤ 10) (q : ∀ j, 6 ≤ j → j < 46 → r' j = r j) (w1 : v' 1 = v 1) (w2 : v' 2 = v 2) (w3 : v' 3 = v 3) (w4 : v' 4 = v 4) : CE v' r' ne := by
  unfold CE
  rw [w1, w2, w3, w4]
  refine ⟨fun e he => ?_, h.2⟩
  have := h.1 e he
  rw [q _ (by omega) (by omega), q _ (by omega) (by omega), q _ (by omega) (by omega), q _ (by omega) (by omega)]
  exact this
theorem CT.cg (h : CT v r nt) (hn : nt ≤ 10) (q : ∀ j, (46 ≤ j ∧ j < 96) ∨ (146 ≤ j ∧ j < 246) → r' j = r j) (w7 : v' 7 = v 7) (w8 : v' 8 = v 8) (w9 : v' 9 = v 9) (w5 : v' 5 = v 5) (w : ∀ m, m < 10 → v' (11 + m) = v (11 + m)) : CT v' r' nt := by
  unfold CT
  rw [w7, w8, w9, w5]
  refine ⟨fun m hm => ?_, h.2⟩
  have := h.1 m hm
  rw [q _ (by omega), q _ (by omega), q _ (by omega), q _ (by omega)]
  exact ⟨this.1, this.2.1, this.2.2.1, this.2.2.2.1, fun e he => by rw [q _ (by omega), w m (by omega)]; exact this.2.2.2.2 e he⟩
theorem CK.cg (h : CK v r nk) (hn : nk ≤ 10) (q : ∀ j, (96 ≤ j ∧ j < 146) ∨ (246 ≤ j ∧ j < 346) → r' j = r j) (w7 : v' 22 = v 22) (w8 : v' 23 = v 23) (w9 : v' 24 = v 24) (w : ∀ m, m < 10 → v' (26 + m) = v (26 + m)) : CK v' r' nk := by
  unfold CK
  rw [w7, w8, w9]
  intro m hm
  have := h m hm
  rw [q _ (by omega), q _ (by omega), q _ (by omega)]
  exact ⟨this.1, this.2.1, this.2.2.1, fun e he => by rw [q _ (by omega), w m (by omega)]; exact this.2.2.2 e he⟩
/-- only the first 346 numbers of a row count -/
theorem Can.cg (h : Can v r ne nt nk) (q : eqN 346 r' r) : Can v r' ne nt nk := by
  have q2 : ∀ j, 6 ≤ j → j < 46 → r' j = r j := fun j _ _ => q j (by omega)
  exact Can.mk ((q 0 (by omega)).trans h.i.h0) h.i.e0 ((q 1 (by omega)).trans h.i.h1) h.i.e1 ((q 2 (by omega)).trans h.i.h2) h.i.e2 (by rw [q 3 (by omega)]; exact h.b3) (by rw [q 4 (by omega)]; exact h.b4) (by rw [q 5 (by omega)]; exact h.b5)
    (h.ie.cg h.i.e0 q2) (h.is.cg h.i.e1 h.i.e2 (fun j _ _ => q j (by omega))) h.n0 h.n1 h.n2 (by rw [q 3 (by omega)]; exact h.r3) (by rw [q 4 (by omega)]; exact h.r4) (by rw [q 5 (by omega)]; exact h.r5)
    (h.ce.cg h.i.e0 q2 rfl rfl rfl rfl) (h.ct.cg h.i.e1 (fun j hj => q j (by omega)) rfl rfl rfl rfl (fun _ _ => rfl)) (h.ck.cg h.i.e2 (fun j hj => q j (by omega)) rfl rfl rfl (fun _ _ => rfl))
/-- only the first ten numbers of each array count -/
theorem Can.veq (h : Can v r ne nt nk) (q : vEq v' v) : Can v' r ne nt nk := by
  have he := h.i.e0
  have ht := h.i.e1
  have hk := h.i.e2
  refine Can.mk h.i.h0 h.i.e0 h.i.h1 h.i.e1 h.i.h2 h.i.e2 h.b3 h.b4 h.b5 h.ie h.is ((q 0 0 (by omega)).trans h.n0) ((q 6 0 (by omega)).trans h.n1) ((q 21 0 (by omega)).trans h.n2) ((q 0 1 (by omega)).trans h.r3) ((q 0 2 (by omega)).trans h.r4) ((q 0 3 (by omega)).trans h.r5) ⟨fun e hh => ?_, fun e h1 h2 => ?_⟩ ⟨fun m hm => ?_, fun m h1 h2 => ?_⟩ (fun m hm => ?_)
  · rw [q 1 e (by omega), q 2 e (by omega), q 3 e (by omega), q 4 e (by omega)]; exact h.ear hh
  · rw [q 2 e (by omega), q 3 e (by omega), q 4 e (by omega)]; exact h.bey h1 h2
  · rw [q 7 m (by omega), q 8 m (by omega), q 9 m (by omega), q 5 m (by omega)]
    obtain ⟨a, b, c, d, f⟩ := h.th hm
    exact ⟨a, b, c, d, fun e hh => by rw [q _ e hh]; exact f e hh⟩
  · rw [q 5 m (by omega)]; exact h.beyT h1 h2
  · rw [q 22 m (by omega), q 23 m (by omega), q 24 m (by omega)]
    obtain ⟨a, b, c, f⟩ := h.kn hm
    exact ⟨a, b, c, fun e hh => by rw [q _ e hh]; exact f e hh⟩
theorem Cn.veq (h : Cn v r) (q : vEq v' v) : Cn v' r := by
  obtain ⟨a, b, c, h⟩ := h
  exact ⟨a, b, c, h.veq q⟩
theorem Cn.cg (h : Cn v r) (q : eqN 346 r' r) : Cn v r' := by
  obtain ⟨a, b, c, h⟩ := h
  exact ⟨a, b, c, h.cg q⟩
end CanA
theorem hist_push {v w : Nat → Nat → Int32} {r : Nat → Int32} {nh : Nat} {vh : Nat → Nat → Nat → Int32} {H : Nat → Nat → Int32} (hh : ∀ i, i < nh → Cn (vh i) (H i)) (hv : Cn v r) (hw : vEq w v) (hnh : nh ≤ 4) : ∀ i, i < nup nh → Cn (va_up (pRot nh vh) (pAt nh) w i) (hpush nh H r i) := by
  intro i hi
  unfold nup at hi
  unfold va_up pRot pAt hpush
  by_cases h4 : nh = 4
  · subst h4
    simp only [if_pos] at hi ⊢
    by_cases e : i = 3
    · rw [if_pos e, if_pos e]; exact hv.veq hw
    · rw [if_neg e, if_neg e]
      unfold rot
      rw [if_neg e, if_pos (by omega)]
      exact hh (i + 1) (by omega)
  · simp only [if_neg h4] at hi ⊢
    by_cases e : i = nh
    · rw [if_pos e, if_pos e]; exact hv.veq hw
    · rw [if_neg e, if_neg e]; exact hh i (by omega)
def nR (nx : Option (Nat → Int32)) (r : Nat → Int32) : Nat → Int32 := match nx with
  | none => r
  | some x => x
def nN (nx : Option (Nat → Int32)) (nh : Nat) : Nat := match nx with
  | none => nh
  | some _ => nup nh
def nHs (nx : Option (Nat → Int32)) (nh : Nat) (H : Nat → Nat → Int32) (r : Nat → Int32) : Nat → Nat → Int32 := match nx with
  | none => H
  | some _ => hpush nh H r
def oV (a b c d : Int32) : Nat → Int32 := fun i => if i = 0 then a else if i = 1 then b else if i = 2 then c else d
/-- the State's own numbers and one array put anew -/
theorem StA.pp {cA : Nat → ClassId} {ad : Nat → Nat} {E E' : Nat → va_E} {b : Nat} {v : Nat → Nat → Int32} (h : StA cA ad E b v) (j : Nat) {g f : Nat → Int32} (hj : isA j) (hb : E' b = .inr (5, [.ref (ad (b + 1)), .ref (ad (b + 2)), .ref (ad (b + 3)), .ref (ad (b + 4)), .ref (ad (b + 5)), .ref (ad (b + 6)), .ref (ad (b + 21)), .int (f 0), .int (f 1), .int (f 2), .int (f 3)])) (hE : E' (b + j) = .inl (cA (tgA j), 10, .inl g)) (hO : ∀ i, i ≠ b ∧ i ≠ b + j → E' i = E i) : StA cA ad E' b (vset (vset v j g) 0 f) := by
  obtain ⟨h1, h2, h3, h4, h5, h6⟩ := h
  have q := hj
  unfold isA at q
  refine ⟨hb, ?_, ?_, (hO _ (by omega)).trans h4, (hO _ (by omega)).trans h5, fun i hi => ?_⟩
  · rw [vset_n (by omega), vset_n (by omega)]; exact (hO _ (by omega)).trans h2
  · rw [vset_n (by omega), vset_n (by omega)]; exact (hO _ (by omega)).trans h3
  · have := hi.1
    rw [vset_n (by omega)]
    by_cases e : i = j
    · subst e; rw [vset_s]; exact hE
    · rw [vset_n e]; exact (hO _ (by omega)).trans (h6 i hi)
