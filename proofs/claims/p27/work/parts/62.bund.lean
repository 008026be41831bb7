/-! ===== what the constructors leave ===== -/
def SndW (cA : Nat → ClassId) (ad : Nat → Nat) (E : Nat → va_E) (b : Nat) : Prop :=
  E b = .inr (3, [.ref (ad (b + 1)), .ref (ad (b + 2)), .ref (ad (b + 3)), .ref (ad (b + 4)), .int 0]) ∧ E (b + 1) = .inl (cA 0, 10, .inl (fun _ => 0)) ∧ E (b + 2) = .inl (cA 0, 10, .inl (fun _ => 0)) ∧ E (b + 3) = .inl (cA 0, 10, .inl (fun _ => 0)) ∧
  (∃ f : Nat → Option Nat, E (b + 4) = .inl (cA 5, 10, .inr (.inr (.inr (.inr f)))) ∧ ∀ i, i < 10 → f i = some (ad (b + 5 + i))) ∧ ∀ i, i < 10 → E (b + 5 + i) = .inl (cA 0, 10, .inl (fun _ => 0))
theorem SndW.mv {cA : Nat → ClassId} {ad ad' : Nat → Nat} {E E' : Nat → va_E} {b : Nat} (h : SndW cA ad E b) (hE : ∀ j, b ≤ j → j < b + 15 → E' j = E j) (hA : ∀ j, b ≤ j → j < b + 15 → ad' j = ad j) : SndW cA ad' E' b := by
  obtain ⟨h1, h2, h3, h4, ⟨f, h5, h6⟩, h7⟩ := h
  refine ⟨?_, (hE _ (by omega) (by omega)).trans h2, (hE _ (by omega) (by omega)).trans h3, (hE _ (by omega) (by omega)).trans h4, ⟨f, (hE _ (by omega) (by omega)).trans h5, fun i hi => ?_⟩, fun i hi => (hE _ (by omega) (by omega)).trans (h7 i hi)⟩
  · rw [hA (b + 1) (by omega) (by omega), hA (b + 2) (by omega) (by omega), hA (b + 3) (by omega) (by omega), hA (b + 4) (by omega) (by omega)]
    exact (hE _ (by omega) (by omega)).trans h1
  · rw [hA (b + 5 + i) (by omega) (by omega)]
    exact h6 i hi
def StW (cA : Nat → ClassId) (ad : Nat → Nat) (E : Nat → va_E) (b : Nat) : Prop :=
  E b = .inr (5, [.ref (ad (b + 1)), .ref (ad (b + 2)), .ref (ad (b + 3)), .ref (ad (b + 4)), .ref (ad (b + 5)), .ref (ad (b + 6)), .ref (ad (b + 21)), .int 0, .int 3, .int 5, .int 0]) ∧
  E (b + 1) = .inl (cA 0, 10, .inl (fun _ => 0)) ∧ E (b + 2) = .inl (cA 0, 10, .inl (fun _ => 0)) ∧ E (b + 3) = .inl (cA 0, 10, .inl (fun _ => 0)) ∧ E (b + 4) = .inl (cA 2, 10, .inl (fun _ => 0)) ∧ E (b + 5) = .inl (cA 2, 10, .inl (fun _ => 0)) ∧
  SndW cA ad E (b + 6) ∧ SndW cA ad E (b + 21)
theorem StW.mv {cA : Nat → ClassId} {ad ad' : Nat → Nat} {E E' : Nat → va_E} {b : Nat} (h : StW cA ad E b) (hE : ∀ j, b ≤ j → j < b + 36 → E' j = E j) (hA : ∀ j, b ≤ j → j < b + 36 → ad' j = ad j) : StW cA ad' E' b := by
  obtain ⟨h1, h2, h3, h4, h5, h6, h7, h8⟩ := h
  refine ⟨?_, (hE _ (by omega) (by omega)).trans h2, (hE _ (by omega) (by omega)).trans h3, (hE _ (by omega) (by omega)).trans h4, (hE _ (by omega) (by omega)).trans h5, (hE _ (by omega) (by omega)).trans h6, h7.mv (fun j q1 q2 => hE j (by omega) (by omega)) (fun j q1 q2 => hA j (by omega) (by omega)), h8.mv (fun j q1 q2 => hE j (by omega) (by omega)) (fun j q1 q2 => hA j (by omega) (by omega))⟩
  rw [hA (b + 1) (by omega) (by omega), hA (b + 2) (by omega) (by omega), hA (b + 3) (by omega) (by omega), hA (b + 4) (by omega) (by omega), hA (b + 5) (by omega) (by omega), hA (b + 6) (by omega) (by omega), hA (b + 21) (by omega) (by omega)]
  exact (hE _ (by omega) (by omega)).trans h1
def HsW (cA : Nat → ClassId) (ad : Nat → Nat) (E : Nat → va_E) (b : Nat) : Prop :=
  E b = .inr (0, [.ref (ad (b + 1)), .int 0]) ∧ (∃ f : Nat → Option Nat, E (b + 1) = .inl (cA 4, 4, .inr (.inr (.inr (.inr f)))) ∧ ∀ i, i < 4 → f i = some (ad (b + 2 + 36 * i))) ∧ ∀ i, i < 4 → StW cA ad E (b + 2 + 36 * i)
theorem HsW.mv {cA : Nat → ClassId} {ad ad' : Nat → Nat} {E E' : Nat → va_E} {b : Nat} (h : HsW cA ad E b) (hE : ∀ j, b ≤ j → j < b + 146 → E' j = E j) (hA : ∀ j, b ≤ j → j < b + 146 → ad' j = ad j) : HsW cA ad' E' b := by
  obtain ⟨h1, ⟨f, h2, h3⟩, h4⟩ := h
  refine ⟨?_, ⟨f, (hE _ (by omega) (by omega)).trans h2, fun i hi => ?_⟩, fun i hi => (h4 i hi).mv (fun j q1 q2 => hE j (by omega) (by omega)) (fun j q1 q2 => hA j (by omega) (by omega))⟩
  · rw [hA (b + 1) (by omega) (by omega)]
    exact (hE _ (by omega) (by omega)).trans h1
  · rw [hA (b + 2 + 36 * i) (by omega) (by omega)]
    exact h3 i hi
def OtW (cA : Nat → ClassId) (ad : Nat → Nat) (E : Nat → va_E) (b : Nat) : Prop :=
  E b = .inr (2, [.ref (ad (b + 1)), .int 0, .ref (ad (b + 2)), .ref (ad (b + 3)), .ref (ad (b + 4)), .ref (ad (b + 5)), .int 0, .int 0, .int 0]) ∧ E (b + 1) = .inl (cA 3, 60, .inl (fun _ => 0)) ∧ E (b + 2) = .inl (cA 2, 60, .inl (fun _ => 0)) ∧ E (b + 3) = .inl (cA 0, 60, .inl (fun _ => 0)) ∧ E (b + 4) = .inl (cA 0, 60, .inl (fun _ => 0)) ∧ E (b + 5) = .inl (cA 0, 60, .inl (fun _ => 0))
theorem OtW.mv {cA : Nat → ClassId} {ad ad' : Nat → Nat} {E E' : Nat → va_E} {b : Nat} (h : OtW cA ad E b) (hE : ∀ j, b ≤ j → j < b + 6 → E' j = E j) (hA : ∀ j, b ≤ j → j < b + 6 → ad' j = ad j) : OtW cA ad' E' b := by
  obtain ⟨h1, h2, h3, h4, h5, h6⟩ := h
  refine ⟨?_, (hE _ (by omega) (by omega)).trans h2, (hE _ (by omega) (by omega)).trans h3, (hE _ (by omega) (by omega)).trans h4, (hE _ (by omega) (by omega)).trans h5, (hE _ (by omega) (by omega)).trans h6⟩
  rw [hA (b + 1) (by omega) (by omega), hA (b + 2) (by omega) (by omega), hA (b + 3) (by omega) (by omega), hA (b + 4) (by omega) (by omega), hA (b + 5) (by omega) (by omega)]
  exact (hE _ (by omega) (by omega)).trans h1
def MkW (cA : Nat → ClassId) (ad : Nat → Nat) (E : Nat → va_E) (b : Nat) : Prop :=
  E b = .inr (1, [.ref (ad (b + 1)), .ref (ad (b + 2)), .ref (ad (b + 3)), .int 0]) ∧ E (b + 1) = .inl (cA 0, 10, .inl (fun _ => 0)) ∧ E (b + 2) = .inl (cA 0, 10, .inl (fun _ => 0)) ∧ E (b + 3) = .inl (cA 0, 10, .inl (fun _ => 0))
theorem MkW.mv {cA : Nat → ClassId} {ad ad' : Nat → Nat} {E E' : Nat → va_E} {b : Nat} (h : MkW cA ad E b) (hE : ∀ j, b ≤ j → j < b + 4 → E' j = E j) (hA : ∀ j, b ≤ j → j < b + 4 → ad' j = ad j) : MkW cA ad' E' b := by
  obtain ⟨h1, h2, h3, h4⟩ := h
  refine ⟨?_, (hE _ (by omega) (by omega)).trans h2, (hE _ (by omega) (by omega)).trans h3, (hE _ (by omega) (by omega)).trans h4⟩
  rw [hA (b + 1) (by omega) (by omega), hA (b + 2) (by omega) (by omega), hA (b + 3) (by omega) (by omega)]
  exact (hE _ (by omega) (by omega)).trans h1
def SrW (cA : Nat → ClassId) (ad : Nat → Nat) (E : Nat → va_E) (b : Nat) : Prop :=
  E b = .inr (4, [.ref (ad (b + 1)), .ref (ad (b + 2)), .ref (ad (b + 3)), .int 0, .long 0, .int 0, .long 0, .long 0]) ∧ E (b + 1) = .inl (cA 0, 10, .inl (fun _ => 0)) ∧ E (b + 2) = .inl (cA 0, 10, .inl (fun _ => 0)) ∧ E (b + 3) = .inl (cA 1, 10, .inr (.inl (fun _ => 0)))
theorem SrW.mv {cA : Nat → ClassId} {ad ad' : Nat → Nat} {E E' : Nat → va_E} {b : Nat} (h : SrW cA ad E b) (hE : ∀ j, b ≤ j → j < b + 4 → E' j = E j) (hA : ∀ j, b ≤ j → j < b + 4 → ad' j = ad j) : SrW cA ad' E' b := by
  obtain ⟨h1, h2, h3, h4⟩ := h
  refine ⟨?_, (hE _ (by omega) (by omega)).trans h2, (hE _ (by omega) (by omega)).trans h3, (hE _ (by omega) (by omega)).trans h4⟩
  rw [hA (b + 1) (by omega) (by omega), hA (b + 2) (by omega) (by omega), hA (b + 3) (by omega) (by omega)]
  exact (hE _ (by omega) (by omega)).trans h1
/-- the class's new object -/
def ThW (cA : Nat → ClassId) (ad : Nat → Nat) (E : Nat → va_E) : Prop :=
  E 0 = .inr (6, [.ref (ad 1), .ref (ad 37), .int 0, .ref (ad 73), .ref (ad 219), .ref (ad 225), .ref (ad 229)]) ∧ StW cA ad E 1 ∧ StW cA ad E 37 ∧ HsW cA ad E 73 ∧ OtW cA ad E 219 ∧ MkW cA ad E 225 ∧ SrW cA ad E 229
theorem ThW.mv {cA : Nat → ClassId} {ad ad' : Nat → Nat} {E E' : Nat → va_E} (h : ThW cA ad E) (hE : ∀ j, j < 233 → E' j = E j) (hA : ∀ j, j < 233 → ad' j = ad j) : ThW cA ad' E' := by
  obtain ⟨h1, h2, h3, h4, h5, h6, h7⟩ := h
  refine ⟨?_, h2.mv (fun j q1 q2 => hE j (by omega)) (fun j q1 q2 => hA j (by omega)), h3.mv (fun j q1 q2 => hE j (by omega)) (fun j q1 q2 => hA j (by omega)), h4.mv (fun j q1 q2 => hE j (by omega)) (fun j q1 q2 => hA j (by omega)), h5.mv (fun j q1 q2 => hE j (by omega)) (fun j q1 q2 => hA j (by omega)), h6.mv (fun j q1 q2 => hE j (by omega)) (fun j q1 q2 => hA j (by omega)), h7.mv (fun j q1 q2 => hE j (by omega)) (fun j q1 q2 => hA j (by omega))⟩
  rw [hA 1 (by omega), hA 37 (by omega), hA 73 (by omega), hA 219 (by omega), hA 225 (by omega), hA 229 (by omega)]
  exact (hE _ (by omega)).trans h1
