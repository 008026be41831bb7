/-! ===== what a new object stands for ===== -/
def v00 : Nat → Nat → Int32 := fun j => if j = 0 then (fun i => if i = 1 then 3 else if i = 2 then 5 else 0) else fun _ => 0
theorem v00_n {j : Nat} (h : j ≠ 0) : v00 j = fun _ => 0 := if_neg h
theorem stA_of {cA : Nat → ClassId} {ad : Nat → Nat} {E E' : Nat → va_E} {b : Nat} (h : StW cA ad E b) (hE : ∀ j, b ≤ j → j < b + 36 → j ≠ b + 10 → j ≠ b + 25 → E' j = E j)
    (h10 : E' (b + 10) = .inl (cA 5, 10, .inr (.inr (.inr (.inr (fun i => some (ad (b + 11 + i)))))))) (h25 : E' (b + 25) = .inl (cA 5, 10, .inr (.inr (.inr (.inr (fun i => some (ad (b + 26 + i)))))))) : StA cA ad E' b v00 := by
  obtain ⟨h1, h2, h3, h4, h5, h6, ⟨t1, t2, t3, t4, -, t6⟩, ⟨k1, k2, k3, k4, -, k6⟩⟩ := h
  refine ⟨(hE _ (by omega) (by omega) (by omega) (by omega)).trans h1, (hE _ (by omega) (by omega) (by omega) (by omega)).trans t1, (hE _ (by omega) (by omega) (by omega) (by omega)).trans k1, h10, h25, fun j hj => ?_⟩
  unfold isA at hj
  rw [hE (b + j) (by omega) (by omega) (by omega) (by omega), v00_n (by omega)]
  rcases (show j = 1 ∨ j = 2 ∨ j = 3 ∨ j = 4 ∨ j = 5 ∨ j = 7 ∨ j = 8 ∨ j = 9 ∨ (11 ≤ j ∧ j < 21) ∨ j = 22 ∨ j = 23 ∨ j = 24 ∨ (26 ≤ j ∧ j < 36) by omega) with rfl | rfl | rfl | rfl | rfl | rfl | rfl | rfl | q | rfl | rfl | rfl | q
  · exact h2
  · exact h3
  · exact h4
  · exact h5
  · exact h6
  · exact t2
  · exact t3
  · exact t4
  · have e := t6 (j - 11) (by omega)
    rw [show b + 6 + 5 + (j - 11) = b + j by omega] at e
    rw [e, show tgA j = 0 from if_neg (by omega)]
  · exact k2
  · exact k3
  · exact k4
  · have e := k6 (j - 26) (by omega)
    rw [show b + 21 + 5 + (j - 26) = b + j by omega] at e
    rw [e, show tgA j = 0 from if_neg (by omega)]
def iRow : Nat → Int32 := fun x => if x = 3 then 3 else if x = 4 then 5 else 0
theorem can_00 {w : Nat → Int32} (hw : ∀ x, x < 346 → w x = iRow x) : Can v00 w 0 0 0 := by
  have e0 : w 0 = 0 := hw 0 (by omega)
  have e1 : w 1 = 0 := hw 1 (by omega)
  have e2 : w 2 = 0 := hw 2 (by omega)
  have e3 : w 3 = 3 := hw 3 (by omega)
  have e4 : w 4 = 5 := hw 4 (by omega)
  have e5 : w 5 = 0 := hw 5 (by omega)
  refine ⟨⟨⟨e0, by omega⟩, ⟨e1, by omega⟩, ⟨e2, by omega⟩, ?_, ?_, ?_, fun e h => absurd h (by omega), fun k m hk h => absurd h (by split <;> omega)⟩, ⟨rfl, rfl, rfl, ?_, ?_, ?_⟩, fun e h => absurd h (by omega), fun e _ _ => ⟨rfl, rfl, rfl⟩, fun m h => absurd h (by omega), fun m _ _ => rfl, fun m h => absurd h (by omega)⟩
  · rw [e3]; decide
  · rw [e4]; decide
  · rw [e5]; decide
  · rw [e3]; rfl
  · rw [e4]; rfl
  · rw [e5]; rfl
def outs12 : List Nat := [11, 26, 47, 62, 85, 100, 121, 136, 157, 172, 193, 208]
def fixE (cA : Nat → ClassId) (ad : Nat → Nat) (E : Nat → va_E) : Nat → va_E := fun k => if k = 74 then .inl (cA 4, 4, .inr (.inr (.inr (.inr (fun i => some (ad (75 + 36 * i))))))) else if k ∈ outs12 then .inl (cA 5, 10, .inr (.inr (.inr (.inr (fun i => some (ad (k + 1 + i))))))) else E k
theorem fixE_n {cA : Nat → ClassId} {ad : Nat → Nat} {E : Nat → va_E} {k : Nat} (h : k ≠ 74) (h2 : k ∉ outs12) : fixE cA ad E k = E k := by
  unfold fixE
  rw [if_neg h, if_neg h2]
theorem fixE_o {cA : Nat → ClassId} {ad : Nat → Nat} {E : Nat → va_E} {k : Nat} (h : k ≠ 74) (h2 : k ∈ outs12) : fixE cA ad E k = .inl (cA 5, 10, .inr (.inr (.inr (.inr (fun i => some (ad (k + 1 + i))))))) := by
  unfold fixE
  rw [if_neg h, if_pos h2]
theorem outs12_n {k : Nat} (h : k ≠ 11 ∧ k ≠ 26 ∧ k ≠ 47 ∧ k ≠ 62 ∧ k ≠ 85 ∧ k ≠ 100 ∧ k ≠ 121 ∧ k ≠ 136 ∧ k ≠ 157 ∧ k ≠ 172 ∧ k ≠ 193 ∧ k ≠ 208) : k ∉ outs12 := by
  obtain ⟨h1, h2, h3, h4, h5, h6, h7, h8, h9, h10, h11, h12⟩ := h
  unfold outs12
  simp [h1, h2, h3, h4, h5, h6, h7, h8, h9, h10, h11, h12]
theorem stA_fix {cA : Nat → ClassId} {ad : Nat → Nat} {E : Nat → va_E} {b : Nat} (h : StW cA ad E b) (hb : b = 1 ∨ b = 37 ∨ b = 75 ∨ b = 111 ∨ b = 147 ∨ b = 183) : StA cA ad (fixE cA ad E) b v00 := by
  refine stA_of h (fun j h1 h2 h3 h4 => fixE_n (by omega) (outs12_n (by omega))) ?_ ?_
  · rw [fixE_o (by omega) (by rcases hb with rfl | rfl | rfl | rfl | rfl | rfl <;> decide)]
  · rw [fixE_o (by omega) (by rcases hb with rfl | rfl | rfl | rfl | rfl | rfl <;> decide)]
theorem SndW.sm {cA : Nat → ClassId} {ad : Nat → Nat} {E : Nat → va_E} {b : Nat} (h : SndW cA ad E b) : ∃ (c : ClassId) (N : Nat) (f g : Nat → Option Nat), E (b + 4) = .inl (c, N, .inr (.inr (.inr (.inr f)))) ∧ (.inl (cA 5, 10, .inr (.inr (.inr (.inr (fun i => some (ad (b + 4 + 1 + i))))))) : va_E) = .inl (c, N, .inr (.inr (.inr (.inr g)))) ∧ ∀ i, i < N → f i = g i := by
  obtain ⟨-, -, -, -, ⟨f, h5, h6⟩, -⟩ := h
  exact ⟨cA 5, 10, f, _, h5, rfl, h6⟩
theorem fixE_sm {cA : Nat → ClassId} {ad : Nat → Nat} {E : Nat → va_E} (h : ThW cA ad E) (k : Nat) : fixE cA ad E k = E k ∨ ∃ (c : ClassId) (N : Nat) (f g : Nat → Option Nat), E k = .inl (c, N, .inr (.inr (.inr (.inr f)))) ∧ fixE cA ad E k = .inl (c, N, .inr (.inr (.inr (.inr g)))) ∧ ∀ i, i < N → f i = g i := by
  obtain ⟨-, ⟨-, -, -, -, -, -, a1, a2⟩, ⟨-, -, -, -, -, -, a3, a4⟩, ⟨-, ⟨f, q1, q2⟩, hs⟩, -, -, -⟩ := h
  by_cases e : k = 74
  · subst e
    exact Or.inr ⟨cA 4, 4, f, _, q1, if_pos rfl, q2⟩
  · by_cases o : k ∈ outs12
    · refine Or.inr ?_
      rw [fixE_o e o]
      have s0 := hs 0 (by omega)
      have s1 := hs 1 (by omega)
      have s2 := hs 2 (by omega)
      have s3 := hs 3 (by omega)
      obtain ⟨-, -, -, -, -, -, b1, b2⟩ := s0
      obtain ⟨-, -, -, -, -, -, b3, b4⟩ := s1
      obtain ⟨-, -, -, -, -, -, b5, b6⟩ := s2
      obtain ⟨-, -, -, -, -, -, b7, b8⟩ := s3
      unfold outs12 at o
      simp only [List.mem_cons, List.not_mem_nil, or_false] at o
      rcases o with rfl | rfl | rfl | rfl | rfl | rfl | rfl | rfl | rfl | rfl | rfl | rfl
      · exact a1.sm
      · exact a2.sm
      · exact a3.sm
      · exact a4.sm
      · exact b1.sm
      · exact b2.sm
      · exact b3.sm
      · exact b4.sm
      · exact b5.sm
      · exact b6.sm
      · exact b7.sm
      · exact b8.sm
    · exact Or.inl (fixE_n e o)
theorem Core.e0 {cA : Nat → ClassId} {ad : Nat → Nat} {E : Nat → va_E} {r : Nat → Int32} {ne nt nk nh : Nat} {H : Nat → Nat → Int32} {s1 : Int32} {asd : Nat → Int32} {ln : Nat} {txt : Nat → Int32} (h : Core cA ad E r ne nt nk nh H s1 asd ln txt) : E 0 = .inr (6, [.ref (ad 1), .ref (ad 37), .int s1, .ref (ad 73), .ref (ad 219), .ref (ad 225), .ref (ad 229)]) := by
  obtain ⟨v, vs, tg, vh, od, po, nu, ar, pla, ti, re, h0, hst, hsn, h73, h74, hhs, h219, h220, h221, h222, h223, h224, htg, hnh, hln, hcn, hhc, hss⟩ := h
  exact h0
theorem Core.bd {cA : Nat → ClassId} {ad : Nat → Nat} {E : Nat → va_E} {r : Nat → Int32} {ne nt nk nh : Nat} {H : Nat → Nat → Int32} {s1 : Int32} {asd : Nat → Int32} {ln : Nat} {txt : Nat → Int32} (h : Core cA ad E r ne nt nk nh H s1 asd ln txt) : nh ≤ 4 ∧ ln ≤ 60 ∧ Inv r ne nt nk := by
  obtain ⟨v, vs, tg, vh, od, po, nu, ar, pla, ti, re, h0, hst, hsn, h73, h74, hhs, h219, h220, h221, h222, h223, h224, htg, hnh, hln, hcn, hhc, hss⟩ := h
  exact ⟨hnh, hln, hcn.i⟩
theorem char_fits (x : Int32) : vp_nar .char (x.toUInt32 % 65536).toInt32 = (x.toUInt32 % 65536).toInt32 := by
  rw [pk_char]
  unfold vp_nar
  rw [(pk_charN (Nat.mod_lt _ (by decide))).1]
theorem bz01 (x : Int32) : (if x = 0 then (0 : Int32) else 1) = 0 ∨ (if x = 0 then (0 : Int32) else 1) = 1 := by split <;> simp
/-- the class's object stands for a row, and the law's two arrays hold d and ps -/
def LQ (cA : Nat → ClassId) (ad : Nat → Nat) (E : Nat → va_E) (r : Nat → Int32) (ne nt nk nh ln : Nat) (txt d ps : Nat → Int32) : Prop :=
  ∃ (H : Nat → Nat → Int32) (s1 : Int32) (asd : Nat → Int32), Core cA ad E r ne nt nk nh H s1 asd ln txt ∧ MkP cA ad E ∧ SrP cA ad E ∧ E 233 = .inl (cA 0, 40, .inl d) ∧ E 234 = .inl (cA 0, 10, .inl ps)
section LQS
variable {cA : Nat → ClassId} {ad : Nat → Nat} {E E' : Nat → va_E} {r : Nat → Int32} {ne nt nk nh ln : Nat} {txt d ps : Nat → Int32}
theorem LQ.e0 (h : LQ cA ad E r ne nt nk nh ln txt d ps) : ∃ fs, E 0 = .inr (6, fs) := by
  obtain ⟨H, s1, asd, hco, -, -, -, -⟩ := h
  exact ⟨_, hco.e0⟩
theorem LQ.i (h : LQ cA ad E r ne nt nk nh ln txt d ps) : Inv r ne nt nk := by
  obtain ⟨H, s1, asd, hco, -, -, -, -⟩ := h
  exact hco.bd.2.2
theorem LQ.bh (h : LQ cA ad E r ne nt nk nh ln txt d ps) : nh ≤ 4 := by
  obtain ⟨H, s1, asd, hco, -, -, -, -⟩ := h
  exact hco.bd.1
theorem LQ.bl (h : LQ cA ad E r ne nt nk nh ln txt d ps) : ln ≤ 60 := by
  obtain ⟨H, s1, asd, hco, -, -, -, -⟩ := h
  exact hco.bd.2.1
theorem LQ.dd (h : LQ cA ad E r ne nt nk nh ln txt d ps) : E 233 = .inl (cA 0, 40, .inl d) := by
  obtain ⟨H, s1, asd, -, -, -, h1, -⟩ := h
  exact h1
theorem LQ.p (h : LQ cA ad E r ne nt nk nh ln txt d ps) : E 234 = .inl (cA 0, 10, .inl ps) := by
  obtain ⟨H, s1, asd, -, -, -, -, h1⟩ := h
  exact h1
theorem LQ.putd {d' : Nat → Int32} (h : LQ cA ad E r ne nt nk nh ln txt d ps) (hE : E' 233 = .inl (cA 0, 40, .inl d')) (hO : ∀ j, j ≠ 233 → E' j = E j) : LQ cA ad E' r ne nt nk nh ln txt d' ps := by
  obtain ⟨H, s1, asd, hco, hmk, hsr, h1, h2⟩ := h
  exact ⟨H, s1, asd, hco.fr (fun j _ _ => hO j (by omega)), hmk.fr (fun j _ _ => hO j (by omega)), hsr.fr (fun j _ _ => hO j (by omega)), hE, (hO _ (by omega)).trans h2⟩
theorem LQ.putp {p' : Nat → Int32} (h : LQ cA ad E r ne nt nk nh ln txt d ps) (hE : E' 234 = .inl (cA 0, 10, .inl p')) (hO : ∀ j, j ≠ 234 → E' j = E j) : LQ cA ad E' r ne nt nk nh ln txt d p' := by
  obtain ⟨H, s1, asd, hco, hmk, hsr, h1, h2⟩ := h
  exact ⟨H, s1, asd, hco.fr (fun j _ _ => hO j (by omega)), hmk.fr (fun j _ _ => hO j (by omega)), hsr.fr (fun j _ _ => hO j (by omega)), (hO _ (by omega)).trans h1, hE⟩
theorem LQ.cnt (h : LQ cA ad E r ne nt nk nh ln txt d ps) {a b c : Nat} (h0 : r 0 = nI a) (ha : a ≤ 10) (h1 : r 1 = nI b) (hb : b ≤ 10) (h2 : r 2 = nI c) (hc : c ≤ 10) : LQ cA ad E r a b c nh ln txt d ps := by
  have hi := h.i
  have e0 : ne = a := (nI_eq (by have := hi.e0; omega) (by omega)).mp (hi.h0.symm.trans h0)
  have e1 : nt = b := (nI_eq (by have := hi.e1; omega) (by omega)).mp (hi.h1.symm.trans h1)
  have e2 : nk = c := (nI_eq (by have := hi.e2; omega) (by omega)).mp (hi.h2.symm.trans h2)
  subst e0 e1 e2
  exact h
end LQS
theorem LQ_start {cA : Nat → ClassId} {ad : Nat → Nat} {E : Nat → va_E} (h : ThW cA ad E) (hd : E 233 = .inl (cA 0, 40, .inl (fun _ => 0))) (hp : E 234 = .inl (cA 0, 10, .inl (fun _ => 0))) : LQ cA ad (fixE cA ad E) iRow 0 0 0 0 0 (fun _ => 0) (fun _ => 0) (fun _ => 0) := by
  obtain ⟨h0, hn, hs, ⟨q1, ⟨f, q2, q3⟩, q4⟩, ⟨t1, t2, t3, t4, t5, t6⟩, ⟨m1, m2, m3, m4⟩, ⟨s1, s2, s3, s4⟩⟩ := h
  have fx : ∀ k, (k = 0 ∨ k = 73 ∨ 219 ≤ k) → fixE cA ad E k = E k := fun k hk => fixE_n (by omega) (outs12_n (by omega))
  exact ⟨fun _ _ => 0, 0, fun _ => 0, ⟨v00, v00, fun i => 75 + 36 * i, fun _ => v00, 0, 0, 0, fun _ => 0, fun _ => 0, fun _ => 0, fun _ => 0, (fx 0 (by omega)).trans h0, stA_fix hn (by omega), stA_fix hs (by omega), (fx 73 (by omega)).trans q1, if_pos rfl, fun i hi => stA_fix (q4 i hi) (by show 73 + 2 + 36 * i = 1 ∨ 73 + 2 + 36 * i = 37 ∨ 73 + 2 + 36 * i = 75 ∨ 73 + 2 + 36 * i = 111 ∨ 73 + 2 + 36 * i = 147 ∨ 73 + 2 + 36 * i = 183; omega),     (fx 219 (by omega)).trans t1, (fx 220 (by omega)).trans t2, (fx 221 (by omega)).trans t3, (fx 222 (by omega)).trans t4, (fx 223 (by omega)).trans t5, (fx 224 (by omega)).trans t6, fun i hi => ⟨by show 75 ≤ 75 + 36 * i ∧ 75 + 36 * i + 36 ≤ 219; omega, fun j hj hij => by show 75 + 36 * i + 36 ≤ 75 + 36 * j ∨ 75 + 36 * j + 36 ≤ 75 + 36 * i; omega⟩, by omega, by omega, can_00 (fun _ _ => rfl), fun i hi => absurd hi (by omega), Or.inl rfl⟩, ⟨_, _, _, _, (fx 225 (by omega)).trans m1, (fx 226 (by omega)).trans m2, (fx 227 (by omega)).trans m3, (fx 228 (by omega)).trans m4⟩, ⟨_, _, _, _, _, _, _, _, (fx 229 (by omega)).trans s1, (fx 230 (by omega)).trans s2, (fx 231 (by omega)).trans s3, (fx 232 (by omega)).trans s4⟩, (fx 233 (by omega)).trans hd, (fx 234 (by omega)).trans hp⟩
