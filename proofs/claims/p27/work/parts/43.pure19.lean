/-! ===== the class as a whole ===== -/
def Cn (v : Nat → Nat → Int32) (r : Nat → Int32) : Prop := ∃ ne nt nk, Can v r ne nt nk
/-- the cells 0 .. 224: the row r, the history H of nh rows, the row kept, the text -/
def Core (cA : Nat → ClassId) (ad : Nat → Nat) (E : Nat → va_E) (r : Nat → Int32) (ne nt nk nh : Nat) (H : Nat → Nat → Int32) (s1 : Int32) (asd : Nat → Int32) (ln : Nat) (txt : Nat → Int32) : Prop :=
  ∃ (v vs : Nat → Nat → Int32) (tg : Nat → Nat) (vh : Nat → Nat → Nat → Int32) (od po nu : Int32) (ar pla ti re : Nat → Int32),
    E 0 = .inr (6, [.ref (ad 1), .ref (ad 37), .int s1, .ref (ad 73), .ref (ad 219), .ref (ad 225), .ref (ad 229)]) ∧
    StA cA ad E 1 v ∧ StA cA ad E 37 vs ∧
    E 73 = .inr (0, [.ref (ad 74), .int (nI nh)]) ∧ E 74 = .inl (cA 4, 4, .inr (.inr (.inr (.inr (fun i => some (ad (tg i))))))) ∧ (∀ i, i < 4 → StA cA ad E (tg i) (vh i)) ∧
    E 219 = .inr (2, [.ref (ad 220), .int (nI ln), .ref (ad 221), .ref (ad 222), .ref (ad 223), .ref (ad 224), .int od, .int po, .int nu]) ∧
    E 220 = .inl (cA 3, 60, .inl txt) ∧ E 221 = .inl (cA 2, 60, .inl ar) ∧ E 222 = .inl (cA 0, 60, .inl pla) ∧ E 223 = .inl (cA 0, 60, .inl ti) ∧ E 224 = .inl (cA 0, 60, .inl re) ∧
    Tg tg ∧ nh ≤ 4 ∧ ln ≤ 60 ∧ Can v r ne nt nk ∧ (∀ i, i < nh → Cn (vh i) (H i)) ∧ (s1 = 0 ∨ (s1 = 1 ∧ Cn vs asd))
def MkP (cA : Nat → ClassId) (ad : Nat → Nat) (E : Nat → va_E) : Prop :=
  ∃ (m0 : Int32) (th rd er : Nat → Int32), E 225 = .inr (1, [.ref (ad 226), .ref (ad 227), .ref (ad 228), .int m0]) ∧ E 226 = .inl (cA 0, 10, .inl th) ∧ E 227 = .inl (cA 0, 10, .inl rd) ∧ E 228 = .inl (cA 0, 10, .inl er)
def SrP (cA : Nat → ClassId) (ad : Nat → Nat) (E : Nat → va_E) : Prop :=
  ∃ (s0 px : Int32) (pp ls gr : Int64) (ea pl : Nat → Int32) (rt : Nat → Int64), E 229 = .inr (4, [.ref (ad 230), .ref (ad 231), .ref (ad 232), .int s0, .long pp, .int px, .long ls, .long gr]) ∧ E 230 = .inl (cA 0, 10, .inl ea) ∧ E 231 = .inl (cA 0, 10, .inl pl) ∧ E 232 = .inl (cA 1, 10, .inr (.inl rt))
theorem Core.fr {cA : Nat → ClassId} {ad : Nat → Nat} {E E' : Nat → va_E} {r : Nat → Int32} {ne nt nk nh : Nat} {H : Nat → Nat → Int32} {s1 : Int32} {asd : Nat → Int32} {ln : Nat} {txt : Nat → Int32} (h : Core cA ad E r ne nt nk nh H s1 asd ln txt) (hO : ∀ j, 0 ≤ j → j < 225 → E' j = E j) : Core cA ad E' r ne nt nk nh H s1 asd ln txt := by
  obtain ⟨v, vs, tg, vh, od, po, nu, ar, pla, ti, re, h0, hst, hsn, h73, h74, hhs, h219, h220, h221, h222, h223, h224, htg, hnh, hln, hcn, hhc, hss⟩ := h
  exact ⟨v, vs, tg, vh, od, po, nu, ar, pla, ti, re, (hO _ (by omega) (by omega)).trans h0, hst.fr (fun j h1 h2 => hO j (by omega) (by omega)), hsn.fr (fun j h1 h2 => hO j (by omega) (by omega)), (hO _ (by omega) (by omega)).trans h73, (hO _ (by omega) (by omega)).trans h74,
    fun i hi => (hhs i hi).fr (fun j h1 h2 => hO j (by omega) (by have := (htg i hi).1; omega)), (hO _ (by omega) (by omega)).trans h219, (hO _ (by omega) (by omega)).trans h220, (hO _ (by omega) (by omega)).trans h221, (hO _ (by omega) (by omega)).trans h222, (hO _ (by omega) (by omega)).trans h223, (hO _ (by omega) (by omega)).trans h224, htg, hnh, hln, hcn, hhc, hss⟩
theorem MkP.fr {cA : Nat → ClassId} {ad : Nat → Nat} {E E' : Nat → va_E} (h : MkP cA ad E) (hO : ∀ j, 225 ≤ j → j < 229 → E' j = E j) : MkP cA ad E' := by
  obtain ⟨m0, th, rd, er, h1, h2, h3, h4⟩ := h
  exact ⟨m0, th, rd, er, (hO _ (by omega) (by omega)).trans h1, (hO _ (by omega) (by omega)).trans h2, (hO _ (by omega) (by omega)).trans h3, (hO _ (by omega) (by omega)).trans h4⟩
theorem SrP.fr {cA : Nat → ClassId} {ad : Nat → Nat} {E E' : Nat → va_E} (h : SrP cA ad E) (hO : ∀ j, 229 ≤ j → j < 233 → E' j = E j) : SrP cA ad E' := by
  obtain ⟨s0, px, pp, ls, gr, ea, pl, rt, h1, h2, h3, h4⟩ := h
  exact ⟨s0, px, pp, ls, gr, ea, pl, rt, (hO _ (by omega) (by omega)).trans h1, (hO _ (by omega) (by omega)).trans h2, (hO _ (by omega) (by omega)).trans h3, (hO _ (by omega) (by omega)).trans h4⟩
theorem ixN2 {x : Int32} {n : Nat} (h : ∃ e : Nat, e < n ∧ x = nI e) : ∃ e : Nat, e < n ∧ x = nI e := h
/-- what the clock of an ear shows, as the class reckons it -/
theorem fdi_dn {u : Int32} (h1 : -100000000 ≤ u.toInt) (h2 : u.toInt ≤ 100000000) : (fdi u 10000).toInt = u.toInt / 10000 := by
  have l4 : (10000 : Int32).toInt = 10000 := by decide
  have hm := tmod_bounds (a := u.toInt) (M := 10000) (by omega)
  have hd := Int.mul_tdiv_add_tmod u.toInt 10000
  have hsg : (0 ≤ u.toInt → 0 ≤ u.toInt.tmod 10000) ∧ (u.toInt ≤ 0 → u.toInt.tmod 10000 ≤ 0) := by
    constructor
    · intro h0; exact Int.tmod_nonneg _ h0
    · intro h0
      have : 0 ≤ (-u.toInt).tmod 10000 := Int.tmod_nonneg _ (by omega)
      rw [Int.neg_tmod] at this
      omega
  have hq : (u / 10000).toInt = u.toInt.tdiv 10000 := by
    rw [Int32.toInt_div, l4]
    apply Int.bmod_eq_of_le <;> omega
  have hmul : (u / 10000 * 10000).toInt = u.toInt - u.toInt.tmod 10000 := by
    rw [i32m (by rw [hq, l4]; omega) (by rw [hq, l4]; omega), hq, l4]; omega
  have hmm : ∀ x : BitVec 32, x.toInt < 0 ↔ x.msb = true := fun x => by rw [BitVec.msb_eq_toInt]; simp
  have e0 : (0 : Int32).toInt = 0 := by decide
  have hx : (u ^^^ 10000 < 0) ↔ u.toInt < 0 := by
    rw [Int32.lt_iff_toInt_lt, e0, ← Int32.toInt_toBitVec, ← Int32.toInt_toBitVec u, Int32.toBitVec_xor, hmm, hmm, BitVec.msb_xor]
    have hl : (10000 : Int32).toBitVec.msb = false := by decide
    rw [hl]; simp
  have hc : (u ^^^ 10000 < 0 ∧ ¬ u / 10000 * 10000 = u) ↔ u.toInt < u.toInt - u.toInt.tmod 10000 := by
    rw [hx, ← Int32.toInt_inj, hmul]; omega
  have e1 : (1 : Int32).toInt = 1 := by decide
  unfold fdi
  by_cases q : u ^^^ 10000 < 0 ∧ ¬ u / 10000 * 10000 = u
  · rw [if_pos q]
    have q2 := hc.mp q
    rw [i32s (by rw [hq, e1]; omega) (by rw [hq, e1]; omega), hq, e1]
    omega
  · rw [if_neg q]
    have q2 : ¬ u.toInt < u.toInt - u.toInt.tmod 10000 := fun z => q (hc.mpr z)
    rw [hq]
    omega
theorem fdi_rdc {d t : Int32} (hd : -50 ≤ d.toInt ∧ d.toInt ≤ 50) (ht : 0 ≤ t.toInt ∧ t.toInt ≤ 200000) : fdi (d * t) 10000 = (dn (d.toInt64 * t.toInt64) 10000).toInt32 := by
  have hm := mul_bd (a := d.toInt) (b := t.toInt) (A := 50) (B := 200000) (by omega) (by omega) (by omega) (by omega)
  have e1 : (d * t).toInt = d.toInt * t.toInt := i32m (by omega) (by omega)
  have e2 : (d.toInt64 * t.toInt64).toInt = d.toInt * t.toInt := by
    rw [i64m (by rw [Int32.toInt_toInt64, Int32.toInt_toInt64]; omega) (by rw [Int32.toInt_toInt64, Int32.toInt_toInt64]; omega), Int32.toInt_toInt64, Int32.toInt_toInt64]
  have l4 : (10000 : Int64).toInt = 10000 := by decide
  rw [← Int32.toInt_inj, fdi_dn (by omega) (by omega), Int64.toInt_toInt32, dn_toInt (by rw [l4]; omega), e1, e2, l4]
  have := ediv_bd (a := d.toInt * t.toInt) (b := 10000) (A := 50 * 200000) (by omega) (by omega) (by omega) (by omega)
  rw [Int.bmod_eq_of_le (by omega) (by omega)]
theorem lth_of {r : Nat → Int32} {nt e : Nat} {rd er th : Nat → Int32} (hH : mH r e nt rd er th) : (if mC r e nt = 0 then -1 else th (mC r e nt - 1)) = lth r nt e := by
  unfold lth
  by_cases h : mC r e nt = 0
  · rw [if_pos h, if_pos h]
  · rw [if_neg h, if_neg h, (hH _ (by omega)).2.2]
theorem rdc_of {v : Nat → Nat → Int32} {r : Nat → Int32} {ne nt nk e : Nat} {t : Int32} (h : Can v r ne nt nk) (he : e < ne) (ht : 0 ≤ t.toInt ∧ t.toInt ≤ 200000) : rdc r e t = t + v 2 e + fdi (v 3 e * t) 10000 := by
  obtain ⟨h1, h2, h3, h4⟩ := h.ear he
  unfold rdc
  rw [h3, h4, fdi_rdc (h.i.2.2.2.2.2.2.1 e he).2.2.2 ht]
theorem i32le {x : Int32} {a b : Int32} {m n : Int} (ha : a.toInt = m) (hb : b.toInt = n) (h : a ≤ x ∧ x ≤ b) : m ≤ x.toInt ∧ x.toInt ≤ n := by
  rw [← ha, ← hb]
  exact ⟨Int32.le_iff_toInt_le.mp h.1, Int32.le_iff_toInt_le.mp h.2⟩
theorem sumN_b {f : Nat → Int32} {i : Nat} (h : f i = 0 ∨ f i = 1) : (¬ f i = 0 → sumN f i + 1 = sumN f (i + 1)) ∧ (f i = 0 → sumN f i = sumN f (i + 1)) := by
  constructor
  · intro h1
    show _ = sumN f i + f i
    rw [h.resolve_left h1]
  · intro h1
    show _ = sumN f i + f i
    rw [h1]; simp
theorem sH_sp {r : Nat → Int32} {ne nt nk kn : Nat} {ea pl : Nat → Int32} {rt : Nat → Int64} {x : Int32} (hV : Inv r ne nt nk) (hS : sH r nt kn ne ea pl rt) (hc : 0 < hC r kn ne) (hx : 0 ≤ x.toInt ∧ x.toInt ≤ 1000) : mxF (bgC rt pl (1000 * (r (46 + 50 * 1 + 5 * kn + 3)).toInt64) x) (hC r kn ne - 1) - mnF (bgC rt pl (1000 * (r (46 + 50 * 1 + 5 * kn + 3)).toInt64) x) (hC r kn ne - 1) = spW r ne nt kn x := by
  unfold spW
  rw [(sH_ms hV hS hc hx).1, (sH_ms hV hS hc hx).2]
theorem tm_of {r : Nat → Int32} {ne nt kn : Nat} {x : Int32} : fdl (msB r nt kn x ne + lsB r nt kn x ne) 2 = tmK r ne nt kn x := by
  unfold tmK
  rw [fd2, Int64.add_comm]
theorem errR_of {r : Nat → Int32} {nt e : Nat} {rd er th : Nat → Int32} {y : Int32} (hH : mH r e nt rd er th) : errR r e nt y = eA (mC r e nt) rd er y := by
  unfold errR
  exact (eA_cg (fun j hj => ⟨(hH j hj).1, (hH j hj).2.1⟩)).symm
theorem fitN_s {r : Nat → Int32} {ne nt k : Nat} : fitN r ne nt (k + 1) = fitN r ne nt k + (if ¬ hC r k ne < 2 ∧ spW r ne nt k (nI (plc r ne nt k)) ≤ 1000 * (r 4).toInt64 then 1 else 0) := rfl
theorem kcC_k {v : Nat → Nat → Int32} {r : Nat → Int32} {ne nt nk e : Nat} (h : Can v r ne nt nk) (he : e < 10) : ∀ k, k ≤ nk → kcC (fun i => v (26 + i)) e k = kC r e k
  | 0, _ => rfl
  | k + 1, hk => by
    have hR := (h.kn (show k < nk by omega)).2.2.2 e he
    unfold kcC kC
    rw [kcC_k h he k (by omega)]
    by_cases q : v (26 + k) e = SIL
    · rw [if_pos q, if_pos (hR.s q)]
    · rw [if_neg q, if_neg (hR.n q).2.1]
theorem sumN_cg {f g : Nat → Int32} : ∀ n, (∀ i, i < n → f i = g i) → sumN f n = sumN g n
  | 0, _ => rfl
  | n + 1, h => by
    show sumN f n + f n = sumN g n + g n
    rw [sumN_cg n (fun i hi => h i (by omega)), h n (by omega)]
