abbrev rm_X7_sees : Room := { frames := 1, cells := 0, slots := 0, locals := 22 }
set_option maxHeartbeats 4000000 in
set_option maxRecDepth 100000 in
theorem c_X7_sees {l : Launch} {D : va_G} {cA : Nat → ClassId} {ad : Nat → Nat} {E : Nat → va_E} {ln p : Nat} {s0 s1 s4 s5 : Int32} {lo mo : Int64} {txt : Nat → Int32} {a b : Int32} (h233 : E 233 = .inr (7, [.ref (ad 234), .ref (ad 235), .ref (ad 236), .ref (ad 237), .int s0, .int s1, .ref (ad 238), .int (nI ln), .int (nI p), .int s4, .int s5, .ref (ad 239), .ref (ad 240), .ref (ad 241), .long lo, .long mo, .ref (ad 242)])) (h238 : E 238 = .inl (cA 3, 60, .inl txt))  (hln : ln ≤ 60) (hp : p ≤ ln) : CtI l D cA yX7_sees cX7_sees 3 .boolean rm_X7_sees 243 ad E [.ref (ad 233), .int a, .int b] (fun x E' => (E = E' ∧ 1 = x ∧ (p < ln ∧ a ≤ txt p ∧ txt p ≤ b)) ∨ (E = E' ∧ 0 = x ∧ ¬ (p < ln ∧ a ≤ txt p ∧ txt p ≤ b))) := by
  refine CtI.of (by decide +kernel) (Nat.le_of_ble_eq_true rfl) (fun X F hret => ?_)
  have F : Fr "ThumpEarsModel" cX7_sees 3 D cA X := F
  refine (show GG rm_X7_sees 3 l D X 0 0 243 ad E 0 [(0, .ref (ad 233)), (1, .int a), (2, .int b)] [] from ?_)
  refine g_aload_n F (q := 1) (dk dX7_sees 0 rfl) rfl rfl 0 rfl ?_
  refine g_getf F (q := 4) h233 rfl inX7 (by omega) (j := 8) (by decide) tq_631 rfl rfl (dk dX7_sees 1 rfl) rfl ?_
  refine g_aload_n F (q := 5) (dk dX7_sees 2 rfl) rfl rfl 0 rfl ?_
  refine g_getf F (q := 8) h233 rfl inX7 (by omega) (j := 7) (by decide) tq_630 rfl rfl (dk dX7_sees 3 rfl) rfl ?_
  refine g_icmp_ge F (q := 11) (tgt := 32) (dk dX7_sees 4 rfl) (by decide) rfl (fun c8 => ?_) (fun c8 => ?_)
  · have nc8 : ln ≤ p := (nI_leI (a := ln) (b := p) (by omega) (by omega)).mp c8
    refine g_iconst F (q := 33) (v := 0) (dk dX7_sees 16 rfl) rfl (by decide) ?_
    refine hret 0 E _ _ (dk dX7_sees 17 rfl) rfl ?_
    exact Or.inr ⟨rfl, rfl, (fun h => absurd h.1 (by omega))⟩
  · have nc8 : ¬ ln ≤ p := fun h => c8 ((nI_leI (a := ln) (b := p) (by omega) (by omega)).mpr h)
    refine g_aload_n F (q := 12) (dk dX7_sees 5 rfl) rfl rfl 0 rfl ?_
    refine g_getf F (q := 15) h233 rfl inX7 (by omega) (j := 6) (by decide) tq_629 rfl rfl (dk dX7_sees 6 rfl) rfl ?_
    refine g_aload_n F (q := 16) (dk dX7_sees 7 rfl) rfl rfl 0 rfl ?_
    refine g_getf F (q := 19) h233 rfl inX7 (by omega) (j := 8) (by decide) tq_631 rfl rfl (dk dX7_sees 8 rfl) rfl ?_
    refine g_cald F (q := 20) p h238 (by omega) rfl (by omega) (by decide) (dk dX7_sees 9 rfl) rfl ?_
    refine g_iload_n F (q := 21) (dk dX7_sees 10 rfl) rfl rfl 1 rfl ?_
    refine g_iload_n F (q := 22) (dk dX7_sees 11 rfl) rfl rfl 2 rfl ?_
    refine g_callSI F (q := 25) (av := [.int (txt p), .int a, .int b]) (st := []) (c_X7_in (v := (txt p)) (a := a) (b := b)) ks_X7_in tq_707 ⟨rfl, rfl⟩ (by decide) ⟨Nat.le_refl _, Nat.le_refl _⟩ rfl rfl (Nat.le_of_ble_eq_true rfl) (dk dX7_sees 12 rfl) rfl (fun r22 E22 hp22 => ?_)
    rcases hp22 with ⟨rfl, rfl, b22⟩ | ⟨rfl, rfl, b22⟩
    · refine g_if_eq F (q := 28) (tgt := 32) (dk dX7_sees 13 rfl) (by decide) rfl (fun h => absurd h (by decide)) (fun _ => ?_)
      refine g_iconst F (q := 29) (v := 1) (dk dX7_sees 14 rfl) rfl (by decide) ?_
      refine g_goto F (tgt := 33) (dk dX7_sees 15 rfl) (by decide) ?_
      refine hret 1 E _ _ (dk dX7_sees 17 rfl) rfl ?_
      exact Or.inl ⟨rfl, rfl, ⟨by omega, b22⟩⟩
    · refine g_if_eq F (q := 28) (tgt := 32) (dk dX7_sees 13 rfl) (by decide) rfl (fun _ => ?_) (fun h => absurd h (by decide))
      refine g_iconst F (q := 33) (v := 0) (dk dX7_sees 16 rfl) rfl (by decide) ?_
      refine hret 0 E _ _ (dk dX7_sees 17 rfl) rfl ?_
      exact Or.inr ⟨rfl, rfl, (fun h => b22 h.2)⟩
theorem kv_X7_sees : KV yX7_sees "ThumpEarsModel" cX7_sees 3 (some .boolean) 2 := ⟨tq_800, tq_23, tq_47, tq_801, by decide +kernel⟩
abbrev rm_X7_number : Room := { frames := 2, cells := 0, slots := 0, locals := 44 }
set_option maxHeartbeats 4000000 in
set_option maxRecDepth 100000 in
theorem c_X7_number {l : Launch} {D : va_G} {cA : Nat → ClassId} {ad : Nat → Nat} {E : Nat → va_E} {ln p : Nat} {s0 s1 s4 s5 : Int32} {lo mo : Int64} {txt : Nat → Int32}  (h233 : E 233 = .inr (7, [.ref (ad 234), .ref (ad 235), .ref (ad 236), .ref (ad 237), .int s0, .int s1, .ref (ad 238), .int (nI ln), .int (nI p), .int s4, .int s5, .ref (ad 239), .ref (ad 240), .ref (ad 241), .long lo, .long mo, .ref (ad 242)])) (h238 : E 238 = .inl (cA 3, 60, .inl txt))  (hln : ln ≤ 60) (hp : p ≤ ln) : CtI l D cA yX7_number cX7_number 3 .int rm_X7_number 243 ad E [.ref (ad 233)] (fun x E' => (numV txt ln p) = x ∧ E' 233 = .inr (7, [.ref (ad 234), .ref (ad 235), .ref (ad 236), .ref (ad 237), .int s0, .int s1, .ref (ad 238), .int (nI ln), .int (nI ((numP txt ln p))), .int s4, .int s5, .ref (ad 239), .ref (ad 240), .ref (ad 241), .long lo, .long mo, .ref (ad 242)]) ∧ ∀ j, (j ≠ 233) → E' j = E j) := by
  refine CtI.of (by decide +kernel) (Nat.le_of_ble_eq_true rfl) (fun X F hret => ?_)
  have F : Fr "ThumpEarsModel" cX7_number 3 D cA X := F
  refine (show GG rm_X7_number 3 l D X 0 0 243 ad E 0 [(0, .ref (ad 233))] [] from ?_)
  refine g_aload_n F (q := 1) (dk dX7_number 0 rfl) rfl rfl 0 rfl ?_
  refine g_bipush F (q := 3) (v := 48) (dk dX7_number 1 rfl) rfl (by decide) ?_
  refine g_bipush F (q := 5) (v := 57) (dk dX7_number 2 rfl) rfl (by decide) ?_
  refine g_callVI F (q := 8) (av := [.int 48, .int 57]) (st := []) (c_X7_sees (a := 48) (b := 57) h233 h238 (by first | assumption | decide | omega) (by first | assumption | decide | omega)) kv_X7_sees tq_798 h233 rfl (by omega) ⟨rfl, rfl⟩ (by decide) ⟨Nat.le_refl _, Nat.le_refl _⟩ rfl rfl (Nat.le_of_ble_eq_true rfl) (dk dX7_number 3 rfl) rfl (fun r5 E5 hp5 => ?_)
  rcases hp5 with ⟨rfl, rfl, b5⟩ | ⟨rfl, rfl, b5⟩
  · refine g_if_ne F (q := 11) (tgt := 14) (dk dX7_number 4 rfl) (by decide) rfl (fun _ => ?_) (fun h => absurd h (by decide))
    refine g_aload_n F (q := 15) (dk dX7_number 7 rfl) rfl rfl 0 rfl ?_
    refine g_getf F (q := 18) h233 rfl inX7 (by omega) (j := 6) (by decide) tq_629 rfl rfl (dk dX7_number 8 rfl) rfl ?_
    refine g_aload_n F (q := 19) (dk dX7_number 9 rfl) rfl rfl 0 rfl ?_
    refine g_getf F (q := 22) h233 rfl inX7 (by omega) (j := 8) (by decide) tq_631 rfl rfl (dk dX7_number 10 rfl) rfl ?_
    refine g_cald F (q := 23) p h238 (by omega) rfl (by omega) (by decide) (dk dX7_number 11 rfl) rfl ?_
    refine g_bipush F (q := 25) (v := 48) (dk dX7_number 12 rfl) rfl (by decide) ?_
    refine g_isub F (q := 26) (dk dX7_number 13 rfl) rfl ?_
    refine g_istore_n F (q := 27) (lv' := [(1, .int ((txt p) - 48)), (0, .ref (ad 233))]) (dk dX7_number 14 rfl) rfl rfl (Nat.le_of_ble_eq_true rfl) rfl ?_
    refine g_aload_n F (q := 28) (dk dX7_number 15 rfl) rfl rfl 1 rfl ?_
    refine g_dup F (q := 29) (dk dX7_number 16 rfl) rfl rfl ?_
    refine g_getf F (q := 32) h233 rfl inX7 (by omega) (j := 8) (by decide) tq_631 rfl rfl (dk dX7_number 17 rfl) rfl ?_
    refine g_iconst F (q := 33) (v := 1) (dk dX7_number 18 rfl) rfl (by decide) ?_
    refine g_iadd F (q := 34) (dk dX7_number 19 rfl) rfl ?_
    refine g_sti (nA rfl rfl) ?_
    refine g_putf F (q := 37) (ty := .int) h233 rfl inX7 tyX7 tyX7_ok nmX7 (by omega) (j := 8) (by decide) tq_631 rfl rfl (by decide +kernel) rfl rfl (Nat.le_of_ble_eq_true rfl) (dk dX7_number 20 rfl) rfl (fun E34 hE34 hO34 => ?_)
    have hE34 : E34 233 = .inr (7, [.ref (ad 234), .ref (ad 235), .ref (ad 236), .ref (ad 237), .int s0, .int s1, .ref (ad 238), .int (nI ln), .int (nI ((p + 1))), .int s4, .int s5, .ref (ad 239), .ref (ad 240), .ref (ad 241), .long lo, .long mo, .ref (ad 242)]) := hE34
    refine g_iconst F (q := 38) (v := 1) (dk dX7_number 21 rfl) rfl (by decide) ?_
    refine g_istore_n F (q := 39) (lv' := [(2, .int 1), (1, .int ((txt p) - 48)), (0, .ref (ad 233))]) (dk dX7_number 22 rfl) rfl rfl (Nat.le_of_ble_eq_true rfl) rfl ?_
    have K39 : ∀ (fu : Nat) (v : Int32) (kk : Nat) (q : Nat) (E1 : Nat → va_E), 6 - kk < fu → (h3 : E1 233 = .inr (7, [.ref (ad 234), .ref (ad 235), .ref (ad 236), .ref (ad 237), .int s0, .int s1, .ref (ad 238), .int (nI ln), .int (nI q), .int s4, .int s5, .ref (ad 239), .ref (ad 240), .ref (ad 241), .long lo, .long mo, .ref (ad 242)])) → (hfr39 : ∀ j, (j ≠ 233) → E1 j = E34 j) → (hk1 : 1 ≤ kk) → (hkk : kk ≤ 6) → (hq : q ≤ ln) → (hn : numL txt ln (6 - kk) v q = numL txt ln 5 (txt p - 48) (p + 1)) → GG rm_X7_number 3 l D X 0 0 243 ad E1 39 [(0, .ref (ad 233)), (1, .int v), (2, .int (nI kk))] [] := by
      intro fu
      induction fu with
      | zero => intro v kk q E1 hfu_; exact absurd hfu_ (Nat.not_lt_zero _)
      | succ fu ih =>
        intro v kk q E1 hfu_ h3 hfr39 hk1 hkk hq hn
        refine g_iload_n F (q := 40) (dk dX7_number 23 rfl) rfl rfl 2 rfl ?_
        refine g_bipush F (q := 42) (v := 6) (dk dX7_number 24 rfl) rfl (by decide) ?_
        refine g_icmp_ge F (q := 45) (tgt := 94) (dk dX7_number 25 rfl) (by decide) rfl (fun c42 => ?_) (fun c42 => ?_)
        · have nc42 : 6 ≤ kk := (nI_leI (a := 6) (b := kk) (by omega) (by omega)).mp c42
          refine g_iload_n F (q := 95) (dk dX7_number 53 rfl) rfl rfl 1 rfl ?_
          have hz : numL txt ln (6 - kk) v q = (v, q) := by rw [show 6 - kk = 0 by omega]; rfl
          refine hret v E1 _ _ (dk dX7_number 54 rfl) (nint _) ?_
          exact ⟨(by unfold numV; rw [if_pos b5, ← hn, hz]), (by unfold numP; rw [if_pos b5, ← hn, hz]; exact h3), (fun j hj => ((hfr39 j (by omega)).trans (hO34 j (by omega))))⟩
        · have nc42 : ¬ 6 ≤ kk := fun h => c42 ((nI_leI (a := 6) (b := kk) (by omega) (by omega)).mpr h)
          refine g_iload_n F (q := 46) (dk dX7_number 26 rfl) rfl rfl 1 rfl ?_
          refine g_if_le F (q := 49) (tgt := 94) (dk dX7_number 27 rfl) (by decide) rfl (fun c46 => ?_) (fun c46 => ?_)
          · refine g_iload_n F (q := 95) (dk dX7_number 53 rfl) rfl rfl 1 rfl ?_
            have hz : numL txt ln (6 - kk) v q = (v, q) := by rw [show 6 - kk = (5 - kk) + 1 by omega]; unfold numL; rw [if_neg (fun h => absurd h.1 (Int32.not_lt.mpr c46))]
            refine hret v E1 _ _ (dk dX7_number 54 rfl) (nint _) ?_
            exact ⟨(by unfold numV; rw [if_pos b5, ← hn, hz]), (by unfold numP; rw [if_pos b5, ← hn, hz]; exact h3), (fun j hj => ((hfr39 j (by omega)).trans (hO34 j (by omega))))⟩
          · refine g_aload_n F (q := 50) (dk dX7_number 28 rfl) rfl rfl 0 rfl ?_
            refine g_bipush F (q := 52) (v := 48) (dk dX7_number 29 rfl) rfl (by decide) ?_
            refine g_bipush F (q := 54) (v := 57) (dk dX7_number 30 rfl) rfl (by decide) ?_
            have hc1 := (hO34 238 (by omega)).trans h238
            have hc2 := (hfr39 238 (by omega)).trans hc1
            refine g_callVI F (q := 57) (av := [.int 48, .int 57]) (st := []) (c_X7_sees (a := 48) (b := 57) h3 hc2 (by first | assumption | decide | omega) (by first | assumption | decide | omega)) kv_X7_sees tq_798 h3 rfl (by omega) ⟨rfl, rfl⟩ (by decide) ⟨Nat.le_refl _, Nat.le_refl _⟩ rfl rfl (Nat.le_of_ble_eq_true rfl) (dk dX7_number 31 rfl) rfl (fun r54 E54 hp54 => ?_)
            rcases hp54 with ⟨rfl, rfl, b54⟩ | ⟨rfl, rfl, b54⟩
            · refine g_if_eq F (q := 60) (tgt := 94) (dk dX7_number 32 rfl) (by decide) rfl (fun h => absurd h (by decide)) (fun _ => ?_)
              refine g_bipush F (q := 62) (v := 10) (dk dX7_number 33 rfl) rfl (by decide) ?_
              refine g_iload_n F (q := 63) (dk dX7_number 34 rfl) rfl rfl 1 rfl ?_
              refine g_imul F (q := 64) (dk dX7_number 35 rfl) rfl ?_
              refine g_aload_n F (q := 65) (dk dX7_number 36 rfl) rfl rfl 0 rfl ?_
              refine g_getf F (q := 68) h3 rfl inX7 (by omega) (j := 6) (by decide) tq_629 rfl rfl (dk dX7_number 37 rfl) rfl ?_
              refine g_aload_n F (q := 69) (dk dX7_number 38 rfl) rfl rfl 0 rfl ?_
              refine g_getf F (q := 72) h3 rfl inX7 (by omega) (j := 8) (by decide) tq_631 rfl rfl (dk dX7_number 39 rfl) rfl ?_
              refine g_cald F (q := 73) q hc2 (by omega) rfl (by omega) (by decide) (dk dX7_number 40 rfl) rfl ?_
              refine g_iadd F (q := 74) (dk dX7_number 41 rfl) rfl ?_
              refine g_bipush F (q := 76) (v := 48) (dk dX7_number 42 rfl) rfl (by decide) ?_
              refine g_isub F (q := 77) (dk dX7_number 43 rfl) rfl ?_
              refine g_istore_n F (q := 78) (lv' := [(1, .int (((10 * v) + (txt q)) - 48)), (0, .ref (ad 233)), (2, .int (nI kk))]) (dk dX7_number 44 rfl) rfl rfl (Nat.le_of_ble_eq_true rfl) rfl ?_
              refine g_aload_n F (q := 79) (dk dX7_number 45 rfl) rfl rfl 1 rfl ?_
              refine g_dup F (q := 80) (dk dX7_number 46 rfl) rfl rfl ?_
              refine g_getf F (q := 83) h3 rfl inX7 (by omega) (j := 8) (by decide) tq_631 rfl rfl (dk dX7_number 47 rfl) rfl ?_
              refine g_iconst F (q := 84) (v := 1) (dk dX7_number 48 rfl) rfl (by decide) ?_
              refine g_iadd F (q := 85) (dk dX7_number 49 rfl) rfl ?_
              refine g_sti (nA rfl rfl) ?_
              refine g_putf F (q := 88) (ty := .int) h3 rfl inX7 tyX7 tyX7_ok nmX7 (by omega) (j := 8) (by decide) tq_631 rfl rfl (by decide +kernel) rfl rfl (Nat.le_of_ble_eq_true rfl) (dk dX7_number 50 rfl) rfl (fun E85 hE85 hO85 => ?_)
              have hE85 : E85 233 = .inr (7, [.ref (ad 234), .ref (ad 235), .ref (ad 236), .ref (ad 237), .int s0, .int s1, .ref (ad 238), .int (nI ln), .int (nI ((q + 1))), .int s4, .int s5, .ref (ad 239), .ref (ad 240), .ref (ad 241), .long lo, .long mo, .ref (ad 242)]) := hE85
              refine g_iinc F (q := 91) (v := (nI ((kk + 1)))) (lv' := [(2, .int (nI ((kk + 1)))), (1, .int (((10 * v) + (txt q)) - 48)), (0, .ref (ad 233))]) (dk dX7_number 51 rfl) rfl 2 rfl (nI_1 _) (Nat.le_of_ble_eq_true rfl) rfl ?_
              refine g_goto F (tgt := 39) (dk dX7_number 52 rfl) (by decide) ?_
              refine g_lv (lv' := [(0, .ref (ad 233)), (1, .int (((10 * v) + (txt q)) - 48)), (2, .int (nI ((kk + 1))))]) [2, 1, 0] rfl ?_
              exact ih (((10 * v) + (txt q)) - 48) (kk + 1) (q + 1) E85 (by omega) hE85 (fun j hj => ((hO85 j (by omega)).trans (hfr39 j (by omega)))) (by omega) (by omega) (by omega) (by rw [← hn, show 6 - kk = (6 - (kk + 1)) + 1 by omega]; conv => rhs; unfold numL; rw [if_pos ⟨Int32.not_le.mp c46, b54⟩])
            · refine g_if_eq F (q := 60) (tgt := 94) (dk dX7_number 32 rfl) (by decide) rfl (fun _ => ?_) (fun h => absurd h (by decide))
              refine g_iload_n F (q := 95) (dk dX7_number 53 rfl) rfl rfl 1 rfl ?_
              have hz : numL txt ln (6 - kk) v q = (v, q) := by rw [show 6 - kk = (5 - kk) + 1 by omega]; unfold numL; rw [if_neg (fun h => b54 h.2)]
              refine hret v E1 _ _ (dk dX7_number 54 rfl) (nint _) ?_
              exact ⟨(by unfold numV; rw [if_pos b5, ← hn, hz]), (by unfold numP; rw [if_pos b5, ← hn, hz]; exact h3), (fun j hj => ((hfr39 j (by omega)).trans (hO34 j (by omega))))⟩
    refine g_lv (lv' := [(0, .ref (ad 233)), (1, .int ((txt p) - 48)), (2, .int 1)]) [2, 1, 0] rfl ?_
    exact K39 _ ((txt p) - 48) 1 (p + 1) E34 (Nat.lt_succ_self _) hE34 (fun j _ => rfl) (by omega) (by omega) (by omega) rfl
  · refine g_if_ne F (q := 11) (tgt := 14) (dk dX7_number 4 rfl) (by decide) rfl (fun h => absurd h (by decide)) (fun _ => ?_)
    refine g_bipush F (q := 13) (v := (-5)) (dk dX7_number 5 rfl) rfl (by decide) ?_
    refine hret (-5) E _ _ (dk dX7_number 6 rfl) (nint _) ?_
    exact ⟨(if_neg b5), (by rw [numP_no b5]; exact h233), (fun j _ => rfl)⟩
theorem kv_X7_number : KV yX7_number "ThumpEarsModel" cX7_number 3 (some .int) 0 := ⟨tq_804, tq_24, tq_47, tq_805, by decide +kernel⟩
abbrev rm_X7_takes : Room := { frames := 2, cells := 0, slots := 0, locals := 44 }
set_option maxHeartbeats 4000000 in
set_option maxRecDepth 100000 in
theorem c_X7_takes {l : Launch} {D : va_G} {cA : Nat → ClassId} {ad : Nat → Nat} {E : Nat → va_E} {ln p : Nat} {s0 s1 s4 s5 : Int32} {lo mo : Int64} {txt : Nat → Int32} {ch : Int32} (h233 : E 233 = .inr (7, [.ref (ad 234), .ref (ad 235), .ref (ad 236), .ref (ad 237), .int s0, .int s1, .ref (ad 238), .int (nI ln), .int (nI p), .int s4, .int s5, .ref (ad 239), .ref (ad 240), .ref (ad 241), .long lo, .long mo, .ref (ad 242)])) (h238 : E 238 = .inl (cA 3, 60, .inl txt))  (hln : ln ≤ 60) (hp : p ≤ ln) : CtI l D cA yX7_takes cX7_takes 3 .boolean rm_X7_takes 243 ad E [.ref (ad 233), .int ch] (fun x E' => (1 = x ∧ (E' 233 = .inr (7, [.ref (ad 234), .ref (ad 235), .ref (ad 236), .ref (ad 237), .int s0, .int s1, .ref (ad 238), .int (nI ln), .int (nI ((p + 1))), .int s4, .int s5, .ref (ad 239), .ref (ad 240), .ref (ad 241), .long lo, .long mo, .ref (ad 242)]) ∧ (p < ln ∧ txt p = ch) ∧ ∀ j, (j ≠ 233) → E' j = E j)) ∨ (0 = x ∧ (E' 233 = .inr (7, [.ref (ad 234), .ref (ad 235), .ref (ad 236), .ref (ad 237), .int s0, .int s1, .ref (ad 238), .int (nI ln), .int (nI p), .int s4, .int s5, .ref (ad 239), .ref (ad 240), .ref (ad 241), .long lo, .long mo, .ref (ad 242)]) ∧ (¬ (p < ln ∧ txt p = ch)) ∧ ∀ j, (j ≠ 233) → E' j = E j))) := by
  refine CtI.of (by decide +kernel) (Nat.le_of_ble_eq_true rfl) (fun X F hret => ?_)
  have F : Fr "ThumpEarsModel" cX7_takes 3 D cA X := F
  refine (show GG rm_X7_takes 3 l D X 0 0 243 ad E 0 [(0, .ref (ad 233)), (1, .int ch)] [] from ?_)
  refine g_aload_n F (q := 1) (dk dX7_takes 0 rfl) rfl rfl 0 rfl ?_
  refine g_iload_n F (q := 2) (dk dX7_takes 1 rfl) rfl rfl 1 rfl ?_
  refine g_iload_n F (q := 3) (dk dX7_takes 2 rfl) rfl rfl 1 rfl ?_
  refine g_callVI F (q := 6) (av := [.int ch, .int ch]) (st := []) (c_X7_sees (a := ch) (b := ch) h233 h238 (by first | assumption | decide | omega) (by first | assumption | decide | omega)) kv_X7_sees tq_798 h233 rfl (by omega) ⟨rfl, rfl⟩ (by decide) ⟨Nat.le_refl _, Nat.le_refl _⟩ rfl rfl (Nat.le_of_ble_eq_true rfl) (dk dX7_takes 3 rfl) rfl (fun r3 E3 hp3 => ?_)
  rcases hp3 with ⟨rfl, rfl, b3⟩ | ⟨rfl, rfl, b3⟩
  · refine g_istore_n F (q := 7) (lv' := [(2, .int 1), (0, .ref (ad 233)), (1, .int ch)]) (dk dX7_takes 4 rfl) rfl rfl (Nat.le_of_ble_eq_true rfl) rfl ?_
    refine g_aload_n F (q := 8) (dk dX7_takes 5 rfl) rfl rfl 1 rfl ?_
    refine g_dup F (q := 9) (dk dX7_takes 6 rfl) rfl rfl ?_
    refine g_getf F (q := 12) h233 rfl inX7 (by omega) (j := 8) (by decide) tq_631 rfl rfl (dk dX7_takes 7 rfl) rfl ?_
    refine g_iload_n F (q := 13) (dk dX7_takes 8 rfl) rfl rfl 0 rfl ?_
    refine g_if_eq F (q := 16) (tgt := 20) (dk dX7_takes 9 rfl) (by decide) rfl (fun h => absurd h (by decide)) (fun _ => ?_)
    refine g_iconst F (q := 17) (v := 1) (dk dX7_takes 10 rfl) rfl (by decide) ?_
    refine g_goto F (tgt := 21) (dk dX7_takes 11 rfl) (by decide) ?_
    refine g_iadd F (q := 22) (dk dX7_takes 13 rfl) rfl ?_
    refine g_sti (nA rfl rfl) ?_
    refine g_putf F (q := 25) (ty := .int) h233 rfl inX7 tyX7 tyX7_ok nmX7 (by omega) (j := 8) (by decide) tq_631 rfl rfl (by decide +kernel) rfl rfl (Nat.le_of_ble_eq_true rfl) (dk dX7_takes 14 rfl) rfl (fun E22 hE22 hO22 => ?_)
    have hE22 : E22 233 = .inr (7, [.ref (ad 234), .ref (ad 235), .ref (ad 236), .ref (ad 237), .int s0, .int s1, .ref (ad 238), .int (nI ln), .int (nI ((p + 1))), .int s4, .int s5, .ref (ad 239), .ref (ad 240), .ref (ad 241), .long lo, .long mo, .ref (ad 242)]) := hE22
    refine g_iload_n F (q := 26) (dk dX7_takes 15 rfl) rfl rfl 0 rfl ?_
    refine hret 1 E22 _ _ (dk dX7_takes 16 rfl) rfl ?_
    exact Or.inl ⟨rfl, hE22, ⟨b3.1, Int32.le_antisymm b3.2.2 b3.2.1⟩, (fun j hj => (hO22 j (by omega)))⟩
  · refine g_istore_n F (q := 7) (lv' := [(2, .int 0), (0, .ref (ad 233)), (1, .int ch)]) (dk dX7_takes 4 rfl) rfl rfl (Nat.le_of_ble_eq_true rfl) rfl ?_
    refine g_aload_n F (q := 8) (dk dX7_takes 5 rfl) rfl rfl 1 rfl ?_
    refine g_dup F (q := 9) (dk dX7_takes 6 rfl) rfl rfl ?_
    refine g_getf F (q := 12) h233 rfl inX7 (by omega) (j := 8) (by decide) tq_631 rfl rfl (dk dX7_takes 7 rfl) rfl ?_
    refine g_iload_n F (q := 13) (dk dX7_takes 8 rfl) rfl rfl 0 rfl ?_
    refine g_if_eq F (q := 16) (tgt := 20) (dk dX7_takes 9 rfl) (by decide) rfl (fun _ => ?_) (fun h => absurd h (by decide))
    refine g_iconst F (q := 21) (v := 0) (dk dX7_takes 12 rfl) rfl (by decide) ?_
    refine g_iadd F (q := 22) (dk dX7_takes 13 rfl) rfl ?_
    refine g_sti (nA rfl rfl) ?_
    refine g_putf F (q := 25) (ty := .int) h233 rfl inX7 tyX7 tyX7_ok nmX7 (by omega) (j := 8) (by decide) tq_631 rfl rfl (by decide +kernel) rfl rfl (Nat.le_of_ble_eq_true rfl) (dk dX7_takes 14 rfl) rfl (fun E22 hE22 hO22 => ?_)
    have hE22 : E22 233 = .inr (7, [.ref (ad 234), .ref (ad 235), .ref (ad 236), .ref (ad 237), .int s0, .int s1, .ref (ad 238), .int (nI ln), .int (nI ((p + 0))), .int s4, .int s5, .ref (ad 239), .ref (ad 240), .ref (ad 241), .long lo, .long mo, .ref (ad 242)]) := hE22
    refine g_iload_n F (q := 26) (dk dX7_takes 15 rfl) rfl rfl 0 rfl ?_
    refine hret 0 E22 _ _ (dk dX7_takes 16 rfl) rfl ?_
    exact Or.inr ⟨rfl, hE22, (fun h => b3 ⟨h.1, by rw [h.2]; exact ⟨Int32.le_refl _, Int32.le_refl _⟩⟩), (fun j hj => (hO22 j (by omega)))⟩
theorem kv_X7_takes : KV yX7_takes "ThumpEarsModel" cX7_takes 3 (some .boolean) 1 := ⟨tq_808, tq_25, tq_47, tq_809, by decide +kernel⟩
