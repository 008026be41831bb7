abbrev rm_X2_isDigit : Room := { frames := 0, cells := 0, slots := 0, locals := 0 }
set_option maxHeartbeats 4000000 in
set_option maxRecDepth 100000 in
theorem c_X2_isDigit {l : Launch} {D : va_G} {cA : Nat → ClassId} {ad : Nat → Nat} {E : Nat → va_E} {ln p : Nat} {od nu : Int32} {txt : Nat → Int32}  (h219 : E 219 = .inr (2, [.ref (ad 220), .int (nI ln), .ref (ad 221), .ref (ad 222), .ref (ad 223), .ref (ad 224), .int od, .int (nI p), .int nu])) (httxt : E 220 = .inl (cA 3, 60, .inl txt))  (hln : ln ≤ 60) (hp : p ≤ ln) : CtI l D cA yX2_isDigit cX2_isDigit 1 .boolean rm_X2_isDigit 235 ad E [.ref (ad 219)] (fun x E' => (E = E' ∧ 1 = x ∧ (p < ln ∧ 48 ≤ txt (p) ∧ txt (p) ≤ 57)) ∨ (E = E' ∧ 0 = x ∧ ¬ (p < ln ∧ 48 ≤ txt (p) ∧ txt (p) ≤ 57))) := by
  refine CtI.of (by decide +kernel) (Nat.le_of_ble_eq_true rfl) (fun X F hret => ?_)
  have F : Fr "ThumpEars$OrderText" cX2_isDigit 1 D cA X := F
  refine (show GG rm_X2_isDigit 1 l D X 0 0 235 ad E 0 [(0, .ref (ad 219))] [] from ?_)
  refine g_aload_n F (q := 1) (dk dX2_isDigit 0 rfl) rfl rfl 0 rfl ?_
  refine g_getf F (q := 4) h219 rfl inX2 (by omega) (j := 7) (by decide) tq_161 rfl rfl (dk dX2_isDigit 1 rfl) rfl ?_
  refine g_aload_n F (q := 5) (dk dX2_isDigit 2 rfl) rfl rfl 0 rfl ?_
  refine g_getf F (q := 8) h219 rfl inX2 (by omega) (j := 1) (by decide) tq_149 rfl rfl (dk dX2_isDigit 3 rfl) rfl ?_
  refine g_icmp_ge F (q := 11) (tgt := 43) (dk dX2_isDigit 4 rfl) (by decide) rfl (fun c8 => ?_) (fun c8 => ?_)
  · have nc8 : ln ≤ p := (nI_leI (a := ln) (b := p) (by omega) (by omega)).mp c8
    refine g_iconst F (q := 44) (v := 0) (dk dX2_isDigit 21 rfl) rfl (by decide) ?_
    refine hret 0 E _ _ (dk dX2_isDigit 22 rfl) rfl ?_
    exact Or.inr ⟨rfl, rfl, (fun h => absurd h.1 (by omega))⟩
  · have nc8 : ¬ ln ≤ p := fun h => c8 ((nI_leI (a := ln) (b := p) (by omega) (by omega)).mpr h)
    refine g_aload_n F (q := 12) (dk dX2_isDigit 5 rfl) rfl rfl 0 rfl ?_
    refine g_getf F (q := 15) h219 rfl inX2 (by omega) (j := 0) (by decide) tq_147 rfl rfl (dk dX2_isDigit 6 rfl) rfl ?_
    refine g_aload_n F (q := 16) (dk dX2_isDigit 7 rfl) rfl rfl 0 rfl ?_
    refine g_getf F (q := 19) h219 rfl inX2 (by omega) (j := 7) (by decide) tq_161 rfl rfl (dk dX2_isDigit 8 rfl) rfl ?_
    refine g_cald F (q := 20) p httxt (by omega) rfl (by omega) (by decide) (dk dX2_isDigit 9 rfl) rfl ?_
    refine g_bipush F (q := 22) (v := 48) (dk dX2_isDigit 10 rfl) rfl (by decide) ?_
    refine g_icmp_lt F (q := 25) (tgt := 43) (dk dX2_isDigit 11 rfl) (by decide) rfl (fun c22 => ?_) (fun c22 => ?_)
    · refine g_iconst F (q := 44) (v := 0) (dk dX2_isDigit 21 rfl) rfl (by decide) ?_
      refine hret 0 E _ _ (dk dX2_isDigit 22 rfl) rfl ?_
      exact Or.inr ⟨rfl, rfl, (fun h => absurd h.2.1 (Int32.not_le.mpr c22))⟩
    · refine g_aload_n F (q := 26) (dk dX2_isDigit 12 rfl) rfl rfl 0 rfl ?_
      refine g_getf F (q := 29) h219 rfl inX2 (by omega) (j := 0) (by decide) tq_147 rfl rfl (dk dX2_isDigit 13 rfl) rfl ?_
      refine g_aload_n F (q := 30) (dk dX2_isDigit 14 rfl) rfl rfl 0 rfl ?_
      refine g_getf F (q := 33) h219 rfl inX2 (by omega) (j := 7) (by decide) tq_161 rfl rfl (dk dX2_isDigit 15 rfl) rfl ?_
      refine g_cald F (q := 34) p httxt (by omega) rfl (by omega) (by decide) (dk dX2_isDigit 16 rfl) rfl ?_
      refine g_bipush F (q := 36) (v := 57) (dk dX2_isDigit 17 rfl) rfl (by decide) ?_
      refine g_icmp_gt F (q := 39) (tgt := 43) (dk dX2_isDigit 18 rfl) (by decide) rfl (fun c36 => ?_) (fun c36 => ?_)
      · refine g_iconst F (q := 44) (v := 0) (dk dX2_isDigit 21 rfl) rfl (by decide) ?_
        refine hret 0 E _ _ (dk dX2_isDigit 22 rfl) rfl ?_
        exact Or.inr ⟨rfl, rfl, (fun h => absurd h.2.2 (Int32.not_le.mpr c36))⟩
      · refine g_iconst F (q := 40) (v := 1) (dk dX2_isDigit 19 rfl) rfl (by decide) ?_
        refine g_goto F (tgt := 44) (dk dX2_isDigit 20 rfl) (by decide) ?_
        refine hret 1 E _ _ (dk dX2_isDigit 22 rfl) rfl ?_
        exact Or.inl ⟨rfl, rfl, ⟨by omega, Int32.not_lt.mp c22, Int32.not_lt.mp c36⟩⟩
theorem kv_X2_isDigit : KV yX2_isDigit "ThumpEars$OrderText" cX2_isDigit 1 (some .boolean) 0 := ⟨tq_603, tq_604, tq_13, tq_605, by decide +kernel⟩
abbrev rm_X2_skips : Room := { frames := 0, cells := 0, slots := 0, locals := 0 }
set_option maxHeartbeats 4000000 in
set_option maxRecDepth 100000 in
theorem c_X2_skips {l : Launch} {D : va_G} {cA : Nat → ClassId} {ad : Nat → Nat} {E : Nat → va_E} {ln p : Nat} {od nu : Int32} {txt : Nat → Int32} {ch : Int32} (h219 : E 219 = .inr (2, [.ref (ad 220), .int (nI ln), .ref (ad 221), .ref (ad 222), .ref (ad 223), .ref (ad 224), .int od, .int (nI p), .int nu])) (httxt : E 220 = .inl (cA 3, 60, .inl txt))  (hln : ln ≤ 60) (hp : p ≤ ln) : CtI l D cA yX2_skips cX2_skips 2 .boolean rm_X2_skips 235 ad E [.ref (ad 219), .int ch] (fun x E' => (1 = x ∧ (E' 219 = .inr (2, [.ref (ad 220), .int (nI ln), .ref (ad 221), .ref (ad 222), .ref (ad 223), .ref (ad 224), .int od, .int (nI ((p + 1))), .int nu]) ∧ (p < ln ∧ txt p = ch) ∧ ∀ j, (j ≠ 219) → E' j = E j)) ∨ (0 = x ∧ ((¬ (p < ln ∧ txt p = ch)) ∧ E = E'))) := by
  refine CtI.of (by decide +kernel) (Nat.le_of_ble_eq_true rfl) (fun X F hret => ?_)
  have F : Fr "ThumpEars$OrderText" cX2_skips 2 D cA X := F
  refine (show GG rm_X2_skips 2 l D X 0 0 235 ad E 0 [(0, .ref (ad 219)), (1, .int ch)] [] from ?_)
  refine g_aload_n F (q := 1) (dk dX2_skips 0 rfl) rfl rfl 0 rfl ?_
  refine g_getf F (q := 4) h219 rfl inX2 (by omega) (j := 7) (by decide) tq_161 rfl rfl (dk dX2_skips 1 rfl) rfl ?_
  refine g_aload_n F (q := 5) (dk dX2_skips 2 rfl) rfl rfl 0 rfl ?_
  refine g_getf F (q := 8) h219 rfl inX2 (by omega) (j := 1) (by decide) tq_149 rfl rfl (dk dX2_skips 3 rfl) rfl ?_
  refine g_icmp_ge F (q := 11) (tgt := 24) (dk dX2_skips 4 rfl) (by decide) rfl (fun c8 => ?_) (fun c8 => ?_)
  · have nc8 : ln ≤ p := (nI_leI (a := ln) (b := p) (by omega) (by omega)).mp c8
    refine g_iconst F (q := 25) (v := 0) (dk dX2_skips 12 rfl) rfl (by decide) ?_
    refine hret 0 E _ _ (dk dX2_skips 13 rfl) rfl ?_
    exact Or.inr ⟨rfl, (fun h => absurd h.1 (by omega)), rfl⟩
  · have nc8 : ¬ ln ≤ p := fun h => c8 ((nI_leI (a := ln) (b := p) (by omega) (by omega)).mpr h)
    refine g_aload_n F (q := 12) (dk dX2_skips 5 rfl) rfl rfl 0 rfl ?_
    refine g_getf F (q := 15) h219 rfl inX2 (by omega) (j := 0) (by decide) tq_147 rfl rfl (dk dX2_skips 6 rfl) rfl ?_
    refine g_aload_n F (q := 16) (dk dX2_skips 7 rfl) rfl rfl 0 rfl ?_
    refine g_getf F (q := 19) h219 rfl inX2 (by omega) (j := 7) (by decide) tq_161 rfl rfl (dk dX2_skips 8 rfl) rfl ?_
    refine g_cald F (q := 20) p httxt (by omega) rfl (by omega) (by decide) (dk dX2_skips 9 rfl) rfl ?_
    refine g_iload_n F (q := 21) (dk dX2_skips 10 rfl) rfl rfl 1 rfl ?_
    refine g_icmp_eq F (q := 24) (tgt := 26) (dk dX2_skips 11 rfl) (by decide) rfl (fun c21 => ?_) (fun c21 => ?_)
    · refine g_aload_n F (q := 27) (dk dX2_skips 14 rfl) rfl rfl 0 rfl ?_
      refine g_dup F (q := 28) (dk dX2_skips 15 rfl) rfl rfl ?_
      refine g_getf F (q := 31) h219 rfl inX2 (by omega) (j := 7) (by decide) tq_161 rfl rfl (dk dX2_skips 16 rfl) rfl ?_
      refine g_iconst F (q := 32) (v := 1) (dk dX2_skips 17 rfl) rfl (by decide) ?_
      refine g_iadd F (q := 33) (dk dX2_skips 18 rfl) rfl ?_
      refine g_sti (nA rfl rfl) ?_
      refine g_putf F (q := 36) (ty := .int) h219 rfl inX2 tyX2 tyX2_ok nmX2 (by omega) (j := 7) (by decide) tq_161 rfl rfl (by decide +kernel) rfl rfl (Nat.le_of_ble_eq_true rfl) (dk dX2_skips 19 rfl) rfl (fun E33 hE33 hO33 => ?_)
      have hE33 : E33 219 = .inr (2, [.ref (ad 220), .int (nI ln), .ref (ad 221), .ref (ad 222), .ref (ad 223), .ref (ad 224), .int od, .int (nI ((p + 1))), .int nu]) := hE33
      refine g_iconst F (q := 37) (v := 1) (dk dX2_skips 20 rfl) rfl (by decide) ?_
      refine hret 1 E33 _ _ (dk dX2_skips 21 rfl) rfl ?_
      exact Or.inl ⟨rfl, hE33, ⟨by omega, c21⟩, (fun j hj => (hO33 j (by omega)))⟩
    · refine g_iconst F (q := 25) (v := 0) (dk dX2_skips 12 rfl) rfl (by decide) ?_
      refine hret 0 E _ _ (dk dX2_skips 13 rfl) rfl ?_
      exact Or.inr ⟨rfl, (fun h => c21 h.2), rfl⟩
theorem kv_X2_skips : KV yX2_skips "ThumpEars$OrderText" cX2_skips 2 (some .boolean) 1 := ⟨tq_595, tq_596, tq_13, tq_597, by decide +kernel⟩
abbrev rm_X2_readNumber : Room := { frames := 1, cells := 0, slots := 0, locals := 20 }
set_option maxHeartbeats 4000000 in
set_option maxRecDepth 100000 in
theorem c_X2_readNumber {l : Launch} {D : va_G} {cA : Nat → ClassId} {ad : Nat → Nat} {E : Nat → va_E} {ln p : Nat} {od nu : Int32} {txt : Nat → Int32}  (h219 : E 219 = .inr (2, [.ref (ad 220), .int (nI ln), .ref (ad 221), .ref (ad 222), .ref (ad 223), .ref (ad 224), .int od, .int (nI p), .int nu])) (httxt : E 220 = .inl (cA 3, 60, .inl txt))  (hln : ln ≤ 60) (hp : p ≤ ln) : CtI l D cA yX2_readNumber cX2_readNumber 2 .boolean rm_X2_readNumber 235 ad E [.ref (ad 219)] (fun x E' => (1 = x ∧ (E' 219 = .inr (2, [.ref (ad 220), .int (nI ln), .ref (ad 221), .ref (ad 222), .ref (ad 223), .ref (ad 224), .int od, .int (nI ((numP txt ln p))), .int (numV txt ln p)]) ∧ (p < ln ∧ 48 ≤ txt (p) ∧ txt (p) ≤ 57) ∧ ∀ j, (j ≠ 219) → E' j = E j)) ∨ (0 = x ∧ (E' 219 = .inr (2, [.ref (ad 220), .int (nI ln), .ref (ad 221), .ref (ad 222), .ref (ad 223), .ref (ad 224), .int od, .int (nI p), .int 0]) ∧ (¬ (p < ln ∧ 48 ≤ txt (p) ∧ txt (p) ≤ 57)) ∧ ∀ j, (j ≠ 219) → E' j = E j))) := by
  refine CtI.of (by decide +kernel) (Nat.le_of_ble_eq_true rfl) (fun X F hret => ?_)
  have F : Fr "ThumpEars$OrderText" cX2_readNumber 2 D cA X := F
  refine (show GG rm_X2_readNumber 2 l D X 0 0 235 ad E 0 [(0, .ref (ad 219))] [] from ?_)
  refine g_iconst F (q := 1) (v := 0) (dk dX2_readNumber 0 rfl) rfl (by decide) ?_
  refine g_istore_n F (q := 2) (lv' := [(1, .int 0), (0, .ref (ad 219))]) (dk dX2_readNumber 1 rfl) rfl rfl (Nat.le_of_ble_eq_true rfl) rfl ?_
  refine g_aload_n F (q := 3) (dk dX2_readNumber 2 rfl) rfl rfl 1 rfl ?_
  refine g_iconst F (q := 4) (v := 0) (dk dX2_readNumber 3 rfl) rfl (by decide) ?_
  refine g_putf F (q := 7) (ty := .int) h219 rfl inX2 tyX2 tyX2_ok nmX2 (by omega) (j := 8) (by decide) tq_162 rfl rfl (by decide +kernel) rfl rfl (Nat.le_of_ble_eq_true rfl) (dk dX2_readNumber 4 rfl) rfl (fun E4 hE4 hO4 => ?_)
  have hE4 : E4 219 = .inr (2, [.ref (ad 220), .int (nI ln), .ref (ad 221), .ref (ad 222), .ref (ad 223), .ref (ad 224), .int od, .int (nI p), .int 0]) := hE4
  refine g_iload_n F (q := 8) (dk dX2_readNumber 5 rfl) rfl rfl 0 rfl ?_
  refine g_bipush F (q := 10) (v := 6) (dk dX2_readNumber 6 rfl) rfl (by decide) ?_
  refine g_icmp_ge F (q := 13) (tgt := 71) (dk dX2_readNumber 7 rfl) (by decide) rfl (fun h => absurd h (by decide)) (fun _ => ?_)
  refine g_aload_n F (q := 14) (dk dX2_readNumber 8 rfl) rfl rfl 1 rfl ?_
  have hc1 := (hO4 220 (by omega)).trans httxt
  refine g_callVI F (q := 17) (av := []) (st := []) (c_X2_isDigit hE4 hc1 (by first | assumption | decide | omega) (by first | assumption | decide | omega)) kv_X2_isDigit tq_602 hE4 rfl (by omega) ⟨rfl, rfl⟩ (by decide) ⟨Nat.le_refl _, Nat.le_refl _⟩ rfl rfl (Nat.le_of_ble_eq_true rfl) (dk dX2_readNumber 9 rfl) rfl (fun r14 E14 hp14 => ?_)
  rcases hp14 with ⟨rfl, rfl, b14⟩ | ⟨rfl, rfl, b14⟩
  · refine g_if_eq F (q := 20) (tgt := 71) (dk dX2_readNumber 10 rfl) (by decide) rfl (fun h => absurd h (by decide)) (fun _ => ?_)
    refine g_iload_n F (q := 21) (dk dX2_readNumber 11 rfl) rfl rfl 0 rfl ?_
    refine g_if_eq F (q := 24) (tgt := 31) (dk dX2_readNumber 12 rfl) (by decide) rfl (fun _ => ?_) (fun h => absurd h (by decide))
    refine g_aload_n F (q := 32) (dk dX2_readNumber 16 rfl) rfl rfl 1 rfl ?_
    refine g_bipush F (q := 34) (v := 10) (dk dX2_readNumber 17 rfl) rfl (by decide) ?_
    refine g_aload_n F (q := 35) (dk dX2_readNumber 18 rfl) rfl rfl 1 rfl ?_
    refine g_getf F (q := 38) hE4 rfl inX2 (by omega) (j := 8) (by decide) tq_162 rfl rfl (dk dX2_readNumber 19 rfl) rfl ?_
    refine g_imul F (q := 39) (dk dX2_readNumber 20 rfl) rfl ?_
    refine g_aload_n F (q := 40) (dk dX2_readNumber 21 rfl) rfl rfl 1 rfl ?_
    refine g_getf F (q := 43) hE4 rfl inX2 (by omega) (j := 0) (by decide) tq_147 rfl rfl (dk dX2_readNumber 22 rfl) rfl ?_
    refine g_aload_n F (q := 44) (dk dX2_readNumber 23 rfl) rfl rfl 1 rfl ?_
    refine g_getf F (q := 47) hE4 rfl inX2 (by omega) (j := 7) (by decide) tq_161 rfl rfl (dk dX2_readNumber 24 rfl) rfl ?_
    refine g_cald F (q := 48) p hc1 (by omega) rfl (by omega) (by decide) (dk dX2_readNumber 25 rfl) rfl ?_
    refine g_bipush F (q := 50) (v := 48) (dk dX2_readNumber 26 rfl) rfl (by decide) ?_
    refine g_isub F (q := 51) (dk dX2_readNumber 27 rfl) rfl ?_
    refine g_iadd F (q := 52) (dk dX2_readNumber 28 rfl) rfl ?_
    refine g_putf F (q := 55) (ty := .int) hE4 rfl inX2 tyX2 tyX2_ok nmX2 (by omega) (j := 8) (by decide) tq_162 rfl rfl (by decide +kernel) rfl rfl (Nat.le_of_ble_eq_true rfl) (dk dX2_readNumber 29 rfl) rfl (fun E52 hE52 hO52 => ?_)
    have hE52 : E52 219 = .inr (2, [.ref (ad 220), .int (nI ln), .ref (ad 221), .ref (ad 222), .ref (ad 223), .ref (ad 224), .int od, .int (nI p), .int ((10 * 0) + ((txt p) - 48))]) := hE52
    refine g_aload_n F (q := 56) (dk dX2_readNumber 30 rfl) rfl rfl 1 rfl ?_
    refine g_dup F (q := 57) (dk dX2_readNumber 31 rfl) rfl rfl ?_
    refine g_getf F (q := 60) hE52 rfl inX2 (by omega) (j := 7) (by decide) tq_161 rfl rfl (dk dX2_readNumber 32 rfl) rfl ?_
    refine g_iconst F (q := 61) (v := 1) (dk dX2_readNumber 33 rfl) rfl (by decide) ?_
    refine g_iadd F (q := 62) (dk dX2_readNumber 34 rfl) rfl ?_
    refine g_sti (nA rfl rfl) ?_
    refine g_putf F (q := 65) (ty := .int) hE52 rfl inX2 tyX2 tyX2_ok nmX2 (by omega) (j := 7) (by decide) tq_161 rfl rfl (by decide +kernel) rfl rfl (Nat.le_of_ble_eq_true rfl) (dk dX2_readNumber 35 rfl) rfl (fun E62 hE62 hO62 => ?_)
    have hE62 : E62 219 = .inr (2, [.ref (ad 220), .int (nI ln), .ref (ad 221), .ref (ad 222), .ref (ad 223), .ref (ad 224), .int od, .int (nI ((p + 1))), .int ((10 * 0) + ((txt p) - 48))]) := hE62
    refine g_iinc F (q := 68) (v := 1) (lv' := [(1, .int 1), (0, .ref (ad 219))]) (dk dX2_readNumber 36 rfl) rfl 0 rfl (by decide) (Nat.le_of_ble_eq_true rfl) rfl ?_
    have K68 : ∀ (fu : Nat) (d : Nat) (v : Int32) (q : Nat) (E1 : Nat → va_E), 6 - d < fu → (h219 : E1 219 = .inr (2, [.ref (ad 220), .int (nI ln), .ref (ad 221), .ref (ad 222), .ref (ad 223), .ref (ad 224), .int od, .int (nI q), .int v])) → (hfr68 : ∀ j, (j ≠ 219) → E1 j = E62 j) → (hd1 : 1 ≤ d) → (hd6 : d ≤ 6) → (hq : q ≤ ln) → (hdg : p < ln ∧ 48 ≤ txt (p) ∧ txt (p) ≤ 57) → (hnum : numL txt ln (6 - d) v q = numL txt ln 5 (txt p - 48) (p + 1)) → GG rm_X2_readNumber 2 l D X 0 0 235 ad E1 68 [(0, .ref (ad 219)), (1, .int (nI d))] [] := by
      intro fu
      induction fu with
      | zero => intro d v q E1 hfu_; exact absurd hfu_ (Nat.not_lt_zero _)
      | succ fu ih =>
        intro d v q E1 hfu_ h219 hfr68 hd1 hd6 hq hdg hnum
        refine g_goto F (tgt := 7) (dk dX2_readNumber 37 rfl) (by decide) ?_
        refine g_iload_n F (q := 8) (dk dX2_readNumber 5 rfl) rfl rfl 1 rfl ?_
        refine g_bipush F (q := 10) (v := 6) (dk dX2_readNumber 6 rfl) rfl (by decide) ?_
        refine g_icmp_ge F (q := 13) (tgt := 71) (dk dX2_readNumber 7 rfl) (by decide) rfl (fun c10 => ?_) (fun c10 => ?_)
        · have nc10 : 6 ≤ d := (nI_leI (a := 6) (b := d) (by omega) (by omega)).mp c10
          refine g_iload_n F (q := 72) (dk dX2_readNumber 38 rfl) rfl rfl 1 rfl ?_
          refine g_if_le F (q := 75) (tgt := 79) (dk dX2_readNumber 39 rfl) (by decide) rfl (fun c72 => absurd c72 (fun h => absurd ((nI_leI (a := d) (b := 0) (by omega) (by omega)).mp h) (by omega))) (fun c72 => ?_)
          have nc72 : ¬ d ≤ 0 := fun h => c72 ((nI_leI (a := d) (b := 0) (by omega) (by omega)).mpr h)
          refine g_iconst F (q := 76) (v := 1) (dk dX2_readNumber 40 rfl) rfl (by decide) ?_
          refine g_goto F (tgt := 80) (dk dX2_readNumber 41 rfl) (by decide) ?_
          have hz : numL txt ln (6 - d) v q = (v, q) := by rw [show 6 - d = 0 by omega]; rfl
          have hv1 : numV txt ln p = v := by unfold numV; rw [if_pos hdg, ← hnum, hz]
          have hv2 : numP txt ln p = q := by unfold numP; rw [if_pos hdg, ← hnum, hz]
          refine hret 1 E1 _ _ (dk dX2_readNumber 43 rfl) rfl ?_
          exact Or.inl ⟨rfl, (by rw [hv1, hv2]; exact h219), hdg, (fun j hj => ((((hfr68 j (by omega)).trans (hO62 j (by omega))).trans (hO52 j (by omega))).trans (hO4 j (by omega))))⟩
        · have nc10 : ¬ 6 ≤ d := fun h => c10 ((nI_leI (a := 6) (b := d) (by omega) (by omega)).mpr h)
          refine g_aload_n F (q := 14) (dk dX2_readNumber 8 rfl) rfl rfl 0 rfl ?_
          have hc2 := (hO52 220 (by omega)).trans hc1
          have hc3 := (hO62 220 (by omega)).trans hc2
          have hc4 := (hfr68 220 (by omega)).trans hc3
          refine g_callVI F (q := 17) (av := []) (st := []) (c_X2_isDigit h219 hc4 (by first | assumption | decide | omega) (by first | assumption | decide | omega)) kv_X2_isDigit tq_602 h219 rfl (by omega) ⟨rfl, rfl⟩ (by decide) ⟨Nat.le_refl _, Nat.le_refl _⟩ rfl rfl (Nat.le_of_ble_eq_true rfl) (dk dX2_readNumber 9 rfl) rfl (fun r14 E14 hp14 => ?_)
          rcases hp14 with ⟨rfl, rfl, b14⟩ | ⟨rfl, rfl, b14⟩
          · refine g_if_eq F (q := 20) (tgt := 71) (dk dX2_readNumber 10 rfl) (by decide) rfl (fun h => absurd h (by decide)) (fun _ => ?_)
            refine g_iload_n F (q := 21) (dk dX2_readNumber 11 rfl) rfl rfl 1 rfl ?_
            refine g_if_eq F (q := 24) (tgt := 31) (dk dX2_readNumber 12 rfl) (by decide) rfl (fun c21 => absurd c21 (fun h => absurd ((nI_eq (a := d) (b := 0) (by omega) (by omega)).mp h) (by omega))) (fun c21 => ?_)
            have nc21 : ¬ d = 0 := fun h => c21 ((nI_eq (a := d) (b := 0) (by omega) (by omega)).mpr h)
            refine g_aload_n F (q := 25) (dk dX2_readNumber 13 rfl) rfl rfl 0 rfl ?_
            refine g_getf F (q := 28) h219 rfl inX2 (by omega) (j := 8) (by decide) tq_162 rfl rfl (dk dX2_readNumber 14 rfl) rfl ?_
            refine g_if_le F (q := 31) (tgt := 71) (dk dX2_readNumber 15 rfl) (by decide) rfl (fun c28 => ?_) (fun c28 => ?_)
            · refine g_iload_n F (q := 72) (dk dX2_readNumber 38 rfl) rfl rfl 1 rfl ?_
              refine g_if_le F (q := 75) (tgt := 79) (dk dX2_readNumber 39 rfl) (by decide) rfl (fun c72 => absurd c72 (fun h => absurd ((nI_leI (a := d) (b := 0) (by omega) (by omega)).mp h) (by omega))) (fun c72 => ?_)
              have nc72 : ¬ d ≤ 0 := fun h => c72 ((nI_leI (a := d) (b := 0) (by omega) (by omega)).mpr h)
              refine g_iconst F (q := 76) (v := 1) (dk dX2_readNumber 40 rfl) rfl (by decide) ?_
              refine g_goto F (tgt := 80) (dk dX2_readNumber 41 rfl) (by decide) ?_
              have hz : numL txt ln (6 - d) v q = (v, q) := by rw [show 6 - d = (5 - d) + 1 by omega]; unfold numL; rw [if_neg (fun h => absurd h.1 (Int32.not_lt.mpr c28))]
              have hv1 : numV txt ln p = v := by unfold numV; rw [if_pos hdg, ← hnum, hz]
              have hv2 : numP txt ln p = q := by unfold numP; rw [if_pos hdg, ← hnum, hz]
              refine hret 1 E1 _ _ (dk dX2_readNumber 43 rfl) rfl ?_
              exact Or.inl ⟨rfl, (by rw [hv1, hv2]; exact h219), hdg, (fun j hj => ((((hfr68 j (by omega)).trans (hO62 j (by omega))).trans (hO52 j (by omega))).trans (hO4 j (by omega))))⟩
            · refine g_aload_n F (q := 32) (dk dX2_readNumber 16 rfl) rfl rfl 0 rfl ?_
              refine g_bipush F (q := 34) (v := 10) (dk dX2_readNumber 17 rfl) rfl (by decide) ?_
              refine g_aload_n F (q := 35) (dk dX2_readNumber 18 rfl) rfl rfl 0 rfl ?_
              refine g_getf F (q := 38) h219 rfl inX2 (by omega) (j := 8) (by decide) tq_162 rfl rfl (dk dX2_readNumber 19 rfl) rfl ?_
              refine g_imul F (q := 39) (dk dX2_readNumber 20 rfl) rfl ?_
              refine g_aload_n F (q := 40) (dk dX2_readNumber 21 rfl) rfl rfl 0 rfl ?_
              refine g_getf F (q := 43) h219 rfl inX2 (by omega) (j := 0) (by decide) tq_147 rfl rfl (dk dX2_readNumber 22 rfl) rfl ?_
              refine g_aload_n F (q := 44) (dk dX2_readNumber 23 rfl) rfl rfl 0 rfl ?_
              refine g_getf F (q := 47) h219 rfl inX2 (by omega) (j := 7) (by decide) tq_161 rfl rfl (dk dX2_readNumber 24 rfl) rfl ?_
              refine g_cald F (q := 48) q hc4 (by omega) rfl (by omega) (by decide) (dk dX2_readNumber 25 rfl) rfl ?_
              refine g_bipush F (q := 50) (v := 48) (dk dX2_readNumber 26 rfl) rfl (by decide) ?_
              refine g_isub F (q := 51) (dk dX2_readNumber 27 rfl) rfl ?_
              refine g_iadd F (q := 52) (dk dX2_readNumber 28 rfl) rfl ?_
              refine g_putf F (q := 55) (ty := .int) h219 rfl inX2 tyX2 tyX2_ok nmX2 (by omega) (j := 8) (by decide) tq_162 rfl rfl (by decide +kernel) rfl rfl (Nat.le_of_ble_eq_true rfl) (dk dX2_readNumber 29 rfl) rfl (fun E52x hE52x hO52x => ?_)
              have hE52x : E52x 219 = .inr (2, [.ref (ad 220), .int (nI ln), .ref (ad 221), .ref (ad 222), .ref (ad 223), .ref (ad 224), .int od, .int (nI q), .int ((10 * v) + ((txt q) - 48))]) := hE52x
              refine g_aload_n F (q := 56) (dk dX2_readNumber 30 rfl) rfl rfl 0 rfl ?_
              refine g_dup F (q := 57) (dk dX2_readNumber 31 rfl) rfl rfl ?_
              refine g_getf F (q := 60) hE52x rfl inX2 (by omega) (j := 7) (by decide) tq_161 rfl rfl (dk dX2_readNumber 32 rfl) rfl ?_
              refine g_iconst F (q := 61) (v := 1) (dk dX2_readNumber 33 rfl) rfl (by decide) ?_
              refine g_iadd F (q := 62) (dk dX2_readNumber 34 rfl) rfl ?_
              refine g_sti (nA rfl rfl) ?_
              refine g_putf F (q := 65) (ty := .int) hE52x rfl inX2 tyX2 tyX2_ok nmX2 (by omega) (j := 7) (by decide) tq_161 rfl rfl (by decide +kernel) rfl rfl (Nat.le_of_ble_eq_true rfl) (dk dX2_readNumber 35 rfl) rfl (fun E62x hE62x hO62x => ?_)
              have hE62x : E62x 219 = .inr (2, [.ref (ad 220), .int (nI ln), .ref (ad 221), .ref (ad 222), .ref (ad 223), .ref (ad 224), .int od, .int (nI ((q + 1))), .int ((10 * v) + ((txt q) - 48))]) := hE62x
              refine g_iinc F (q := 68) (v := (nI ((d + 1)))) (lv' := [(1, .int (nI ((d + 1)))), (0, .ref (ad 219))]) (dk dX2_readNumber 36 rfl) rfl 1 rfl (nI_1 _) (Nat.le_of_ble_eq_true rfl) rfl ?_
              refine g_lv (lv' := [(0, .ref (ad 219)), (1, .int (nI ((d + 1))))]) [1, 0] rfl ?_
              exact ih (d + 1) _ (q + 1) E62x (by omega) hE62x (fun j hj => (((hO62x j (by omega)).trans (hO52x j (by omega))).trans (hfr68 j (by omega)))) (by omega) (by omega) (by omega) (by omega) (by rw [← hnum, show 6 - d = (6 - (d + 1)) + 1 by omega, asub]; conv => rhs; unfold numL; rw [if_pos ⟨Int32.not_le.mp c28, b14⟩])
          · refine g_if_eq F (q := 20) (tgt := 71) (dk dX2_readNumber 10 rfl) (by decide) rfl (fun _ => ?_) (fun h => absurd h (by decide))
            refine g_iload_n F (q := 72) (dk dX2_readNumber 38 rfl) rfl rfl 1 rfl ?_
            refine g_if_le F (q := 75) (tgt := 79) (dk dX2_readNumber 39 rfl) (by decide) rfl (fun c72 => absurd c72 (fun h => absurd ((nI_leI (a := d) (b := 0) (by omega) (by omega)).mp h) (by omega))) (fun c72 => ?_)
            have nc72 : ¬ d ≤ 0 := fun h => c72 ((nI_leI (a := d) (b := 0) (by omega) (by omega)).mpr h)
            refine g_iconst F (q := 76) (v := 1) (dk dX2_readNumber 40 rfl) rfl (by decide) ?_
            refine g_goto F (tgt := 80) (dk dX2_readNumber 41 rfl) (by decide) ?_
            have hz : numL txt ln (6 - d) v q = (v, q) := by rw [show 6 - d = (5 - d) + 1 by omega]; unfold numL; rw [if_neg (fun h => b14 h.2)]
            have hv1 : numV txt ln p = v := by unfold numV; rw [if_pos hdg, ← hnum, hz]
            have hv2 : numP txt ln p = q := by unfold numP; rw [if_pos hdg, ← hnum, hz]
            refine hret 1 E1 _ _ (dk dX2_readNumber 43 rfl) rfl ?_
            exact Or.inl ⟨rfl, (by rw [hv1, hv2]; exact h219), hdg, (fun j hj => ((((hfr68 j (by omega)).trans (hO62 j (by omega))).trans (hO52 j (by omega))).trans (hO4 j (by omega))))⟩
    refine g_lv (lv' := [(0, .ref (ad 219)), (1, .int 1)]) [1, 0] rfl ?_
    exact K68 _ 1 ((10 * 0) + ((txt p) - 48)) (p + 1) E62 (Nat.lt_succ_self _) hE62 (fun j _ => rfl) (by omega) (by omega) (by omega) b14 (by rw [show (10 * 0 + (txt p - 48) : Int32) = txt p - 48 by simp])
  · refine g_if_eq F (q := 20) (tgt := 71) (dk dX2_readNumber 10 rfl) (by decide) rfl (fun _ => ?_) (fun h => absurd h (by decide))
    refine g_iload_n F (q := 72) (dk dX2_readNumber 38 rfl) rfl rfl 0 rfl ?_
    refine g_if_le F (q := 75) (tgt := 79) (dk dX2_readNumber 39 rfl) (by decide) rfl (fun _ => ?_) (fun h => absurd h (by decide))
    refine g_iconst F (q := 80) (v := 0) (dk dX2_readNumber 42 rfl) rfl (by decide) ?_
    refine hret 0 E4 _ _ (dk dX2_readNumber 43 rfl) rfl ?_
    exact Or.inr ⟨rfl, hE4, b14, (fun j hj => (hO4 j (by omega)))⟩
theorem kv_X2_readNumber : KV yX2_readNumber "ThumpEars$OrderText" cX2_readNumber 2 (some .boolean) 0 := ⟨tq_599, tq_600, tq_13, tq_601, by decide +kernel⟩
