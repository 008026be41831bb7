abbrev rm_X7_order_a : Room := { frames := 3, cells := 0, slots := 0, locals := 66 }
set_option maxHeartbeats 4000000 in
set_option maxRecDepth 100000 in
theorem c_X7_order_a {l : Launch} {D : va_G} {cA : Nat → ClassId} {ad : Nat → Nat} {E : Nat → va_E} {ln p : Nat} {s0 s1 s4 s5 : Int32} {lo mo : Int64} {txt : Nat → Int32}  (h233 : E 233 = .inr (7, [.ref (ad 234), .ref (ad 235), .ref (ad 236), .ref (ad 237), .int s0, .int s1, .ref (ad 238), .int (nI ln), .int (nI p), .int s4, .int s5, .ref (ad 239), .ref (ad 240), .ref (ad 241), .long lo, .long mo, .ref (ad 242)])) (h238 : E 238 = .inl (cA 3, 60, .inl txt))  (hln : ln ≤ 60) (hp : p ≤ ln) : CtI l D cA yX7_order cX7_order 6 .boolean rm_X7_order_a 243 ad E [.ref (ad 233), .int 0] (fun x E' => (1 = x ∧ (∃ (q : Nat) (o : Ord), E' 233 = .inr (7, [.ref (ad 234), .ref (ad 235), .ref (ad 236), .ref (ad 237), .int s0, .int s1, .ref (ad 238), .int (nI ln), .int (nI q), .int 0, .int s5, .ref (ad 239), .ref (ad 240), .ref (ad 241), .long lo, .long mo, .ref (ad 242)]) ∧ (ordP txt ln p = (q, some o)) ∧ ∀ j, (j ≠ 233) → E' j = E j)) ∨ (0 = x ∧ (∃ (q : Nat), E' 233 = .inr (7, [.ref (ad 234), .ref (ad 235), .ref (ad 236), .ref (ad 237), .int s0, .int s1, .ref (ad 238), .int (nI ln), .int (nI q), .int s4, .int s5, .ref (ad 239), .ref (ad 240), .ref (ad 241), .long lo, .long mo, .ref (ad 242)]) ∧ (ordP txt ln p = (q, none)) ∧ ∀ j, (j ≠ 233) → E' j = E j))) := by
  refine CtI.of (by decide +kernel) (Nat.le_of_ble_eq_true rfl) (fun X F hret => ?_)
  have F : Fr "ThumpEarsModel" cX7_order 6 D cA X := F
  refine (show GG rm_X7_order_a 6 l D X 0 0 243 ad E 0 [(0, .ref (ad 233)), (1, .int 0)] [] from ?_)
  refine g_aload_n F (q := 1) (dk dX7_order 0 rfl) rfl rfl 0 rfl ?_
  refine g_bipush F (q := 3) (v := 116) (dk dX7_order 1 rfl) rfl (by decide) ?_
  refine g_bipush F (q := 5) (v := 116) (dk dX7_order 2 rfl) rfl (by decide) ?_
  refine g_callVI F (q := 8) (av := [.int 116, .int 116]) (st := []) (c_X7_sees (a := 116) (b := 116) h233 h238 (by first | assumption | decide | omega) (by first | assumption | decide | omega)) kv_X7_sees tq_798 h233 rfl (by omega) ⟨rfl, rfl⟩ (by decide) ⟨Nat.le_refl _, Nat.le_refl _⟩ rfl rfl (Nat.le_of_ble_eq_true rfl) (dk dX7_order 3 rfl) rfl (fun r5 E5 hp5 => ?_)
  rcases hp5 with ⟨rfl, rfl, b5⟩ | ⟨rfl, rfl, b5⟩
  · refine g_if_eq F (q := 11) (tgt := 15) (dk dX7_order 4 rfl) (by decide) rfl (fun h => absurd h (by decide)) (fun _ => ?_)
    refine g_iconst F (q := 12) (v := 0) (dk dX7_order 5 rfl) rfl (by decide) ?_
    refine g_goto F (tgt := 31) (dk dX7_order 6 rfl) (by decide) ?_
    refine g_istore_n F (q := 32) (lv' := [(2, .int 0), (0, .ref (ad 233)), (1, .int 0)]) (dk dX7_order 15 rfl) rfl rfl (Nat.le_of_ble_eq_true rfl) rfl ?_
    refine g_iload_n F (q := 33) (dk dX7_order 16 rfl) rfl rfl 0 rfl ?_
    refine g_if_ge F (q := 36) (tgt := 38) (dk dX7_order 17 rfl) (by decide) rfl (fun _ => ?_) (fun h => absurd h (by decide))
    refine g_aload_n F (q := 39) (dk dX7_order 20 rfl) rfl rfl 1 rfl ?_
    refine g_dup F (q := 40) (dk dX7_order 21 rfl) rfl rfl ?_
    refine g_getf F (q := 43) h233 rfl inX7 (by omega) (j := 8) (by decide) tq_631 rfl rfl (dk dX7_order 22 rfl) rfl ?_
    refine g_iconst F (q := 44) (v := 1) (dk dX7_order 23 rfl) rfl (by decide) ?_
    refine g_iadd F (q := 45) (dk dX7_order 24 rfl) rfl ?_
    refine g_sti (nA rfl rfl) ?_
    refine g_putf F (q := 48) (ty := .int) h233 rfl inX7 tyX7 tyX7_ok nmX7 (by omega) (j := 8) (by decide) tq_631 rfl rfl (by decide +kernel) rfl rfl (Nat.le_of_ble_eq_true rfl) (dk dX7_order 25 rfl) rfl (fun E45 hE45 hO45 => ?_)
    have hE45 : E45 233 = .inr (7, [.ref (ad 234), .ref (ad 235), .ref (ad 236), .ref (ad 237), .int s0, .int s1, .ref (ad 238), .int (nI ln), .int (nI ((p + 1))), .int s4, .int s5, .ref (ad 239), .ref (ad 240), .ref (ad 241), .long lo, .long mo, .ref (ad 242)]) := hE45
    refine g_aload_n F (q := 49) (dk dX7_order 26 rfl) rfl rfl 1 rfl ?_
    have hc1 := (hO45 238 (by omega)).trans h238
    refine g_callVI F (q := 52) (av := []) (st := []) (c_X7_number hE45 hc1 (by first | assumption | decide | omega) (by omega)) kv_X7_number tq_802 hE45 rfl (by omega) ⟨rfl, rfl⟩ (by decide) ⟨Nat.le_refl _, Nat.le_refl _⟩ rfl rfl (Nat.le_of_ble_eq_true rfl) (dk dX7_order 27 rfl) rfl (fun r49 E49 hp49 => ?_)
    obtain ⟨rfl, hK233_49, hF49⟩ := hp49
    refine g_istore_n F (q := 53) (lv' := [(3, .int (numV txt ln (p + 1))), (2, .int 0), (0, .ref (ad 233)), (1, .int 0)]) (dk dX7_order 28 rfl) rfl rfl (Nat.le_of_ble_eq_true rfl) rfl ?_
    refine g_iload_n F (q := 54) (dk dX7_order 29 rfl) rfl rfl 0 rfl ?_
    refine g_if_lt F (q := 57) (tgt := 66) (dk dX7_order 30 rfl) (by decide) rfl (fun c54 => ?_) (fun c54 => ?_)
    · refine g_iconst F (q := 67) (v := 0) (dk dX7_order 35 rfl) rfl (by decide) ?_
      refine hret 0 E49 _ _ (dk dX7_order 36 rfl) rfl ?_
      exact Or.inr ⟨rfl, _, hK233_49, ((ordP_t b5).trans (ordQ_a c54)), (fun j hj => ((hF49 j (by omega)).trans (hO45 j (by omega))))⟩
    · refine g_aload_n F (q := 58) (dk dX7_order 31 rfl) rfl rfl 2 rfl ?_
      refine g_bipush F (q := 60) (v := 64) (dk dX7_order 32 rfl) rfl (by decide) ?_
      have hc2 := (hF49 238 (by omega)).trans hc1
      refine g_callVI F (q := 63) (av := [.int 64]) (st := []) (c_X7_takes (ch := 64) hK233_49 hc2 (by first | assumption | decide | omega) (numP_le (by omega))) kv_X7_takes tq_806 hK233_49 rfl (by omega) ⟨rfl, rfl⟩ (by decide) ⟨Nat.le_refl _, Nat.le_refl _⟩ rfl rfl (Nat.le_of_ble_eq_true rfl) (dk dX7_order 33 rfl) rfl (fun r60 E60 hp60 => ?_)
      rcases hp60 with ⟨rfl, hK233_60, hc_60, hF60⟩ | ⟨rfl, hK233_60, hc_60, hF60⟩
      · refine g_if_ne F (q := 66) (tgt := 68) (dk dX7_order 34 rfl) (by decide) rfl (fun _ => ?_) (fun h => absurd h (by decide))
        refine g_aload_n F (q := 69) (dk dX7_order 37 rfl) rfl rfl 2 rfl ?_
        have hc3 := (hF60 238 (by omega)).trans hc2
        refine g_callVI F (q := 72) (av := []) (st := []) (c_X7_number hK233_60 hc3 (by first | assumption | decide | omega) (by omega)) kv_X7_number tq_802 hK233_60 rfl (by omega) ⟨rfl, rfl⟩ (by decide) ⟨Nat.le_refl _, Nat.le_refl _⟩ rfl rfl (Nat.le_of_ble_eq_true rfl) (dk dX7_order 38 rfl) rfl (fun r69 E69 hp69 => ?_)
        obtain ⟨rfl, hK233_69, hF69⟩ := hp69
        refine g_istore F (q := 74) (lv' := [(4, .int (numV txt ln ((numP txt ln (p + 1)) + 1))), (3, .int (numV txt ln (p + 1))), (2, .int 0), (0, .ref (ad 233)), (1, .int 0)]) (dk dX7_order 39 rfl) rfl (Nat.le_of_ble_eq_true rfl) rfl ?_
        refine g_iload F (q := 76) (dk dX7_order 40 rfl) rfl 0 rfl ?_
        refine g_if_ge F (q := 79) (tgt := 81) (dk dX7_order 41 rfl) (by decide) rfl (fun c76 => ?_) (fun c76 => ?_)
        · refine g_sipush F (q := 84) (v := 1000) (dk dX7_order 44 rfl) rfl (by decide) ?_
          refine g_istore F (q := 86) (lv' := [(5, .int 1000), (4, .int (numV txt ln ((numP txt ln (p + 1)) + 1))), (3, .int (numV txt ln (p + 1))), (2, .int 0), (0, .ref (ad 233)), (1, .int 0)]) (dk dX7_order 45 rfl) rfl (Nat.le_of_ble_eq_true rfl) rfl ?_
          refine g_aload_n F (q := 87) (dk dX7_order 46 rfl) rfl rfl 4 rfl ?_
          refine g_bipush F (q := 89) (v := 42) (dk dX7_order 47 rfl) rfl (by decide) ?_
          have hc4 := (hF69 238 (by omega)).trans hc3
          refine g_callVI F (q := 92) (av := [.int 42]) (st := []) (c_X7_takes (ch := 42) hK233_69 hc4 (by first | assumption | decide | omega) (numP_le (by omega))) kv_X7_takes tq_806 hK233_69 rfl (by omega) ⟨rfl, rfl⟩ (by decide) ⟨Nat.le_refl _, Nat.le_refl _⟩ rfl rfl (Nat.le_of_ble_eq_true rfl) (dk dX7_order 48 rfl) rfl (fun r89 E89 hp89 => ?_)
          rcases hp89 with ⟨rfl, hK233_89, hc_89, hF89⟩ | ⟨rfl, hK233_89, hc_89, hF89⟩
          · refine g_if_eq F (q := 95) (tgt := 108) (dk dX7_order 49 rfl) (by decide) rfl (fun h => absurd h (by decide)) (fun _ => ?_)
            refine g_aload_n F (q := 96) (dk dX7_order 50 rfl) rfl rfl 4 rfl ?_
            have hc5 := (hF89 238 (by omega)).trans hc4
            refine g_callVI F (q := 99) (av := []) (st := []) (c_X7_number hK233_89 hc5 (by first | assumption | decide | omega) (by omega)) kv_X7_number tq_802 hK233_89 rfl (by omega) ⟨rfl, rfl⟩ (by decide) ⟨Nat.le_refl _, Nat.le_refl _⟩ rfl rfl (Nat.le_of_ble_eq_true rfl) (dk dX7_order 51 rfl) rfl (fun r96 E96 hp96 => ?_)
            obtain ⟨rfl, hK233_96, hF96⟩ := hp96
            refine g_istore F (q := 101) (lv' := [(5, .int (numV txt ln ((numP txt ln ((numP txt ln (p + 1)) + 1)) + 1))), (4, .int (numV txt ln ((numP txt ln (p + 1)) + 1))), (3, .int (numV txt ln (p + 1))), (2, .int 0), (0, .ref (ad 233)), (1, .int 0)]) (dk dX7_order 52 rfl) rfl (Nat.le_of_ble_eq_true rfl) rfl ?_
            refine g_iload F (q := 103) (dk dX7_order 53 rfl) rfl 0 rfl ?_
            refine g_if_ge F (q := 106) (tgt := 108) (dk dX7_order 54 rfl) (by decide) rfl (fun c103 => ?_) (fun c103 => ?_)
            · refine g_aload_n F (q := 109) (dk dX7_order 57 rfl) rfl rfl 4 rfl ?_
              refine g_iload_n F (q := 110) (dk dX7_order 58 rfl) rfl rfl 5 rfl ?_
              refine g_if_eq F (q := 113) (tgt := 126) (dk dX7_order 59 rfl) (by decide) rfl (fun _ => ?_) (fun h => absurd h (by decide))
              refine g_iconst F (q := 127) (v := 0) (dk dX7_order 67 rfl) rfl (by decide) ?_
              refine g_putf F (q := 130) (ty := .int) hK233_96 rfl inX7 tyX7 tyX7_ok nmX7 (by omega) (j := 9) (by decide) tq_632 rfl rfl (by decide +kernel) rfl rfl (Nat.le_of_ble_eq_true rfl) (dk dX7_order 68 rfl) rfl (fun E127 hE127 hO127 => ?_)
              have hE127 : E127 233 = .inr (7, [.ref (ad 234), .ref (ad 235), .ref (ad 236), .ref (ad 237), .int s0, .int s1, .ref (ad 238), .int (nI ln), .int (nI ((numP txt ln ((numP txt ln ((numP txt ln (p + 1)) + 1)) + 1)))), .int 0, .int s5, .ref (ad 239), .ref (ad 240), .ref (ad 241), .long lo, .long mo, .ref (ad 242)]) := hE127
              refine g_iconst F (q := 131) (v := 1) (dk dX7_order 69 rfl) rfl (by decide) ?_
              refine hret 1 E127 _ _ (dk dX7_order 70 rfl) rfl ?_
              exact Or.inl ⟨rfl, _, _, hE127, ((ordP_t b5).trans (ordQ_f c54 hc_60 (Int32.not_lt.mpr c76) hc_89 (Int32.not_lt.mpr c103))), (fun j hj => (((((((hO127 j (by omega)).trans (hF96 j (by omega))).trans (hF89 j (by omega))).trans (hF69 j (by omega))).trans (hF60 j (by omega))).trans (hF49 j (by omega))).trans (hO45 j (by omega))))⟩
            · refine g_iconst F (q := 107) (v := 0) (dk dX7_order 55 rfl) rfl (by decide) ?_
              refine hret 0 E96 _ _ (dk dX7_order 56 rfl) rfl ?_
              exact Or.inr ⟨rfl, _, hK233_96, ((ordP_t b5).trans (ordQ_e c54 hc_60 (Int32.not_lt.mpr c76) hc_89 (Int32.not_le.mp c103))), (fun j hj => ((((((hF96 j (by omega)).trans (hF89 j (by omega))).trans (hF69 j (by omega))).trans (hF60 j (by omega))).trans (hF49 j (by omega))).trans (hO45 j (by omega))))⟩
          · refine g_if_eq F (q := 95) (tgt := 108) (dk dX7_order 49 rfl) (by decide) rfl (fun _ => ?_) (fun h => absurd h (by decide))
            refine g_aload_n F (q := 109) (dk dX7_order 57 rfl) rfl rfl 4 rfl ?_
            refine g_iload_n F (q := 110) (dk dX7_order 58 rfl) rfl rfl 5 rfl ?_
            refine g_if_eq F (q := 113) (tgt := 126) (dk dX7_order 59 rfl) (by decide) rfl (fun _ => ?_) (fun h => absurd h (by decide))
            refine g_iconst F (q := 127) (v := 0) (dk dX7_order 67 rfl) rfl (by decide) ?_
            refine g_putf F (q := 130) (ty := .int) hK233_89 rfl inX7 tyX7 tyX7_ok nmX7 (by omega) (j := 9) (by decide) tq_632 rfl rfl (by decide +kernel) rfl rfl (Nat.le_of_ble_eq_true rfl) (dk dX7_order 68 rfl) rfl (fun E127 hE127 hO127 => ?_)
            have hE127 : E127 233 = .inr (7, [.ref (ad 234), .ref (ad 235), .ref (ad 236), .ref (ad 237), .int s0, .int s1, .ref (ad 238), .int (nI ln), .int (nI ((numP txt ln ((numP txt ln (p + 1)) + 1)))), .int 0, .int s5, .ref (ad 239), .ref (ad 240), .ref (ad 241), .long lo, .long mo, .ref (ad 242)]) := hE127
            refine g_iconst F (q := 131) (v := 1) (dk dX7_order 69 rfl) rfl (by decide) ?_
            refine hret 1 E127 _ _ (dk dX7_order 70 rfl) rfl ?_
            exact Or.inl ⟨rfl, _, _, hE127, ((ordP_t b5).trans (ordQ_d c54 hc_60 (Int32.not_lt.mpr c76) hc_89)), (fun j hj => ((((((hO127 j (by omega)).trans (hF89 j (by omega))).trans (hF69 j (by omega))).trans (hF60 j (by omega))).trans (hF49 j (by omega))).trans (hO45 j (by omega))))⟩
        · refine g_iconst F (q := 80) (v := 0) (dk dX7_order 42 rfl) rfl (by decide) ?_
          refine hret 0 E69 _ _ (dk dX7_order 43 rfl) rfl ?_
          exact Or.inr ⟨rfl, _, hK233_69, ((ordP_t b5).trans (ordQ_c c54 hc_60 (Int32.not_le.mp c76))), (fun j hj => ((((hF69 j (by omega)).trans (hF60 j (by omega))).trans (hF49 j (by omega))).trans (hO45 j (by omega))))⟩
      · refine g_if_ne F (q := 66) (tgt := 68) (dk dX7_order 34 rfl) (by decide) rfl (fun h => absurd h (by decide)) (fun _ => ?_)
        refine g_iconst F (q := 67) (v := 0) (dk dX7_order 35 rfl) rfl (by decide) ?_
        refine hret 0 E60 _ _ (dk dX7_order 36 rfl) rfl ?_
        exact Or.inr ⟨rfl, _, hK233_60, ((ordP_t b5).trans (ordQ_b c54 hc_60)), (fun j hj => (((hF60 j (by omega)).trans (hF49 j (by omega))).trans (hO45 j (by omega))))⟩
  · refine g_if_eq F (q := 11) (tgt := 15) (dk dX7_order 4 rfl) (by decide) rfl (fun _ => ?_) (fun h => absurd h (by decide))
    refine g_aload_n F (q := 16) (dk dX7_order 7 rfl) rfl rfl 0 rfl ?_
    refine g_bipush F (q := 18) (v := 107) (dk dX7_order 8 rfl) rfl (by decide) ?_
    refine g_bipush F (q := 20) (v := 107) (dk dX7_order 9 rfl) rfl (by decide) ?_
    refine g_callVI F (q := 23) (av := [.int 107, .int 107]) (st := []) (c_X7_sees (a := 107) (b := 107) h233 h238 (by first | assumption | decide | omega) (by first | assumption | decide | omega)) kv_X7_sees tq_798 h233 rfl (by omega) ⟨rfl, rfl⟩ (by decide) ⟨Nat.le_refl _, Nat.le_refl _⟩ rfl rfl (Nat.le_of_ble_eq_true rfl) (dk dX7_order 10 rfl) rfl (fun r20 E20 hp20 => ?_)
    rcases hp20 with ⟨rfl, rfl, b20⟩ | ⟨rfl, rfl, b20⟩
    · refine g_if_eq F (q := 26) (tgt := 30) (dk dX7_order 11 rfl) (by decide) rfl (fun h => absurd h (by decide)) (fun _ => ?_)
      refine g_iconst F (q := 27) (v := 1) (dk dX7_order 12 rfl) rfl (by decide) ?_
      refine g_goto F (tgt := 31) (dk dX7_order 13 rfl) (by decide) ?_
      refine g_istore_n F (q := 32) (lv' := [(2, .int 1), (0, .ref (ad 233)), (1, .int 0)]) (dk dX7_order 15 rfl) rfl rfl (Nat.le_of_ble_eq_true rfl) rfl ?_
      refine g_iload_n F (q := 33) (dk dX7_order 16 rfl) rfl rfl 0 rfl ?_
      refine g_if_ge F (q := 36) (tgt := 38) (dk dX7_order 17 rfl) (by decide) rfl (fun _ => ?_) (fun h => absurd h (by decide))
      refine g_aload_n F (q := 39) (dk dX7_order 20 rfl) rfl rfl 1 rfl ?_
      refine g_dup F (q := 40) (dk dX7_order 21 rfl) rfl rfl ?_
      refine g_getf F (q := 43) h233 rfl inX7 (by omega) (j := 8) (by decide) tq_631 rfl rfl (dk dX7_order 22 rfl) rfl ?_
      refine g_iconst F (q := 44) (v := 1) (dk dX7_order 23 rfl) rfl (by decide) ?_
      refine g_iadd F (q := 45) (dk dX7_order 24 rfl) rfl ?_
      refine g_sti (nA rfl rfl) ?_
      refine g_putf F (q := 48) (ty := .int) h233 rfl inX7 tyX7 tyX7_ok nmX7 (by omega) (j := 8) (by decide) tq_631 rfl rfl (by decide +kernel) rfl rfl (Nat.le_of_ble_eq_true rfl) (dk dX7_order 25 rfl) rfl (fun E45 hE45 hO45 => ?_)
      have hE45 : E45 233 = .inr (7, [.ref (ad 234), .ref (ad 235), .ref (ad 236), .ref (ad 237), .int s0, .int s1, .ref (ad 238), .int (nI ln), .int (nI ((p + 1))), .int s4, .int s5, .ref (ad 239), .ref (ad 240), .ref (ad 241), .long lo, .long mo, .ref (ad 242)]) := hE45
      refine g_aload_n F (q := 49) (dk dX7_order 26 rfl) rfl rfl 1 rfl ?_
      have hc6 := (hO45 238 (by omega)).trans h238
      refine g_callVI F (q := 52) (av := []) (st := []) (c_X7_number hE45 hc6 (by first | assumption | decide | omega) (by omega)) kv_X7_number tq_802 hE45 rfl (by omega) ⟨rfl, rfl⟩ (by decide) ⟨Nat.le_refl _, Nat.le_refl _⟩ rfl rfl (Nat.le_of_ble_eq_true rfl) (dk dX7_order 27 rfl) rfl (fun r49 E49 hp49 => ?_)
      obtain ⟨rfl, hK233_49, hF49⟩ := hp49
      refine g_istore_n F (q := 53) (lv' := [(3, .int (numV txt ln (p + 1))), (2, .int 1), (0, .ref (ad 233)), (1, .int 0)]) (dk dX7_order 28 rfl) rfl rfl (Nat.le_of_ble_eq_true rfl) rfl ?_
      refine g_iload_n F (q := 54) (dk dX7_order 29 rfl) rfl rfl 0 rfl ?_
      refine g_if_lt F (q := 57) (tgt := 66) (dk dX7_order 30 rfl) (by decide) rfl (fun c54 => ?_) (fun c54 => ?_)
      · refine g_iconst F (q := 67) (v := 0) (dk dX7_order 35 rfl) rfl (by decide) ?_
        refine hret 0 E49 _ _ (dk dX7_order 36 rfl) rfl ?_
        exact Or.inr ⟨rfl, _, hK233_49, ((ordP_k b5 b20).trans (ordQ_a c54)), (fun j hj => ((hF49 j (by omega)).trans (hO45 j (by omega))))⟩
      · refine g_aload_n F (q := 58) (dk dX7_order 31 rfl) rfl rfl 2 rfl ?_
        refine g_bipush F (q := 60) (v := 64) (dk dX7_order 32 rfl) rfl (by decide) ?_
        have hc7 := (hF49 238 (by omega)).trans hc6
        refine g_callVI F (q := 63) (av := [.int 64]) (st := []) (c_X7_takes (ch := 64) hK233_49 hc7 (by first | assumption | decide | omega) (numP_le (by omega))) kv_X7_takes tq_806 hK233_49 rfl (by omega) ⟨rfl, rfl⟩ (by decide) ⟨Nat.le_refl _, Nat.le_refl _⟩ rfl rfl (Nat.le_of_ble_eq_true rfl) (dk dX7_order 33 rfl) rfl (fun r60 E60 hp60 => ?_)
        rcases hp60 with ⟨rfl, hK233_60, hc_60, hF60⟩ | ⟨rfl, hK233_60, hc_60, hF60⟩
        · refine g_if_ne F (q := 66) (tgt := 68) (dk dX7_order 34 rfl) (by decide) rfl (fun _ => ?_) (fun h => absurd h (by decide))
          refine g_aload_n F (q := 69) (dk dX7_order 37 rfl) rfl rfl 2 rfl ?_
          have hc8 := (hF60 238 (by omega)).trans hc7
          refine g_callVI F (q := 72) (av := []) (st := []) (c_X7_number hK233_60 hc8 (by first | assumption | decide | omega) (by omega)) kv_X7_number tq_802 hK233_60 rfl (by omega) ⟨rfl, rfl⟩ (by decide) ⟨Nat.le_refl _, Nat.le_refl _⟩ rfl rfl (Nat.le_of_ble_eq_true rfl) (dk dX7_order 38 rfl) rfl (fun r69 E69 hp69 => ?_)
          obtain ⟨rfl, hK233_69, hF69⟩ := hp69
          refine g_istore F (q := 74) (lv' := [(4, .int (numV txt ln ((numP txt ln (p + 1)) + 1))), (3, .int (numV txt ln (p + 1))), (2, .int 1), (0, .ref (ad 233)), (1, .int 0)]) (dk dX7_order 39 rfl) rfl (Nat.le_of_ble_eq_true rfl) rfl ?_
          refine g_iload F (q := 76) (dk dX7_order 40 rfl) rfl 0 rfl ?_
          refine g_if_ge F (q := 79) (tgt := 81) (dk dX7_order 41 rfl) (by decide) rfl (fun c76 => ?_) (fun c76 => ?_)
          · refine g_sipush F (q := 84) (v := 1000) (dk dX7_order 44 rfl) rfl (by decide) ?_
            refine g_istore F (q := 86) (lv' := [(5, .int 1000), (4, .int (numV txt ln ((numP txt ln (p + 1)) + 1))), (3, .int (numV txt ln (p + 1))), (2, .int 1), (0, .ref (ad 233)), (1, .int 0)]) (dk dX7_order 45 rfl) rfl (Nat.le_of_ble_eq_true rfl) rfl ?_
            refine g_aload_n F (q := 87) (dk dX7_order 46 rfl) rfl rfl 4 rfl ?_
            refine g_bipush F (q := 89) (v := 42) (dk dX7_order 47 rfl) rfl (by decide) ?_
            have hc9 := (hF69 238 (by omega)).trans hc8
            refine g_callVI F (q := 92) (av := [.int 42]) (st := []) (c_X7_takes (ch := 42) hK233_69 hc9 (by first | assumption | decide | omega) (numP_le (by omega))) kv_X7_takes tq_806 hK233_69 rfl (by omega) ⟨rfl, rfl⟩ (by decide) ⟨Nat.le_refl _, Nat.le_refl _⟩ rfl rfl (Nat.le_of_ble_eq_true rfl) (dk dX7_order 48 rfl) rfl (fun r89 E89 hp89 => ?_)
            rcases hp89 with ⟨rfl, hK233_89, hc_89, hF89⟩ | ⟨rfl, hK233_89, hc_89, hF89⟩
            · refine g_if_eq F (q := 95) (tgt := 108) (dk dX7_order 49 rfl) (by decide) rfl (fun h => absurd h (by decide)) (fun _ => ?_)
              refine g_aload_n F (q := 96) (dk dX7_order 50 rfl) rfl rfl 4 rfl ?_
              have hc10 := (hF89 238 (by omega)).trans hc9
              refine g_callVI F (q := 99) (av := []) (st := []) (c_X7_number hK233_89 hc10 (by first | assumption | decide | omega) (by omega)) kv_X7_number tq_802 hK233_89 rfl (by omega) ⟨rfl, rfl⟩ (by decide) ⟨Nat.le_refl _, Nat.le_refl _⟩ rfl rfl (Nat.le_of_ble_eq_true rfl) (dk dX7_order 51 rfl) rfl (fun r96 E96 hp96 => ?_)
              obtain ⟨rfl, hK233_96, hF96⟩ := hp96
              refine g_istore F (q := 101) (lv' := [(5, .int (numV txt ln ((numP txt ln ((numP txt ln (p + 1)) + 1)) + 1))), (4, .int (numV txt ln ((numP txt ln (p + 1)) + 1))), (3, .int (numV txt ln (p + 1))), (2, .int 1), (0, .ref (ad 233)), (1, .int 0)]) (dk dX7_order 52 rfl) rfl (Nat.le_of_ble_eq_true rfl) rfl ?_
              refine g_iload F (q := 103) (dk dX7_order 53 rfl) rfl 0 rfl ?_
              refine g_if_ge F (q := 106) (tgt := 108) (dk dX7_order 54 rfl) (by decide) rfl (fun c103 => ?_) (fun c103 => ?_)
              · refine g_aload_n F (q := 109) (dk dX7_order 57 rfl) rfl rfl 4 rfl ?_
                refine g_iload_n F (q := 110) (dk dX7_order 58 rfl) rfl rfl 5 rfl ?_
                refine g_if_eq F (q := 113) (tgt := 126) (dk dX7_order 59 rfl) (by decide) rfl (fun _ => ?_) (fun h => absurd h (by decide))
                refine g_iconst F (q := 127) (v := 0) (dk dX7_order 67 rfl) rfl (by decide) ?_
                refine g_putf F (q := 130) (ty := .int) hK233_96 rfl inX7 tyX7 tyX7_ok nmX7 (by omega) (j := 9) (by decide) tq_632 rfl rfl (by decide +kernel) rfl rfl (Nat.le_of_ble_eq_true rfl) (dk dX7_order 68 rfl) rfl (fun E127 hE127 hO127 => ?_)
                have hE127 : E127 233 = .inr (7, [.ref (ad 234), .ref (ad 235), .ref (ad 236), .ref (ad 237), .int s0, .int s1, .ref (ad 238), .int (nI ln), .int (nI ((numP txt ln ((numP txt ln ((numP txt ln (p + 1)) + 1)) + 1)))), .int 0, .int s5, .ref (ad 239), .ref (ad 240), .ref (ad 241), .long lo, .long mo, .ref (ad 242)]) := hE127
                refine g_iconst F (q := 131) (v := 1) (dk dX7_order 69 rfl) rfl (by decide) ?_
                refine hret 1 E127 _ _ (dk dX7_order 70 rfl) rfl ?_
                exact Or.inl ⟨rfl, _, _, hE127, ((ordP_k b5 b20).trans (ordQ_f c54 hc_60 (Int32.not_lt.mpr c76) hc_89 (Int32.not_lt.mpr c103))), (fun j hj => (((((((hO127 j (by omega)).trans (hF96 j (by omega))).trans (hF89 j (by omega))).trans (hF69 j (by omega))).trans (hF60 j (by omega))).trans (hF49 j (by omega))).trans (hO45 j (by omega))))⟩
              · refine g_iconst F (q := 107) (v := 0) (dk dX7_order 55 rfl) rfl (by decide) ?_
                refine hret 0 E96 _ _ (dk dX7_order 56 rfl) rfl ?_
                exact Or.inr ⟨rfl, _, hK233_96, ((ordP_k b5 b20).trans (ordQ_e c54 hc_60 (Int32.not_lt.mpr c76) hc_89 (Int32.not_le.mp c103))), (fun j hj => ((((((hF96 j (by omega)).trans (hF89 j (by omega))).trans (hF69 j (by omega))).trans (hF60 j (by omega))).trans (hF49 j (by omega))).trans (hO45 j (by omega))))⟩
            · refine g_if_eq F (q := 95) (tgt := 108) (dk dX7_order 49 rfl) (by decide) rfl (fun _ => ?_) (fun h => absurd h (by decide))
              refine g_aload_n F (q := 109) (dk dX7_order 57 rfl) rfl rfl 4 rfl ?_
              refine g_iload_n F (q := 110) (dk dX7_order 58 rfl) rfl rfl 5 rfl ?_
              refine g_if_eq F (q := 113) (tgt := 126) (dk dX7_order 59 rfl) (by decide) rfl (fun _ => ?_) (fun h => absurd h (by decide))
              refine g_iconst F (q := 127) (v := 0) (dk dX7_order 67 rfl) rfl (by decide) ?_
              refine g_putf F (q := 130) (ty := .int) hK233_89 rfl inX7 tyX7 tyX7_ok nmX7 (by omega) (j := 9) (by decide) tq_632 rfl rfl (by decide +kernel) rfl rfl (Nat.le_of_ble_eq_true rfl) (dk dX7_order 68 rfl) rfl (fun E127 hE127 hO127 => ?_)
              have hE127 : E127 233 = .inr (7, [.ref (ad 234), .ref (ad 235), .ref (ad 236), .ref (ad 237), .int s0, .int s1, .ref (ad 238), .int (nI ln), .int (nI ((numP txt ln ((numP txt ln (p + 1)) + 1)))), .int 0, .int s5, .ref (ad 239), .ref (ad 240), .ref (ad 241), .long lo, .long mo, .ref (ad 242)]) := hE127
              refine g_iconst F (q := 131) (v := 1) (dk dX7_order 69 rfl) rfl (by decide) ?_
              refine hret 1 E127 _ _ (dk dX7_order 70 rfl) rfl ?_
              exact Or.inl ⟨rfl, _, _, hE127, ((ordP_k b5 b20).trans (ordQ_d c54 hc_60 (Int32.not_lt.mpr c76) hc_89)), (fun j hj => ((((((hO127 j (by omega)).trans (hF89 j (by omega))).trans (hF69 j (by omega))).trans (hF60 j (by omega))).trans (hF49 j (by omega))).trans (hO45 j (by omega))))⟩
          · refine g_iconst F (q := 80) (v := 0) (dk dX7_order 42 rfl) rfl (by decide) ?_
            refine hret 0 E69 _ _ (dk dX7_order 43 rfl) rfl ?_
            exact Or.inr ⟨rfl, _, hK233_69, ((ordP_k b5 b20).trans (ordQ_c c54 hc_60 (Int32.not_le.mp c76))), (fun j hj => ((((hF69 j (by omega)).trans (hF60 j (by omega))).trans (hF49 j (by omega))).trans (hO45 j (by omega))))⟩
        · refine g_if_ne F (q := 66) (tgt := 68) (dk dX7_order 34 rfl) (by decide) rfl (fun h => absurd h (by decide)) (fun _ => ?_)
          refine g_iconst F (q := 67) (v := 0) (dk dX7_order 35 rfl) rfl (by decide) ?_
          refine hret 0 E60 _ _ (dk dX7_order 36 rfl) rfl ?_
          exact Or.inr ⟨rfl, _, hK233_60, ((ordP_k b5 b20).trans (ordQ_b c54 hc_60)), (fun j hj => (((hF60 j (by omega)).trans (hF49 j (by omega))).trans (hO45 j (by omega))))⟩
    · refine g_if_eq F (q := 26) (tgt := 30) (dk dX7_order 11 rfl) (by decide) rfl (fun _ => ?_) (fun h => absurd h (by decide))
      refine g_iconst F (q := 31) (v := (-1)) (dk dX7_order 14 rfl) rfl (by decide) ?_
      refine g_istore_n F (q := 32) (lv' := [(2, .int (-1)), (0, .ref (ad 233)), (1, .int 0)]) (dk dX7_order 15 rfl) rfl rfl (Nat.le_of_ble_eq_true rfl) rfl ?_
      refine g_iload_n F (q := 33) (dk dX7_order 16 rfl) rfl rfl 0 rfl ?_
      refine g_if_ge F (q := 36) (tgt := 38) (dk dX7_order 17 rfl) (by decide) rfl (fun h => absurd h (by decide)) (fun _ => ?_)
      refine g_iconst F (q := 37) (v := 0) (dk dX7_order 18 rfl) rfl (by decide) ?_
      refine hret 0 E _ _ (dk dX7_order 19 rfl) rfl ?_
      exact Or.inr ⟨rfl, _, h233, (ordP_n b5 b20), (fun j _ => rfl)⟩
theorem kv_X7_order : KV yX7_order "ThumpEarsModel" cX7_order 6 (some .boolean) 1 := ⟨tq_796, tq_22, tq_47, tq_797, by decide +kernel⟩
abbrev rm_X7_order_b : Room := { frames := 3, cells := 0, slots := 0, locals := 77 }
set_option maxHeartbeats 4000000 in
set_option maxRecDepth 100000 in
theorem c_X7_order_b {l : Launch} {D : va_G} {cA : Nat → ClassId} {ad : Nat → Nat} {E : Nat → va_E} {ln p : Nat} {s0 s1 s4 s5 : Int32} {lo mo : Int64} {txt : Nat → Int32} {r : Nat → Int32} {ne nt nk : Nat} (h233 : E 233 = .inr (7, [.ref (ad 234), .ref (ad 235), .ref (ad 236), .ref (ad 237), .int s0, .int s1, .ref (ad 238), .int (nI ln), .int (nI p), .int s4, .int s5, .ref (ad 239), .ref (ad 240), .ref (ad 241), .long lo, .long mo, .ref (ad 242)])) (h238 : E 238 = .inl (cA 3, 60, .inl txt)) (h234 : E 234 = .inl (cA 0, 346, .inl r))  (hln : ln ≤ 60) (hp : p ≤ ln) (h0 : r 0 = nI ne) (hne : ne ≤ 10) (h1 : r 1 = nI nt) (hnt : nt ≤ 10) (h2 : r 2 = nI nk) (hnk : nk ≤ 10) : CtI l D cA yX7_order cX7_order 6 .boolean rm_X7_order_b 243 ad E [.ref (ad 233), .int 1] (fun x E' => (1 = x ∧ (∃ (q : Nat) (k : Nat) (pl : Int32) (ti : Int32) (re : Int32), E' 233 = .inr (7, [.ref (ad 234), .ref (ad 235), .ref (ad 236), .ref (ad 237), .int s0, .int s1, .ref (ad 238), .int (nI ln), .int (nI q), .int ((mkS r ne k (if k = 0 then nt else nk) pl ti re).1), .int s5, .ref (ad 239), .ref (ad 240), .ref (ad 241), .long lo, .long mo, .ref (ad 242)]) ∧ E' 234 = .inl (cA 0, 346, .inl ((mkS r ne k (if k = 0 then nt else nk) pl ti re).2)) ∧ (ordP txt ln p = (q, some (k, pl, ti, re))) ∧ ∀ j, (j ≠ 233 ∧ j ≠ 234) → E' j = E j)) ∨ (0 = x ∧ (∃ (q : Nat), E' 233 = .inr (7, [.ref (ad 234), .ref (ad 235), .ref (ad 236), .ref (ad 237), .int s0, .int s1, .ref (ad 238), .int (nI ln), .int (nI q), .int s4, .int s5, .ref (ad 239), .ref (ad 240), .ref (ad 241), .long lo, .long mo, .ref (ad 242)]) ∧ (ordP txt ln p = (q, none)) ∧ ∀ j, (j ≠ 233) → E' j = E j))) := by
  refine CtI.of (by decide +kernel) (Nat.le_of_ble_eq_true rfl) (fun X F hret => ?_)
  have F : Fr "ThumpEarsModel" cX7_order 6 D cA X := F
  refine (show GG rm_X7_order_b 6 l D X 0 0 243 ad E 0 [(0, .ref (ad 233)), (1, .int 1)] [] from ?_)
  refine g_aload_n F (q := 1) (dk dX7_order 0 rfl) rfl rfl 0 rfl ?_
  refine g_bipush F (q := 3) (v := 116) (dk dX7_order 1 rfl) rfl (by decide) ?_
  refine g_bipush F (q := 5) (v := 116) (dk dX7_order 2 rfl) rfl (by decide) ?_
  refine g_callVI F (q := 8) (av := [.int 116, .int 116]) (st := []) (c_X7_sees (a := 116) (b := 116) h233 h238 (by first | assumption | decide | omega) (by first | assumption | decide | omega)) kv_X7_sees tq_798 h233 rfl (by omega) ⟨rfl, rfl⟩ (by decide) ⟨Nat.le_refl _, Nat.le_refl _⟩ rfl rfl (Nat.le_of_ble_eq_true rfl) (dk dX7_order 3 rfl) rfl (fun r5 E5 hp5 => ?_)
  rcases hp5 with ⟨rfl, rfl, b5⟩ | ⟨rfl, rfl, b5⟩
  · refine g_if_eq F (q := 11) (tgt := 15) (dk dX7_order 4 rfl) (by decide) rfl (fun h => absurd h (by decide)) (fun _ => ?_)
    refine g_iconst F (q := 12) (v := 0) (dk dX7_order 5 rfl) rfl (by decide) ?_
    refine g_goto F (tgt := 31) (dk dX7_order 6 rfl) (by decide) ?_
    refine g_istore_n F (q := 32) (lv' := [(2, .int 0), (0, .ref (ad 233)), (1, .int 1)]) (dk dX7_order 15 rfl) rfl rfl (Nat.le_of_ble_eq_true rfl) rfl ?_
    refine g_iload_n F (q := 33) (dk dX7_order 16 rfl) rfl rfl 0 rfl ?_
    refine g_if_ge F (q := 36) (tgt := 38) (dk dX7_order 17 rfl) (by decide) rfl (fun _ => ?_) (fun h => absurd h (by decide))
    refine g_aload_n F (q := 39) (dk dX7_order 20 rfl) rfl rfl 1 rfl ?_
    refine g_dup F (q := 40) (dk dX7_order 21 rfl) rfl rfl ?_
    refine g_getf F (q := 43) h233 rfl inX7 (by omega) (j := 8) (by decide) tq_631 rfl rfl (dk dX7_order 22 rfl) rfl ?_
    refine g_iconst F (q := 44) (v := 1) (dk dX7_order 23 rfl) rfl (by decide) ?_
    refine g_iadd F (q := 45) (dk dX7_order 24 rfl) rfl ?_
    refine g_sti (nA rfl rfl) ?_
    refine g_putf F (q := 48) (ty := .int) h233 rfl inX7 tyX7 tyX7_ok nmX7 (by omega) (j := 8) (by decide) tq_631 rfl rfl (by decide +kernel) rfl rfl (Nat.le_of_ble_eq_true rfl) (dk dX7_order 25 rfl) rfl (fun E45 hE45 hO45 => ?_)
    have hE45 : E45 233 = .inr (7, [.ref (ad 234), .ref (ad 235), .ref (ad 236), .ref (ad 237), .int s0, .int s1, .ref (ad 238), .int (nI ln), .int (nI ((p + 1))), .int s4, .int s5, .ref (ad 239), .ref (ad 240), .ref (ad 241), .long lo, .long mo, .ref (ad 242)]) := hE45
    refine g_aload_n F (q := 49) (dk dX7_order 26 rfl) rfl rfl 1 rfl ?_
    have hc1 := (hO45 238 (by omega)).trans h238
    refine g_callVI F (q := 52) (av := []) (st := []) (c_X7_number hE45 hc1 (by first | assumption | decide | omega) (by omega)) kv_X7_number tq_802 hE45 rfl (by omega) ⟨rfl, rfl⟩ (by decide) ⟨Nat.le_refl _, Nat.le_refl _⟩ rfl rfl (Nat.le_of_ble_eq_true rfl) (dk dX7_order 27 rfl) rfl (fun r49 E49 hp49 => ?_)
    obtain ⟨rfl, hK233_49, hF49⟩ := hp49
    refine g_istore_n F (q := 53) (lv' := [(3, .int (numV txt ln (p + 1))), (2, .int 0), (0, .ref (ad 233)), (1, .int 1)]) (dk dX7_order 28 rfl) rfl rfl (Nat.le_of_ble_eq_true rfl) rfl ?_
    refine g_iload_n F (q := 54) (dk dX7_order 29 rfl) rfl rfl 0 rfl ?_
    refine g_if_lt F (q := 57) (tgt := 66) (dk dX7_order 30 rfl) (by decide) rfl (fun c54 => ?_) (fun c54 => ?_)
    · refine g_iconst F (q := 67) (v := 0) (dk dX7_order 35 rfl) rfl (by decide) ?_
      refine hret 0 E49 _ _ (dk dX7_order 36 rfl) rfl ?_
      exact Or.inr ⟨rfl, _, hK233_49, ((ordP_t b5).trans (ordQ_a c54)), (fun j hj => ((hF49 j (by omega)).trans (hO45 j (by omega))))⟩
    · refine g_aload_n F (q := 58) (dk dX7_order 31 rfl) rfl rfl 2 rfl ?_
      refine g_bipush F (q := 60) (v := 64) (dk dX7_order 32 rfl) rfl (by decide) ?_
      have hc2 := (hF49 238 (by omega)).trans hc1
      refine g_callVI F (q := 63) (av := [.int 64]) (st := []) (c_X7_takes (ch := 64) hK233_49 hc2 (by first | assumption | decide | omega) (numP_le (by omega))) kv_X7_takes tq_806 hK233_49 rfl (by omega) ⟨rfl, rfl⟩ (by decide) ⟨Nat.le_refl _, Nat.le_refl _⟩ rfl rfl (Nat.le_of_ble_eq_true rfl) (dk dX7_order 33 rfl) rfl (fun r60 E60 hp60 => ?_)
      rcases hp60 with ⟨rfl, hK233_60, hc_60, hF60⟩ | ⟨rfl, hK233_60, hc_60, hF60⟩
      · refine g_if_ne F (q := 66) (tgt := 68) (dk dX7_order 34 rfl) (by decide) rfl (fun _ => ?_) (fun h => absurd h (by decide))
        refine g_aload_n F (q := 69) (dk dX7_order 37 rfl) rfl rfl 2 rfl ?_
        have hc3 := (hF60 238 (by omega)).trans hc2
        refine g_callVI F (q := 72) (av := []) (st := []) (c_X7_number hK233_60 hc3 (by first | assumption | decide | omega) (by omega)) kv_X7_number tq_802 hK233_60 rfl (by omega) ⟨rfl, rfl⟩ (by decide) ⟨Nat.le_refl _, Nat.le_refl _⟩ rfl rfl (Nat.le_of_ble_eq_true rfl) (dk dX7_order 38 rfl) rfl (fun r69 E69 hp69 => ?_)
        obtain ⟨rfl, hK233_69, hF69⟩ := hp69
        refine g_istore F (q := 74) (lv' := [(4, .int (numV txt ln ((numP txt ln (p + 1)) + 1))), (3, .int (numV txt ln (p + 1))), (2, .int 0), (0, .ref (ad 233)), (1, .int 1)]) (dk dX7_order 39 rfl) rfl (Nat.le_of_ble_eq_true rfl) rfl ?_
        refine g_iload F (q := 76) (dk dX7_order 40 rfl) rfl 0 rfl ?_
        refine g_if_ge F (q := 79) (tgt := 81) (dk dX7_order 41 rfl) (by decide) rfl (fun c76 => ?_) (fun c76 => ?_)
        · refine g_sipush F (q := 84) (v := 1000) (dk dX7_order 44 rfl) rfl (by decide) ?_
          refine g_istore F (q := 86) (lv' := [(5, .int 1000), (4, .int (numV txt ln ((numP txt ln (p + 1)) + 1))), (3, .int (numV txt ln (p + 1))), (2, .int 0), (0, .ref (ad 233)), (1, .int 1)]) (dk dX7_order 45 rfl) rfl (Nat.le_of_ble_eq_true rfl) rfl ?_
          refine g_aload_n F (q := 87) (dk dX7_order 46 rfl) rfl rfl 4 rfl ?_
          refine g_bipush F (q := 89) (v := 42) (dk dX7_order 47 rfl) rfl (by decide) ?_
          have hc4 := (hF69 238 (by omega)).trans hc3
          refine g_callVI F (q := 92) (av := [.int 42]) (st := []) (c_X7_takes (ch := 42) hK233_69 hc4 (by first | assumption | decide | omega) (numP_le (by omega))) kv_X7_takes tq_806 hK233_69 rfl (by omega) ⟨rfl, rfl⟩ (by decide) ⟨Nat.le_refl _, Nat.le_refl _⟩ rfl rfl (Nat.le_of_ble_eq_true rfl) (dk dX7_order 48 rfl) rfl (fun r89 E89 hp89 => ?_)
          rcases hp89 with ⟨rfl, hK233_89, hc_89, hF89⟩ | ⟨rfl, hK233_89, hc_89, hF89⟩
          · refine g_if_eq F (q := 95) (tgt := 108) (dk dX7_order 49 rfl) (by decide) rfl (fun h => absurd h (by decide)) (fun _ => ?_)
            refine g_aload_n F (q := 96) (dk dX7_order 50 rfl) rfl rfl 4 rfl ?_
            have hc5 := (hF89 238 (by omega)).trans hc4
            refine g_callVI F (q := 99) (av := []) (st := []) (c_X7_number hK233_89 hc5 (by first | assumption | decide | omega) (by omega)) kv_X7_number tq_802 hK233_89 rfl (by omega) ⟨rfl, rfl⟩ (by decide) ⟨Nat.le_refl _, Nat.le_refl _⟩ rfl rfl (Nat.le_of_ble_eq_true rfl) (dk dX7_order 51 rfl) rfl (fun r96 E96 hp96 => ?_)
            obtain ⟨rfl, hK233_96, hF96⟩ := hp96
            refine g_istore F (q := 101) (lv' := [(5, .int (numV txt ln ((numP txt ln ((numP txt ln (p + 1)) + 1)) + 1))), (4, .int (numV txt ln ((numP txt ln (p + 1)) + 1))), (3, .int (numV txt ln (p + 1))), (2, .int 0), (0, .ref (ad 233)), (1, .int 1)]) (dk dX7_order 52 rfl) rfl (Nat.le_of_ble_eq_true rfl) rfl ?_
            refine g_iload F (q := 103) (dk dX7_order 53 rfl) rfl 0 rfl ?_
            refine g_if_ge F (q := 106) (tgt := 108) (dk dX7_order 54 rfl) (by decide) rfl (fun c103 => ?_) (fun c103 => ?_)
            · refine g_aload_n F (q := 109) (dk dX7_order 57 rfl) rfl rfl 4 rfl ?_
              refine g_iload_n F (q := 110) (dk dX7_order 58 rfl) rfl rfl 5 rfl ?_
              refine g_if_eq F (q := 113) (tgt := 126) (dk dX7_order 59 rfl) (by decide) rfl (fun h => absurd h (by decide)) (fun _ => ?_)
              refine g_aload_n F (q := 114) (dk dX7_order 60 rfl) rfl rfl 4 rfl ?_
              refine g_iload_n F (q := 115) (dk dX7_order 61 rfl) rfl rfl 3 rfl ?_
              refine g_iload_n F (q := 116) (dk dX7_order 62 rfl) rfl rfl 2 rfl ?_
              refine g_iload F (q := 118) (dk dX7_order 63 rfl) rfl 1 rfl ?_
              refine g_iload F (q := 120) (dk dX7_order 64 rfl) rfl 0 rfl ?_
              have hc6 := (hO45 234 (by omega)).trans h234
              have hc7 := (hF49 234 (by omega)).trans hc6
              have hc8 := (hF60 234 (by omega)).trans hc7
              have hc9 := (hF69 234 (by omega)).trans hc8
              have hc10 := (hF89 234 (by omega)).trans hc9
              have hc11 := (hF96 234 (by omega)).trans hc10
              refine g_callVI F (q := 123) (av := [.int 0, .int (numV txt ln (p + 1)), .int (numV txt ln ((numP txt ln (p + 1)) + 1)), .int (numV txt ln ((numP txt ln ((numP txt ln (p + 1)) + 1)) + 1))]) (st := [.ref (ad 233)]) (c_X7_make (k := 0) (p := (numV txt ln (p + 1))) (t := (numV txt ln ((numP txt ln (p + 1)) + 1))) (c := (numV txt ln ((numP txt ln ((numP txt ln (p + 1)) + 1)) + 1))) hK233_96 hc11 (by first | assumption | decide | omega) (by first | assumption | decide | omega) (by first | assumption | decide | omega) h1 (by omega)) kv_X7_make tq_742 hK233_96 rfl (by omega) ⟨rfl, rfl⟩ (by decide) ⟨Nat.le_refl _, Nat.le_refl _⟩ rfl rfl (Nat.le_of_ble_eq_true rfl) (dk dX7_order 65 rfl) rfl (fun r120 E120 hp120 => ?_)
              obtain ⟨rfl, hK234_120, hF120⟩ := hp120
              refine g_goto F (tgt := 127) (dk dX7_order 66 rfl) (by decide) ?_
              have hc12 := (hF120 233 (by omega)).trans hK233_96
              refine g_putf F (q := 130) (ty := .int) hc12 rfl inX7 tyX7 tyX7_ok nmX7 (by omega) (j := 9) (by decide) tq_632 rfl rfl (by decide +kernel) rfl rfl (Nat.le_of_ble_eq_true rfl) (dk dX7_order 68 rfl) rfl (fun E127 hE127 hO127 => ?_)
              have hE127 : E127 233 = .inr (7, [.ref (ad 234), .ref (ad 235), .ref (ad 236), .ref (ad 237), .int s0, .int s1, .ref (ad 238), .int (nI ln), .int (nI ((numP txt ln ((numP txt ln ((numP txt ln (p + 1)) + 1)) + 1)))), .int (mkS r ne 0 nt (numV txt ln (p + 1)) (numV txt ln ((numP txt ln (p + 1)) + 1)) (numV txt ln ((numP txt ln ((numP txt ln (p + 1)) + 1)) + 1))).1, .int s5, .ref (ad 239), .ref (ad 240), .ref (ad 241), .long lo, .long mo, .ref (ad 242)]) := hE127
              refine g_iconst F (q := 131) (v := 1) (dk dX7_order 69 rfl) rfl (by decide) ?_
              have hc13 := (hO127 234 (by omega)).trans hK234_120
              refine hret 1 E127 _ _ (dk dX7_order 70 rfl) rfl ?_
              exact Or.inl ⟨rfl, _, 0, (numV txt ln (p + 1)), (numV txt ln ((numP txt ln (p + 1)) + 1)), (numV txt ln ((numP txt ln ((numP txt ln (p + 1)) + 1)) + 1)), hE127, hc13, ((ordP_t b5).trans (ordQ_f c54 hc_60 (Int32.not_lt.mpr c76) hc_89 (Int32.not_lt.mpr c103))), (fun j hj => ((((((((hO127 j (by omega)).trans (hF120 j (by omega))).trans (hF96 j (by omega))).trans (hF89 j (by omega))).trans (hF69 j (by omega))).trans (hF60 j (by omega))).trans (hF49 j (by omega))).trans (hO45 j (by omega))))⟩
            · refine g_iconst F (q := 107) (v := 0) (dk dX7_order 55 rfl) rfl (by decide) ?_
              refine hret 0 E96 _ _ (dk dX7_order 56 rfl) rfl ?_
              exact Or.inr ⟨rfl, _, hK233_96, ((ordP_t b5).trans (ordQ_e c54 hc_60 (Int32.not_lt.mpr c76) hc_89 (Int32.not_le.mp c103))), (fun j hj => ((((((hF96 j (by omega)).trans (hF89 j (by omega))).trans (hF69 j (by omega))).trans (hF60 j (by omega))).trans (hF49 j (by omega))).trans (hO45 j (by omega))))⟩
          · refine g_if_eq F (q := 95) (tgt := 108) (dk dX7_order 49 rfl) (by decide) rfl (fun _ => ?_) (fun h => absurd h (by decide))
            refine g_aload_n F (q := 109) (dk dX7_order 57 rfl) rfl rfl 4 rfl ?_
            refine g_iload_n F (q := 110) (dk dX7_order 58 rfl) rfl rfl 5 rfl ?_
            refine g_if_eq F (q := 113) (tgt := 126) (dk dX7_order 59 rfl) (by decide) rfl (fun h => absurd h (by decide)) (fun _ => ?_)
            refine g_aload_n F (q := 114) (dk dX7_order 60 rfl) rfl rfl 4 rfl ?_
            refine g_iload_n F (q := 115) (dk dX7_order 61 rfl) rfl rfl 3 rfl ?_
            refine g_iload_n F (q := 116) (dk dX7_order 62 rfl) rfl rfl 2 rfl ?_
            refine g_iload F (q := 118) (dk dX7_order 63 rfl) rfl 1 rfl ?_
            refine g_iload F (q := 120) (dk dX7_order 64 rfl) rfl 0 rfl ?_
            have hc14 := (hO45 234 (by omega)).trans h234
            have hc15 := (hF49 234 (by omega)).trans hc14
            have hc16 := (hF60 234 (by omega)).trans hc15
            have hc17 := (hF69 234 (by omega)).trans hc16
            have hc18 := (hF89 234 (by omega)).trans hc17
            refine g_callVI F (q := 123) (av := [.int 0, .int (numV txt ln (p + 1)), .int (numV txt ln ((numP txt ln (p + 1)) + 1)), .int 1000]) (st := [.ref (ad 233)]) (c_X7_make (k := 0) (p := (numV txt ln (p + 1))) (t := (numV txt ln ((numP txt ln (p + 1)) + 1))) (c := 1000) hK233_89 hc18 (by first | assumption | decide | omega) (by first | assumption | decide | omega) (by first | assumption | decide | omega) h1 (by omega)) kv_X7_make tq_742 hK233_89 rfl (by omega) ⟨rfl, rfl⟩ (by decide) ⟨Nat.le_refl _, Nat.le_refl _⟩ rfl rfl (Nat.le_of_ble_eq_true rfl) (dk dX7_order 65 rfl) rfl (fun r120 E120 hp120 => ?_)
            obtain ⟨rfl, hK234_120, hF120⟩ := hp120
            refine g_goto F (tgt := 127) (dk dX7_order 66 rfl) (by decide) ?_
            have hc19 := (hF120 233 (by omega)).trans hK233_89
            refine g_putf F (q := 130) (ty := .int) hc19 rfl inX7 tyX7 tyX7_ok nmX7 (by omega) (j := 9) (by decide) tq_632 rfl rfl (by decide +kernel) rfl rfl (Nat.le_of_ble_eq_true rfl) (dk dX7_order 68 rfl) rfl (fun E127 hE127 hO127 => ?_)
            have hE127 : E127 233 = .inr (7, [.ref (ad 234), .ref (ad 235), .ref (ad 236), .ref (ad 237), .int s0, .int s1, .ref (ad 238), .int (nI ln), .int (nI ((numP txt ln ((numP txt ln (p + 1)) + 1)))), .int (mkS r ne 0 nt (numV txt ln (p + 1)) (numV txt ln ((numP txt ln (p + 1)) + 1)) 1000).1, .int s5, .ref (ad 239), .ref (ad 240), .ref (ad 241), .long lo, .long mo, .ref (ad 242)]) := hE127
            refine g_iconst F (q := 131) (v := 1) (dk dX7_order 69 rfl) rfl (by decide) ?_
            have hc20 := (hO127 234 (by omega)).trans hK234_120
            refine hret 1 E127 _ _ (dk dX7_order 70 rfl) rfl ?_
            exact Or.inl ⟨rfl, _, 0, (numV txt ln (p + 1)), (numV txt ln ((numP txt ln (p + 1)) + 1)), (1000), hE127, hc20, ((ordP_t b5).trans (ordQ_d c54 hc_60 (Int32.not_lt.mpr c76) hc_89)), (fun j hj => (((((((hO127 j (by omega)).trans (hF120 j (by omega))).trans (hF89 j (by omega))).trans (hF69 j (by omega))).trans (hF60 j (by omega))).trans (hF49 j (by omega))).trans (hO45 j (by omega))))⟩
        · refine g_iconst F (q := 80) (v := 0) (dk dX7_order 42 rfl) rfl (by decide) ?_
          refine hret 0 E69 _ _ (dk dX7_order 43 rfl) rfl ?_
          exact Or.inr ⟨rfl, _, hK233_69, ((ordP_t b5).trans (ordQ_c c54 hc_60 (Int32.not_le.mp c76))), (fun j hj => ((((hF69 j (by omega)).trans (hF60 j (by omega))).trans (hF49 j (by omega))).trans (hO45 j (by omega))))⟩
      · refine g_if_ne F (q := 66) (tgt := 68) (dk dX7_order 34 rfl) (by decide) rfl (fun h => absurd h (by decide)) (fun _ => ?_)
        refine g_iconst F (q := 67) (v := 0) (dk dX7_order 35 rfl) rfl (by decide) ?_
        refine hret 0 E60 _ _ (dk dX7_order 36 rfl) rfl ?_
        exact Or.inr ⟨rfl, _, hK233_60, ((ordP_t b5).trans (ordQ_b c54 hc_60)), (fun j hj => (((hF60 j (by omega)).trans (hF49 j (by omega))).trans (hO45 j (by omega))))⟩
  · refine g_if_eq F (q := 11) (tgt := 15) (dk dX7_order 4 rfl) (by decide) rfl (fun _ => ?_) (fun h => absurd h (by decide))
    refine g_aload_n F (q := 16) (dk dX7_order 7 rfl) rfl rfl 0 rfl ?_
    refine g_bipush F (q := 18) (v := 107) (dk dX7_order 8 rfl) rfl (by decide) ?_
    refine g_bipush F (q := 20) (v := 107) (dk dX7_order 9 rfl) rfl (by decide) ?_
    refine g_callVI F (q := 23) (av := [.int 107, .int 107]) (st := []) (c_X7_sees (a := 107) (b := 107) h233 h238 (by first | assumption | decide | omega) (by first | assumption | decide | omega)) kv_X7_sees tq_798 h233 rfl (by omega) ⟨rfl, rfl⟩ (by decide) ⟨Nat.le_refl _, Nat.le_refl _⟩ rfl rfl (Nat.le_of_ble_eq_true rfl) (dk dX7_order 10 rfl) rfl (fun r20 E20 hp20 => ?_)
    rcases hp20 with ⟨rfl, rfl, b20⟩ | ⟨rfl, rfl, b20⟩
    · refine g_if_eq F (q := 26) (tgt := 30) (dk dX7_order 11 rfl) (by decide) rfl (fun h => absurd h (by decide)) (fun _ => ?_)
      refine g_iconst F (q := 27) (v := 1) (dk dX7_order 12 rfl) rfl (by decide) ?_
      refine g_goto F (tgt := 31) (dk dX7_order 13 rfl) (by decide) ?_
      refine g_istore_n F (q := 32) (lv' := [(2, .int 1), (0, .ref (ad 233)), (1, .int 1)]) (dk dX7_order 15 rfl) rfl rfl (Nat.le_of_ble_eq_true rfl) rfl ?_
      refine g_iload_n F (q := 33) (dk dX7_order 16 rfl) rfl rfl 0 rfl ?_
      refine g_if_ge F (q := 36) (tgt := 38) (dk dX7_order 17 rfl) (by decide) rfl (fun _ => ?_) (fun h => absurd h (by decide))
      refine g_aload_n F (q := 39) (dk dX7_order 20 rfl) rfl rfl 1 rfl ?_
      refine g_dup F (q := 40) (dk dX7_order 21 rfl) rfl rfl ?_
      refine g_getf F (q := 43) h233 rfl inX7 (by omega) (j := 8) (by decide) tq_631 rfl rfl (dk dX7_order 22 rfl) rfl ?_
      refine g_iconst F (q := 44) (v := 1) (dk dX7_order 23 rfl) rfl (by decide) ?_
      refine g_iadd F (q := 45) (dk dX7_order 24 rfl) rfl ?_
      refine g_sti (nA rfl rfl) ?_
      refine g_putf F (q := 48) (ty := .int) h233 rfl inX7 tyX7 tyX7_ok nmX7 (by omega) (j := 8) (by decide) tq_631 rfl rfl (by decide +kernel) rfl rfl (Nat.le_of_ble_eq_true rfl) (dk dX7_order 25 rfl) rfl (fun E45 hE45 hO45 => ?_)
      have hE45 : E45 233 = .inr (7, [.ref (ad 234), .ref (ad 235), .ref (ad 236), .ref (ad 237), .int s0, .int s1, .ref (ad 238), .int (nI ln), .int (nI ((p + 1))), .int s4, .int s5, .ref (ad 239), .ref (ad 240), .ref (ad 241), .long lo, .long mo, .ref (ad 242)]) := hE45
      refine g_aload_n F (q := 49) (dk dX7_order 26 rfl) rfl rfl 1 rfl ?_
      have hc21 := (hO45 238 (by omega)).trans h238
      refine g_callVI F (q := 52) (av := []) (st := []) (c_X7_number hE45 hc21 (by first | assumption | decide | omega) (by omega)) kv_X7_number tq_802 hE45 rfl (by omega) ⟨rfl, rfl⟩ (by decide) ⟨Nat.le_refl _, Nat.le_refl _⟩ rfl rfl (Nat.le_of_ble_eq_true rfl) (dk dX7_order 27 rfl) rfl (fun r49 E49 hp49 => ?_)
      obtain ⟨rfl, hK233_49, hF49⟩ := hp49
      refine g_istore_n F (q := 53) (lv' := [(3, .int (numV txt ln (p + 1))), (2, .int 1), (0, .ref (ad 233)), (1, .int 1)]) (dk dX7_order 28 rfl) rfl rfl (Nat.le_of_ble_eq_true rfl) rfl ?_
      refine g_iload_n F (q := 54) (dk dX7_order 29 rfl) rfl rfl 0 rfl ?_
      refine g_if_lt F (q := 57) (tgt := 66) (dk dX7_order 30 rfl) (by decide) rfl (fun c54 => ?_) (fun c54 => ?_)
      · refine g_iconst F (q := 67) (v := 0) (dk dX7_order 35 rfl) rfl (by decide) ?_
        refine hret 0 E49 _ _ (dk dX7_order 36 rfl) rfl ?_
        exact Or.inr ⟨rfl, _, hK233_49, ((ordP_k b5 b20).trans (ordQ_a c54)), (fun j hj => ((hF49 j (by omega)).trans (hO45 j (by omega))))⟩
      · refine g_aload_n F (q := 58) (dk dX7_order 31 rfl) rfl rfl 2 rfl ?_
        refine g_bipush F (q := 60) (v := 64) (dk dX7_order 32 rfl) rfl (by decide) ?_
        have hc22 := (hF49 238 (by omega)).trans hc21
        refine g_callVI F (q := 63) (av := [.int 64]) (st := []) (c_X7_takes (ch := 64) hK233_49 hc22 (by first | assumption | decide | omega) (numP_le (by omega))) kv_X7_takes tq_806 hK233_49 rfl (by omega) ⟨rfl, rfl⟩ (by decide) ⟨Nat.le_refl _, Nat.le_refl _⟩ rfl rfl (Nat.le_of_ble_eq_true rfl) (dk dX7_order 33 rfl) rfl (fun r60 E60 hp60 => ?_)
        rcases hp60 with ⟨rfl, hK233_60, hc_60, hF60⟩ | ⟨rfl, hK233_60, hc_60, hF60⟩
        · refine g_if_ne F (q := 66) (tgt := 68) (dk dX7_order 34 rfl) (by decide) rfl (fun _ => ?_) (fun h => absurd h (by decide))
          refine g_aload_n F (q := 69) (dk dX7_order 37 rfl) rfl rfl 2 rfl ?_
          have hc23 := (hF60 238 (by omega)).trans hc22
          refine g_callVI F (q := 72) (av := []) (st := []) (c_X7_number hK233_60 hc23 (by first | assumption | decide | omega) (by omega)) kv_X7_number tq_802 hK233_60 rfl (by omega) ⟨rfl, rfl⟩ (by decide) ⟨Nat.le_refl _, Nat.le_refl _⟩ rfl rfl (Nat.le_of_ble_eq_true rfl) (dk dX7_order 38 rfl) rfl (fun r69 E69 hp69 => ?_)
          obtain ⟨rfl, hK233_69, hF69⟩ := hp69
          refine g_istore F (q := 74) (lv' := [(4, .int (numV txt ln ((numP txt ln (p + 1)) + 1))), (3, .int (numV txt ln (p + 1))), (2, .int 1), (0, .ref (ad 233)), (1, .int 1)]) (dk dX7_order 39 rfl) rfl (Nat.le_of_ble_eq_true rfl) rfl ?_
          refine g_iload F (q := 76) (dk dX7_order 40 rfl) rfl 0 rfl ?_
          refine g_if_ge F (q := 79) (tgt := 81) (dk dX7_order 41 rfl) (by decide) rfl (fun c76 => ?_) (fun c76 => ?_)
          · refine g_sipush F (q := 84) (v := 1000) (dk dX7_order 44 rfl) rfl (by decide) ?_
            refine g_istore F (q := 86) (lv' := [(5, .int 1000), (4, .int (numV txt ln ((numP txt ln (p + 1)) + 1))), (3, .int (numV txt ln (p + 1))), (2, .int 1), (0, .ref (ad 233)), (1, .int 1)]) (dk dX7_order 45 rfl) rfl (Nat.le_of_ble_eq_true rfl) rfl ?_
            refine g_aload_n F (q := 87) (dk dX7_order 46 rfl) rfl rfl 4 rfl ?_
            refine g_bipush F (q := 89) (v := 42) (dk dX7_order 47 rfl) rfl (by decide) ?_
            have hc24 := (hF69 238 (by omega)).trans hc23
            refine g_callVI F (q := 92) (av := [.int 42]) (st := []) (c_X7_takes (ch := 42) hK233_69 hc24 (by first | assumption | decide | omega) (numP_le (by omega))) kv_X7_takes tq_806 hK233_69 rfl (by omega) ⟨rfl, rfl⟩ (by decide) ⟨Nat.le_refl _, Nat.le_refl _⟩ rfl rfl (Nat.le_of_ble_eq_true rfl) (dk dX7_order 48 rfl) rfl (fun r89 E89 hp89 => ?_)
            rcases hp89 with ⟨rfl, hK233_89, hc_89, hF89⟩ | ⟨rfl, hK233_89, hc_89, hF89⟩
            · refine g_if_eq F (q := 95) (tgt := 108) (dk dX7_order 49 rfl) (by decide) rfl (fun h => absurd h (by decide)) (fun _ => ?_)
              refine g_aload_n F (q := 96) (dk dX7_order 50 rfl) rfl rfl 4 rfl ?_
              have hc25 := (hF89 238 (by omega)).trans hc24
              refine g_callVI F (q := 99) (av := []) (st := []) (c_X7_number hK233_89 hc25 (by first | assumption | decide | omega) (by omega)) kv_X7_number tq_802 hK233_89 rfl (by omega) ⟨rfl, rfl⟩ (by decide) ⟨Nat.le_refl _, Nat.le_refl _⟩ rfl rfl (Nat.le_of_ble_eq_true rfl) (dk dX7_order 51 rfl) rfl (fun r96 E96 hp96 => ?_)
              obtain ⟨rfl, hK233_96, hF96⟩ := hp96
              refine g_istore F (q := 101) (lv' := [(5, .int (numV txt ln ((numP txt ln ((numP txt ln (p + 1)) + 1)) + 1))), (4, .int (numV txt ln ((numP txt ln (p + 1)) + 1))), (3, .int (numV txt ln (p + 1))), (2, .int 1), (0, .ref (ad 233)), (1, .int 1)]) (dk dX7_order 52 rfl) rfl (Nat.le_of_ble_eq_true rfl) rfl ?_
              refine g_iload F (q := 103) (dk dX7_order 53 rfl) rfl 0 rfl ?_
              refine g_if_ge F (q := 106) (tgt := 108) (dk dX7_order 54 rfl) (by decide) rfl (fun c103 => ?_) (fun c103 => ?_)
              · refine g_aload_n F (q := 109) (dk dX7_order 57 rfl) rfl rfl 4 rfl ?_
                refine g_iload_n F (q := 110) (dk dX7_order 58 rfl) rfl rfl 5 rfl ?_
                refine g_if_eq F (q := 113) (tgt := 126) (dk dX7_order 59 rfl) (by decide) rfl (fun h => absurd h (by decide)) (fun _ => ?_)
                refine g_aload_n F (q := 114) (dk dX7_order 60 rfl) rfl rfl 4 rfl ?_
                refine g_iload_n F (q := 115) (dk dX7_order 61 rfl) rfl rfl 3 rfl ?_
                refine g_iload_n F (q := 116) (dk dX7_order 62 rfl) rfl rfl 2 rfl ?_
                refine g_iload F (q := 118) (dk dX7_order 63 rfl) rfl 1 rfl ?_
                refine g_iload F (q := 120) (dk dX7_order 64 rfl) rfl 0 rfl ?_
                have hc26 := (hO45 234 (by omega)).trans h234
                have hc27 := (hF49 234 (by omega)).trans hc26
                have hc28 := (hF60 234 (by omega)).trans hc27
                have hc29 := (hF69 234 (by omega)).trans hc28
                have hc30 := (hF89 234 (by omega)).trans hc29
                have hc31 := (hF96 234 (by omega)).trans hc30
                refine g_callVI F (q := 123) (av := [.int 1, .int (numV txt ln (p + 1)), .int (numV txt ln ((numP txt ln (p + 1)) + 1)), .int (numV txt ln ((numP txt ln ((numP txt ln (p + 1)) + 1)) + 1))]) (st := [.ref (ad 233)]) (c_X7_make (k := 1) (p := (numV txt ln (p + 1))) (t := (numV txt ln ((numP txt ln (p + 1)) + 1))) (c := (numV txt ln ((numP txt ln ((numP txt ln (p + 1)) + 1)) + 1))) hK233_96 hc31 (by first | assumption | decide | omega) (by first | assumption | decide | omega) (by first | assumption | decide | omega) h2 (by omega)) kv_X7_make tq_742 hK233_96 rfl (by omega) ⟨rfl, rfl⟩ (by decide) ⟨Nat.le_refl _, Nat.le_refl _⟩ rfl rfl (Nat.le_of_ble_eq_true rfl) (dk dX7_order 65 rfl) rfl (fun r120 E120 hp120 => ?_)
                obtain ⟨rfl, hK234_120, hF120⟩ := hp120
                refine g_goto F (tgt := 127) (dk dX7_order 66 rfl) (by decide) ?_
                have hc32 := (hF120 233 (by omega)).trans hK233_96
                refine g_putf F (q := 130) (ty := .int) hc32 rfl inX7 tyX7 tyX7_ok nmX7 (by omega) (j := 9) (by decide) tq_632 rfl rfl (by decide +kernel) rfl rfl (Nat.le_of_ble_eq_true rfl) (dk dX7_order 68 rfl) rfl (fun E127 hE127 hO127 => ?_)
                have hE127 : E127 233 = .inr (7, [.ref (ad 234), .ref (ad 235), .ref (ad 236), .ref (ad 237), .int s0, .int s1, .ref (ad 238), .int (nI ln), .int (nI ((numP txt ln ((numP txt ln ((numP txt ln (p + 1)) + 1)) + 1)))), .int (mkS r ne 1 nk (numV txt ln (p + 1)) (numV txt ln ((numP txt ln (p + 1)) + 1)) (numV txt ln ((numP txt ln ((numP txt ln (p + 1)) + 1)) + 1))).1, .int s5, .ref (ad 239), .ref (ad 240), .ref (ad 241), .long lo, .long mo, .ref (ad 242)]) := hE127
                refine g_iconst F (q := 131) (v := 1) (dk dX7_order 69 rfl) rfl (by decide) ?_
                have hc33 := (hO127 234 (by omega)).trans hK234_120
                refine hret 1 E127 _ _ (dk dX7_order 70 rfl) rfl ?_
                exact Or.inl ⟨rfl, _, 1, (numV txt ln (p + 1)), (numV txt ln ((numP txt ln (p + 1)) + 1)), (numV txt ln ((numP txt ln ((numP txt ln (p + 1)) + 1)) + 1)), hE127, hc33, ((ordP_k b5 b20).trans (ordQ_f c54 hc_60 (Int32.not_lt.mpr c76) hc_89 (Int32.not_lt.mpr c103))), (fun j hj => ((((((((hO127 j (by omega)).trans (hF120 j (by omega))).trans (hF96 j (by omega))).trans (hF89 j (by omega))).trans (hF69 j (by omega))).trans (hF60 j (by omega))).trans (hF49 j (by omega))).trans (hO45 j (by omega))))⟩
              · refine g_iconst F (q := 107) (v := 0) (dk dX7_order 55 rfl) rfl (by decide) ?_
                refine hret 0 E96 _ _ (dk dX7_order 56 rfl) rfl ?_
                exact Or.inr ⟨rfl, _, hK233_96, ((ordP_k b5 b20).trans (ordQ_e c54 hc_60 (Int32.not_lt.mpr c76) hc_89 (Int32.not_le.mp c103))), (fun j hj => ((((((hF96 j (by omega)).trans (hF89 j (by omega))).trans (hF69 j (by omega))).trans (hF60 j (by omega))).trans (hF49 j (by omega))).trans (hO45 j (by omega))))⟩
            · refine g_if_eq F (q := 95) (tgt := 108) (dk dX7_order 49 rfl) (by decide) rfl (fun _ => ?_) (fun h => absurd h (by decide))
              refine g_aload_n F (q := 109) (dk dX7_order 57 rfl) rfl rfl 4 rfl ?_
              refine g_iload_n F (q := 110) (dk dX7_order 58 rfl) rfl rfl 5 rfl ?_
              refine g_if_eq F (q := 113) (tgt := 126) (dk dX7_order 59 rfl) (by decide) rfl (fun h => absurd h (by decide)) (fun _ => ?_)
              refine g_aload_n F (q := 114) (dk dX7_order 60 rfl) rfl rfl 4 rfl ?_
              refine g_iload_n F (q := 115) (dk dX7_order 61 rfl) rfl rfl 3 rfl ?_
              refine g_iload_n F (q := 116) (dk dX7_order 62 rfl) rfl rfl 2 rfl ?_
              refine g_iload F (q := 118) (dk dX7_order 63 rfl) rfl 1 rfl ?_
              refine g_iload F (q := 120) (dk dX7_order 64 rfl) rfl 0 rfl ?_
              have hc34 := (hO45 234 (by omega)).trans h234
              have hc35 := (hF49 234 (by omega)).trans hc34
              have hc36 := (hF60 234 (by omega)).trans hc35
              have hc37 := (hF69 234 (by omega)).trans hc36
              have hc38 := (hF89 234 (by omega)).trans hc37
              refine g_callVI F (q := 123) (av := [.int 1, .int (numV txt ln (p + 1)), .int (numV txt ln ((numP txt ln (p + 1)) + 1)), .int 1000]) (st := [.ref (ad 233)]) (c_X7_make (k := 1) (p := (numV txt ln (p + 1))) (t := (numV txt ln ((numP txt ln (p + 1)) + 1))) (c := 1000) hK233_89 hc38 (by first | assumption | decide | omega) (by first | assumption | decide | omega) (by first | assumption | decide | omega) h2 (by omega)) kv_X7_make tq_742 hK233_89 rfl (by omega) ⟨rfl, rfl⟩ (by decide) ⟨Nat.le_refl _, Nat.le_refl _⟩ rfl rfl (Nat.le_of_ble_eq_true rfl) (dk dX7_order 65 rfl) rfl (fun r120 E120 hp120 => ?_)
              obtain ⟨rfl, hK234_120, hF120⟩ := hp120
              refine g_goto F (tgt := 127) (dk dX7_order 66 rfl) (by decide) ?_
              have hc39 := (hF120 233 (by omega)).trans hK233_89
              refine g_putf F (q := 130) (ty := .int) hc39 rfl inX7 tyX7 tyX7_ok nmX7 (by omega) (j := 9) (by decide) tq_632 rfl rfl (by decide +kernel) rfl rfl (Nat.le_of_ble_eq_true rfl) (dk dX7_order 68 rfl) rfl (fun E127 hE127 hO127 => ?_)
              have hE127 : E127 233 = .inr (7, [.ref (ad 234), .ref (ad 235), .ref (ad 236), .ref (ad 237), .int s0, .int s1, .ref (ad 238), .int (nI ln), .int (nI ((numP txt ln ((numP txt ln (p + 1)) + 1)))), .int (mkS r ne 1 nk (numV txt ln (p + 1)) (numV txt ln ((numP txt ln (p + 1)) + 1)) 1000).1, .int s5, .ref (ad 239), .ref (ad 240), .ref (ad 241), .long lo, .long mo, .ref (ad 242)]) := hE127
              refine g_iconst F (q := 131) (v := 1) (dk dX7_order 69 rfl) rfl (by decide) ?_
              have hc40 := (hO127 234 (by omega)).trans hK234_120
              refine hret 1 E127 _ _ (dk dX7_order 70 rfl) rfl ?_
              exact Or.inl ⟨rfl, _, 1, (numV txt ln (p + 1)), (numV txt ln ((numP txt ln (p + 1)) + 1)), (1000), hE127, hc40, ((ordP_k b5 b20).trans (ordQ_d c54 hc_60 (Int32.not_lt.mpr c76) hc_89)), (fun j hj => (((((((hO127 j (by omega)).trans (hF120 j (by omega))).trans (hF89 j (by omega))).trans (hF69 j (by omega))).trans (hF60 j (by omega))).trans (hF49 j (by omega))).trans (hO45 j (by omega))))⟩
          · refine g_iconst F (q := 80) (v := 0) (dk dX7_order 42 rfl) rfl (by decide) ?_
            refine hret 0 E69 _ _ (dk dX7_order 43 rfl) rfl ?_
            exact Or.inr ⟨rfl, _, hK233_69, ((ordP_k b5 b20).trans (ordQ_c c54 hc_60 (Int32.not_le.mp c76))), (fun j hj => ((((hF69 j (by omega)).trans (hF60 j (by omega))).trans (hF49 j (by omega))).trans (hO45 j (by omega))))⟩
        · refine g_if_ne F (q := 66) (tgt := 68) (dk dX7_order 34 rfl) (by decide) rfl (fun h => absurd h (by decide)) (fun _ => ?_)
          refine g_iconst F (q := 67) (v := 0) (dk dX7_order 35 rfl) rfl (by decide) ?_
          refine hret 0 E60 _ _ (dk dX7_order 36 rfl) rfl ?_
          exact Or.inr ⟨rfl, _, hK233_60, ((ordP_k b5 b20).trans (ordQ_b c54 hc_60)), (fun j hj => (((hF60 j (by omega)).trans (hF49 j (by omega))).trans (hO45 j (by omega))))⟩
    · refine g_if_eq F (q := 26) (tgt := 30) (dk dX7_order 11 rfl) (by decide) rfl (fun _ => ?_) (fun h => absurd h (by decide))
      refine g_iconst F (q := 31) (v := (-1)) (dk dX7_order 14 rfl) rfl (by decide) ?_
      refine g_istore_n F (q := 32) (lv' := [(2, .int (-1)), (0, .ref (ad 233)), (1, .int 1)]) (dk dX7_order 15 rfl) rfl rfl (Nat.le_of_ble_eq_true rfl) rfl ?_
      refine g_iload_n F (q := 33) (dk dX7_order 16 rfl) rfl rfl 0 rfl ?_
      refine g_if_ge F (q := 36) (tgt := 38) (dk dX7_order 17 rfl) (by decide) rfl (fun h => absurd h (by decide)) (fun _ => ?_)
      refine g_iconst F (q := 37) (v := 0) (dk dX7_order 18 rfl) rfl (by decide) ?_
      refine hret 0 E _ _ (dk dX7_order 19 rfl) rfl ?_
      exact Or.inr ⟨rfl, _, h233, (ordP_n b5 b20), (fun j _ => rfl)⟩
