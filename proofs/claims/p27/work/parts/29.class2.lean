abbrev rm_X5_addSound_a : Room := { frames := 3, cells := 0, slots := 0, locals := 69 }
set_option maxHeartbeats 4000000 in
set_option maxRecDepth 100000 in
theorem c_X5_addSound_a {l : Launch} {D : va_G} {cA : Nat → ClassId} {ad : Nat → Nat} {E : Nat → va_E} {m ne : Nat} {v01 v02 v03 p t c : Int32} {pl of dr mu pls tms pcs w0 : Nat → Int32}  (h1 : E 1 = .inr (5, [.ref (ad 2), .ref (ad 3), .ref (ad 4), .ref (ad 5), .ref (ad 6), .ref (ad 7), .ref (ad 22), .int (nI ne), .int v01, .int v02, .int v03])) (h2 : E 2 = .inl (cA 0, 10, .inl pl)) (h3 : E 3 = .inl (cA 0, 10, .inl of)) (h4 : E 4 = .inl (cA 0, 10, .inl dr)) (h5 : E 5 = .inl (cA 2, 10, .inl mu)) (h7 : E 7 = .inr (3, [.ref (ad 8), .ref (ad 9), .ref (ad 10), .ref (ad 11), .int (nI m)])) (hp1 : E 8 = .inl (cA 0, 10, .inl pls)) (hp2 : E 9 = .inl (cA 0, 10, .inl tms)) (hp3 : E 10 = .inl (cA 0, 10, .inl pcs)) (hp4 : E 11 = .inl (cA 5, 10, .inr (.inr (.inr (.inr (fun i => some (ad (12 + i)))))))) (hp5 : E ((12 + m)) = .inl (cA 0, 10, .inl w0))  (hne : ne ≤ 10) (hm : m < 10) : CtI l D cA yX5_addSound cX5_addSound 9 .int rm_X5_addSound_a 235 ad E [.ref (ad 1), .ref (ad 7), .int p, .int t, .int c] (fun x E' => ∃ (w2 : Nat → Int32), (hcC ne pl mu p c 10) = x ∧ E' 1 = .inr (5, [.ref (ad 2), .ref (ad 3), .ref (ad 4), .ref (ad 5), .ref (ad 6), .ref (ad 7), .ref (ad 22), .int (nI ne), .int v01, .int v02, .int t]) ∧ E' 7 = .inr (3, [.ref (ad 8), .ref (ad 9), .ref (ad 10), .ref (ad 11), .int (nI ((m + 1)))]) ∧ E' 8 = .inl (cA 0, 10, .inl (upd pls m p)) ∧ E' 9 = .inl (cA 0, 10, .inl (upd tms m t)) ∧ E' 10 = .inl (cA 0, 10, .inl (upd pcs m v01)) ∧ E' ((12 + m)) = .inl (cA 0, 10, .inl w2) ∧ (∀ e, e < 10 → w2 e = (hvC ne pl of dr mu v01 p t c) e) ∧ ∀ j, (j ≠ 1 ∧ j ≠ 7 ∧ j ≠ 8 ∧ j ≠ 9 ∧ j ≠ 10 ∧ j ≠ ((12 + m))) → E' j = E j) := by
  refine CtI.of (by decide +kernel) (Nat.le_of_ble_eq_true rfl) (fun X F hret => ?_)
  have F : Fr "ThumpEars$State" cX5_addSound 9 D cA X := F
  refine (show GG rm_X5_addSound_a 9 l D X 0 0 235 ad E 0 [(0, .ref (ad 1)), (1, .ref (ad 7)), (2, .int p), (3, .int t), (4, .int c)] [] from ?_)
  refine g_aload_n F (q := 1) (dk dX5_addSound 0 rfl) rfl rfl 1 rfl ?_
  refine g_getf F (q := 4) h7 rfl inX3 (by omega) (j := 4) (by decide) tq_59 rfl rfl (dk dX5_addSound 1 rfl) rfl ?_
  refine g_istore F (q := 6) (lv' := [(5, .int (nI m)), (0, .ref (ad 1)), (1, .ref (ad 7)), (2, .int p), (3, .int t), (4, .int c)]) (dk dX5_addSound 2 rfl) rfl (Nat.le_of_ble_eq_true rfl) rfl ?_
  refine g_iconst F (q := 7) (v := 0) (dk dX5_addSound 3 rfl) rfl (by decide) ?_
  refine g_istore F (q := 9) (lv' := [(6, .int 0), (5, .int (nI m)), (0, .ref (ad 1)), (1, .ref (ad 7)), (2, .int p), (3, .int t), (4, .int c)]) (dk dX5_addSound 4 rfl) rfl (Nat.le_of_ble_eq_true rfl) rfl ?_
  refine g_iconst F (q := 10) (v := 0) (dk dX5_addSound 5 rfl) rfl (by decide) ?_
  refine g_istore F (q := 12) (lv' := [(7, .int 0), (6, .int 0), (5, .int (nI m)), (0, .ref (ad 1)), (1, .ref (ad 7)), (2, .int p), (3, .int t), (4, .int c)]) (dk dX5_addSound 6 rfl) rfl (Nat.le_of_ble_eq_true rfl) rfl ?_
  have K12 : ∀ (fu : Nat) (i : Nat) (h1c : Int32) (w : Nat → Int32) (E1 : Nat → va_E), 10 - i < fu → (hrw : E1 ((12 + m)) = .inl (cA 0, 10, .inl w)) → (hfr12 : ∀ j, (j ≠ ((12 + m))) → E1 j = E j) → (hi : i ≤ 10) → (hw : ∀ e, e < i → w e = (hvC ne pl of dr mu v01 p t c) e) → (hb : h1c = hcC ne pl mu p c i) → GG rm_X5_addSound_a 9 l D X 0 0 235 ad E1 12 [(0, .ref (ad 1)), (1, .ref (ad 7)), (2, .int p), (3, .int t), (4, .int c), (5, .int (nI m)), (6, .int h1c), (7, .int (nI i))] [] := by
    intro fu
    induction fu with
    | zero => intro i h1c w E1 hfu_; exact absurd hfu_ (Nat.not_lt_zero _)
    | succ fu ih =>
      intro i h1c w E1 hfu_ hrw hfr12 hi hw hb
      refine g_iload F (q := 14) (dk dX5_addSound 7 rfl) rfl 7 rfl ?_
      refine g_bipush F (q := 16) (v := 10) (dk dX5_addSound 8 rfl) rfl (by decide) ?_
      refine g_icmp_ge F (q := 19) (tgt := 78) (dk dX5_addSound 9 rfl) (by decide) rfl (fun c16 => ?_) (fun c16 => ?_)
      · have nc16 : 10 ≤ i := (nI_leI (a := 10) (b := i) (by omega) (by omega)).mp c16
        refine g_aload_n F (q := 79) (dk dX5_addSound 41 rfl) rfl rfl 1 rfl ?_
        have hc1 := (hfr12 7 (by omega)).trans h7
        refine g_getf F (q := 82) hc1 rfl inX3 (by omega) (j := 0) (by decide) tq_42 rfl rfl (dk dX5_addSound 42 rfl) rfl ?_
        refine g_iload F (q := 84) (dk dX5_addSound 43 rfl) rfl 5 rfl ?_
        refine g_iload_n F (q := 85) (dk dX5_addSound 44 rfl) rfl rfl 2 rfl ?_
        have hc2 := (hfr12 8 (by omega)).trans hp1
        refine g_iast F (q := 86) m hc2 (by omega) rfl (by omega) (by decide) (dk dX5_addSound 45 rfl) rfl (fun E85 hE85 hO85 => ?_)
        refine g_aload_n F (q := 87) (dk dX5_addSound 46 rfl) rfl rfl 1 rfl ?_
        have hc3 := (hO85 7 (by omega)).trans hc1
        refine g_getf F (q := 90) hc3 rfl inX3 (by omega) (j := 1) (by decide) tq_46 rfl rfl (dk dX5_addSound 47 rfl) rfl ?_
        refine g_iload F (q := 92) (dk dX5_addSound 48 rfl) rfl 5 rfl ?_
        refine g_iload_n F (q := 93) (dk dX5_addSound 49 rfl) rfl rfl 3 rfl ?_
        have hc4 := (hfr12 9 (by omega)).trans hp2
        have hc5 := (hO85 9 (by omega)).trans hc4
        refine g_iast F (q := 94) m hc5 (by omega) rfl (by omega) (by decide) (dk dX5_addSound 50 rfl) rfl (fun E93 hE93 hO93 => ?_)
        refine g_aload_n F (q := 95) (dk dX5_addSound 51 rfl) rfl rfl 1 rfl ?_
        have hc6 := (hO93 7 (by omega)).trans hc3
        refine g_getf F (q := 98) hc6 rfl inX3 (by omega) (j := 2) (by decide) tq_51 rfl rfl (dk dX5_addSound 52 rfl) rfl ?_
        refine g_iload F (q := 100) (dk dX5_addSound 53 rfl) rfl 5 rfl ?_
        refine g_aload_n F (q := 101) (dk dX5_addSound 54 rfl) rfl rfl 0 rfl ?_
        have hc7 := (hfr12 1 (by omega)).trans h1
        have hc8 := (hO85 1 (by omega)).trans hc7
        have hc9 := (hO93 1 (by omega)).trans hc8
        refine g_getf F (q := 104) hc9 rfl inX5 (by omega) (j := 8) (by decide) tq_95 rfl rfl (dk dX5_addSound 55 rfl) rfl ?_
        have hc10 := (hfr12 10 (by omega)).trans hp3
        have hc11 := (hO85 10 (by omega)).trans hc10
        have hc12 := (hO93 10 (by omega)).trans hc11
        refine g_iast F (q := 105) m hc12 (by omega) rfl (by omega) (by decide) (dk dX5_addSound 56 rfl) rfl (fun E104 hE104 hO104 => ?_)
        refine g_aload_n F (q := 106) (dk dX5_addSound 57 rfl) rfl rfl 1 rfl ?_
        refine g_dup F (q := 107) (dk dX5_addSound 58 rfl) rfl rfl ?_
        have hc13 := (hO104 7 (by omega)).trans hc6
        refine g_getf F (q := 110) hc13 rfl inX3 (by omega) (j := 4) (by decide) tq_59 rfl rfl (dk dX5_addSound 59 rfl) rfl ?_
        refine g_iconst F (q := 111) (v := 1) (dk dX5_addSound 60 rfl) rfl (by decide) ?_
        refine g_iadd F (q := 112) (dk dX5_addSound 61 rfl) rfl ?_
        refine g_sti (nA rfl rfl) ?_
        refine g_putf F (q := 115) (ty := .int) hc13 rfl inX3 tyX3 tyX3_ok nmX3 (by omega) (j := 4) (by decide) tq_59 rfl rfl (by decide +kernel) rfl rfl (Nat.le_of_ble_eq_true rfl) (dk dX5_addSound 62 rfl) rfl (fun E112 hE112 hO112 => ?_)
        have hE112 : E112 7 = .inr (3, [.ref (ad 8), .ref (ad 9), .ref (ad 10), .ref (ad 11), .int (nI ((m + 1)))]) := hE112
        refine g_aload_n F (q := 116) (dk dX5_addSound 63 rfl) rfl rfl 0 rfl ?_
        refine g_iload_n F (q := 117) (dk dX5_addSound 64 rfl) rfl rfl 3 rfl ?_
        have hc14 := (hO104 1 (by omega)).trans hc9
        have hc15 := (hO112 1 (by omega)).trans hc14
        refine g_putf F (q := 120) (ty := .int) hc15 rfl inX5 tyX5 tyX5_ok nmX5 (by omega) (j := 10) (by decide) tq_99 rfl rfl (by decide +kernel) rfl rfl (Nat.le_of_ble_eq_true rfl) (dk dX5_addSound 65 rfl) rfl (fun E117 hE117 hO117 => ?_)
        have hE117 : E117 1 = .inr (5, [.ref (ad 2), .ref (ad 3), .ref (ad 4), .ref (ad 5), .ref (ad 6), .ref (ad 7), .ref (ad 22), .int (nI ne), .int v01, .int v02, .int t]) := hE117
        refine g_iload F (q := 122) (dk dX5_addSound 66 rfl) rfl 6 rfl ?_
        have hc16 := (hO117 7 (by omega)).trans hE112
        have hc17 := (hO93 8 (by omega)).trans hE85
        have hc18 := (hO104 8 (by omega)).trans hc17
        have hc19 := (hO112 8 (by omega)).trans hc18
        have hc20 := (hO117 8 (by omega)).trans hc19
        have hc21 := (hO104 9 (by omega)).trans hE93
        have hc22 := (hO112 9 (by omega)).trans hc21
        have hc23 := (hO117 9 (by omega)).trans hc22
        have hc24 := (hO112 10 (by omega)).trans hE104
        have hc25 := (hO117 10 (by omega)).trans hc24
        have hc26 := (hO85 ((12 + m)) (by omega)).trans hrw
        have hc27 := (hO93 ((12 + m)) (by omega)).trans hc26
        have hc28 := (hO104 ((12 + m)) (by omega)).trans hc27
        have hc29 := (hO112 ((12 + m)) (by omega)).trans hc28
        have hc30 := (hO117 ((12 + m)) (by omega)).trans hc29
        refine hret h1c E117 _ _ (dk dX5_addSound 67 rfl) (nint _) ?_
        have hi10 : i = 10 := by omega
        exact ⟨w, (by rw [hb, hi10]), hE117, hc16, hc20, hc23, hc25, hc30, (fun e he => hw e (by omega)), (fun j hj => ((((((hO117 j (by omega)).trans (hO112 j (by omega))).trans (hO104 j (by omega))).trans (hO93 j (by omega))).trans (hO85 j (by omega))).trans (hfr12 j (by omega))))⟩
      · have nc16 : ¬ 10 ≤ i := fun h => c16 ((nI_leI (a := 10) (b := i) (by omega) (by omega)).mpr h)
        refine g_ldc F (q := 21) (v := (-1000000)) (dk dX5_addSound 10 rfl) rfl tq_563 ?_
        refine g_sti (y := SIL) rfl ?_
        refine g_istore F (q := 23) (lv' := [(8, .int SIL), (0, .ref (ad 1)), (1, .ref (ad 7)), (2, .int p), (3, .int t), (4, .int c), (5, .int (nI m)), (6, .int h1c), (7, .int (nI i))]) (dk dX5_addSound 11 rfl) rfl (Nat.le_of_ble_eq_true rfl) rfl ?_
        refine g_aload_n F (q := 24) (dk dX5_addSound 12 rfl) rfl rfl 1 rfl ?_
        refine g_iload F (q := 26) (dk dX5_addSound 13 rfl) rfl 8 rfl ?_
        refine g_iload_n F (q := 27) (dk dX5_addSound 14 rfl) rfl rfl 3 rfl ?_
        refine g_iload F (q := 29) (dk dX5_addSound 15 rfl) rfl 5 rfl ?_
        have hc31 := (hfr12 1 (by omega)).trans h1
        have hc32 := (hfr12 2 (by omega)).trans h2
        have hc33 := (hfr12 5 (by omega)).trans h5
        refine g_callVI F (q := 32) (av := [.int (nI i), .int p, .int c]) (st := []) (c_X5_canHear (e := i) (p := p) (c := c) hc31 hc32 hc33 (by first | assumption | decide | omega) (by first | assumption | decide | omega)) kv_X5_canHear tq_564 hc31 rfl (by omega) ⟨rfl, rfl⟩ (by decide) ⟨Nat.le_refl _, Nat.le_refl _⟩ rfl rfl (Nat.le_of_ble_eq_true rfl) (dk dX5_addSound 16 rfl) rfl (fun r29 E29 hp29 => ?_)
        rcases hp29 with ⟨rfl, rfl, b29⟩ | ⟨rfl, rfl, b29⟩
        · refine g_if_eq F (q := 35) (tgt := 60) (dk dX5_addSound 17 rfl) (by decide) rfl (fun h => absurd h (by decide)) (fun _ => ?_)
          refine g_aload_n F (q := 36) (dk dX5_addSound 18 rfl) rfl rfl 1 rfl ?_
          refine g_iload F (q := 38) (dk dX5_addSound 19 rfl) rfl 8 rfl ?_
          refine g_iload_n F (q := 39) (dk dX5_addSound 20 rfl) rfl rfl 4 rfl ?_
          refine g_aload_n F (q := 40) (dk dX5_addSound 21 rfl) rfl rfl 1 rfl ?_
          refine g_getf F (q := 43) hc31 rfl inX5 (by omega) (j := 8) (by decide) tq_95 rfl rfl (dk dX5_addSound 22 rfl) rfl ?_
          refine g_aload_n F (q := 44) (dk dX5_addSound 23 rfl) rfl rfl 1 rfl ?_
          refine g_iload F (q := 46) (dk dX5_addSound 24 rfl) rfl 8 rfl ?_
          refine g_iload_n F (q := 47) (dk dX5_addSound 25 rfl) rfl rfl 3 rfl ?_
          refine g_callVI F (q := 50) (av := [.int (nI i), .int p]) (st := [.int v01, .int t, .int (nI i), .ref (ad 1)]) (c_X5_wayTo (e := i) (p := p) hc31 hc32 (by first | assumption | decide | omega)) kv_X5_wayTo tq_569 hc31 rfl (by omega) ⟨rfl, rfl⟩ (by decide) ⟨Nat.le_refl _, Nat.le_refl _⟩ rfl rfl (Nat.le_of_ble_eq_true rfl) (dk dX5_addSound 26 rfl) rfl (fun r47 E47 hp47 => ?_)
          obtain ⟨rfl, rfl⟩ := hp47
          refine g_imul F (q := 51) (dk dX5_addSound 27 rfl) rfl ?_
          refine g_iadd F (q := 52) (dk dX5_addSound 28 rfl) rfl ?_
          have hc34 := (hfr12 3 (by omega)).trans h3
          have hc35 := (hfr12 4 (by omega)).trans h4
          refine g_callVI F (q := 55) (av := [.int (nI i), .int (t + (v01 * (if 0 ≤ p - pl i then p - pl i else 0 - (p - pl i))))]) (st := []) (c_X5_reading (e := i) (t := (t + (v01 * (if 0 ≤ p - pl i then p - pl i else 0 - (p - pl i))))) hc31 hc34 hc35 (by first | assumption | decide | omega)) kv_X5_reading tq_570 hc31 rfl (by omega) ⟨rfl, rfl⟩ (by decide) ⟨Nat.le_refl _, Nat.le_refl _⟩ rfl rfl (Nat.le_of_ble_eq_true rfl) (dk dX5_addSound 29 rfl) rfl (fun r52 E52 hp52 => ?_)
          obtain ⟨rfl, rfl⟩ := hp52
          refine g_istore F (q := 57) (lv' := [(8, .int ((t + (v01 * (if 0 ≤ p - pl i then p - pl i else 0 - (p - pl i)))) + of i + fdi (dr i * (t + (v01 * (if 0 ≤ p - pl i then p - pl i else 0 - (p - pl i))))) 10000)), (0, .ref (ad 1)), (1, .ref (ad 7)), (2, .int p), (3, .int t), (4, .int c), (5, .int (nI m)), (6, .int h1c), (7, .int (nI i))]) (dk dX5_addSound 30 rfl) rfl (Nat.le_of_ble_eq_true rfl) rfl ?_
          refine g_iinc F (q := 60) (v := (h1c + 1)) (lv' := [(6, .int (h1c + 1)), (8, .int ((t + (v01 * (if 0 ≤ p - pl i then p - pl i else 0 - (p - pl i)))) + of i + fdi (dr i * (t + (v01 * (if 0 ≤ p - pl i then p - pl i else 0 - (p - pl i))))) 10000)), (0, .ref (ad 1)), (1, .ref (ad 7)), (2, .int p), (3, .int t), (4, .int c), (5, .int (nI m)), (7, .int (nI i))]) (dk dX5_addSound 31 rfl) rfl 7 rfl rfl (Nat.le_of_ble_eq_true rfl) rfl ?_
          refine g_aload_n F (q := 61) (dk dX5_addSound 32 rfl) rfl rfl 3 rfl ?_
          have hc36 := (hfr12 7 (by omega)).trans h7
          refine g_getf F (q := 64) hc36 rfl inX3 (by omega) (j := 3) (by decide) tq_55 rfl rfl (dk dX5_addSound 33 rfl) rfl ?_
          refine g_iload F (q := 66) (dk dX5_addSound 34 rfl) rfl 7 rfl ?_
          have hc37 := (hfr12 11 (by omega)).trans hp4
          refine g_aald5 F (q := 67) m hc37 (by omega) rfl (by omega) (by decide) rfl (dk dX5_addSound 35 rfl) rfl ?_
          refine g_iload F (q := 69) (dk dX5_addSound 36 rfl) rfl 8 rfl ?_
          refine g_iload F (q := 71) (dk dX5_addSound 37 rfl) rfl 1 rfl ?_
          refine g_iast F (q := 72) i hrw (by omega) rfl (by omega) (by decide) (dk dX5_addSound 38 rfl) rfl (fun E71 hE71 hO71 => ?_)
          refine g_iinc F (q := 75) (v := (nI ((i + 1)))) (lv' := [(7, .int (nI ((i + 1)))), (6, .int (h1c + 1)), (8, .int ((t + (v01 * (if 0 ≤ p - pl i then p - pl i else 0 - (p - pl i)))) + of i + fdi (dr i * (t + (v01 * (if 0 ≤ p - pl i then p - pl i else 0 - (p - pl i))))) 10000)), (0, .ref (ad 1)), (1, .ref (ad 7)), (2, .int p), (3, .int t), (4, .int c), (5, .int (nI m))]) (dk dX5_addSound 39 rfl) rfl 8 rfl (nI_1 _) (Nat.le_of_ble_eq_true rfl) rfl ?_
          refine g_goto F (tgt := 12) (dk dX5_addSound 40 rfl) (by decide) ?_
          refine g_lv (lv' := [(0, .ref (ad 1)), (1, .ref (ad 7)), (2, .int p), (3, .int t), (4, .int c), (5, .int (nI m)), (6, .int (h1c + 1)), (7, .int (nI ((i + 1))))]) [3, 4, 5, 6, 7, 8, 1, 0] rfl ?_
          exact ih (i + 1) (h1c + 1) (upd w i ((t + (v01 * (if 0 ≤ p - pl i then p - pl i else 0 - (p - pl i)))) + of i + fdi (dr i * (t + (v01 * (if 0 ≤ p - pl i then p - pl i else 0 - (p - pl i))))) 10000)) E71 (by omega) hE71 (fun j hj => ((hO71 j (by omega)).trans (hfr12 j (by omega)))) (by omega) (rowS (g := (hvC ne pl of dr mu v01 p t c)) hw (if_pos b29).symm) (by rw [hcC_t b29, hb])
        · refine g_if_eq F (q := 35) (tgt := 60) (dk dX5_addSound 17 rfl) (by decide) rfl (fun _ => ?_) (fun h => absurd h (by decide))
          refine g_aload_n F (q := 61) (dk dX5_addSound 32 rfl) rfl rfl 2 rfl ?_
          have hc38 := (hfr12 7 (by omega)).trans h7
          refine g_getf F (q := 64) hc38 rfl inX3 (by omega) (j := 3) (by decide) tq_55 rfl rfl (dk dX5_addSound 33 rfl) rfl ?_
          refine g_iload F (q := 66) (dk dX5_addSound 34 rfl) rfl 6 rfl ?_
          have hc39 := (hfr12 11 (by omega)).trans hp4
          refine g_aald5 F (q := 67) m hc39 (by omega) rfl (by omega) (by decide) rfl (dk dX5_addSound 35 rfl) rfl ?_
          refine g_iload F (q := 69) (dk dX5_addSound 36 rfl) rfl 8 rfl ?_
          refine g_iload F (q := 71) (dk dX5_addSound 37 rfl) rfl 0 rfl ?_
          refine g_iast F (q := 72) i hrw (by omega) rfl (by omega) (by decide) (dk dX5_addSound 38 rfl) rfl (fun E71 hE71 hO71 => ?_)
          refine g_iinc F (q := 75) (v := (nI ((i + 1)))) (lv' := [(7, .int (nI ((i + 1)))), (8, .int SIL), (0, .ref (ad 1)), (1, .ref (ad 7)), (2, .int p), (3, .int t), (4, .int c), (5, .int (nI m)), (6, .int h1c)]) (dk dX5_addSound 39 rfl) rfl 8 rfl (nI_1 _) (Nat.le_of_ble_eq_true rfl) rfl ?_
          refine g_goto F (tgt := 12) (dk dX5_addSound 40 rfl) (by decide) ?_
          refine g_lv (lv' := [(0, .ref (ad 1)), (1, .ref (ad 7)), (2, .int p), (3, .int t), (4, .int c), (5, .int (nI m)), (6, .int h1c), (7, .int (nI ((i + 1))))]) [2, 3, 4, 5, 6, 7, 8, 0] rfl ?_
          exact ih (i + 1) h1c (upd w i SIL) E71 (by omega) hE71 (fun j hj => ((hO71 j (by omega)).trans (hfr12 j (by omega)))) (by omega) (rowS (g := (hvC ne pl of dr mu v01 p t c)) hw (if_neg b29).symm) (by rw [hcC_f b29, hb])
  refine g_lv (lv' := [(0, .ref (ad 1)), (1, .ref (ad 7)), (2, .int p), (3, .int t), (4, .int c), (5, .int (nI m)), (6, .int 0), (7, .int 0)]) [3, 4, 5, 6, 7, 2, 1, 0] rfl ?_
  exact K12 _ 0 0 w0 E (Nat.lt_succ_self _) hp5 (fun j _ => rfl) (by omega) (fun e he => absurd he (Nat.not_lt_zero e)) rfl
theorem kv_X5_addSound : KV yX5_addSound "ThumpEars$State" cX5_addSound 9 (some .int) 4 := ⟨tq_560, tq_561, tq_10, tq_562, by decide +kernel⟩
abbrev rm_X5_addSound_b : Room := { frames := 3, cells := 0, slots := 0, locals := 69 }
set_option maxHeartbeats 4000000 in
set_option maxRecDepth 100000 in
theorem c_X5_addSound_b {l : Launch} {D : va_G} {cA : Nat → ClassId} {ad : Nat → Nat} {E : Nat → va_E} {m ne : Nat} {v01 v02 v03 p t c : Int32} {pl of dr mu pls tms pcs w0 : Nat → Int32}  (h1 : E 1 = .inr (5, [.ref (ad 2), .ref (ad 3), .ref (ad 4), .ref (ad 5), .ref (ad 6), .ref (ad 7), .ref (ad 22), .int (nI ne), .int v01, .int v02, .int v03])) (h2 : E 2 = .inl (cA 0, 10, .inl pl)) (h3 : E 3 = .inl (cA 0, 10, .inl of)) (h4 : E 4 = .inl (cA 0, 10, .inl dr)) (h5 : E 5 = .inl (cA 2, 10, .inl mu)) (h22 : E 22 = .inr (3, [.ref (ad 23), .ref (ad 24), .ref (ad 25), .ref (ad 26), .int (nI m)])) (hp1 : E 23 = .inl (cA 0, 10, .inl pls)) (hp2 : E 24 = .inl (cA 0, 10, .inl tms)) (hp3 : E 25 = .inl (cA 0, 10, .inl pcs)) (hp4 : E 26 = .inl (cA 5, 10, .inr (.inr (.inr (.inr (fun i => some (ad (27 + i)))))))) (hp5 : E ((27 + m)) = .inl (cA 0, 10, .inl w0))  (hne : ne ≤ 10) (hm : m < 10) : CtI l D cA yX5_addSound cX5_addSound 9 .int rm_X5_addSound_b 235 ad E [.ref (ad 1), .ref (ad 22), .int p, .int t, .int c] (fun x E' => ∃ (w2 : Nat → Int32), (hcC ne pl mu p c 10) = x ∧ E' 1 = .inr (5, [.ref (ad 2), .ref (ad 3), .ref (ad 4), .ref (ad 5), .ref (ad 6), .ref (ad 7), .ref (ad 22), .int (nI ne), .int v01, .int v02, .int t]) ∧ E' 22 = .inr (3, [.ref (ad 23), .ref (ad 24), .ref (ad 25), .ref (ad 26), .int (nI ((m + 1)))]) ∧ E' 23 = .inl (cA 0, 10, .inl (upd pls m p)) ∧ E' 24 = .inl (cA 0, 10, .inl (upd tms m t)) ∧ E' 25 = .inl (cA 0, 10, .inl (upd pcs m v01)) ∧ E' ((27 + m)) = .inl (cA 0, 10, .inl w2) ∧ (∀ e, e < 10 → w2 e = (hvC ne pl of dr mu v01 p t c) e) ∧ ∀ j, (j ≠ 1 ∧ j ≠ 22 ∧ j ≠ 23 ∧ j ≠ 24 ∧ j ≠ 25 ∧ j ≠ ((27 + m))) → E' j = E j) := by
  refine CtI.of (by decide +kernel) (Nat.le_of_ble_eq_true rfl) (fun X F hret => ?_)
  have F : Fr "ThumpEars$State" cX5_addSound 9 D cA X := F
  refine (show GG rm_X5_addSound_b 9 l D X 0 0 235 ad E 0 [(0, .ref (ad 1)), (1, .ref (ad 22)), (2, .int p), (3, .int t), (4, .int c)] [] from ?_)
  refine g_aload_n F (q := 1) (dk dX5_addSound 0 rfl) rfl rfl 1 rfl ?_
  refine g_getf F (q := 4) h22 rfl inX3 (by omega) (j := 4) (by decide) tq_59 rfl rfl (dk dX5_addSound 1 rfl) rfl ?_
  refine g_istore F (q := 6) (lv' := [(5, .int (nI m)), (0, .ref (ad 1)), (1, .ref (ad 22)), (2, .int p), (3, .int t), (4, .int c)]) (dk dX5_addSound 2 rfl) rfl (Nat.le_of_ble_eq_true rfl) rfl ?_
  refine g_iconst F (q := 7) (v := 0) (dk dX5_addSound 3 rfl) rfl (by decide) ?_
  refine g_istore F (q := 9) (lv' := [(6, .int 0), (5, .int (nI m)), (0, .ref (ad 1)), (1, .ref (ad 22)), (2, .int p), (3, .int t), (4, .int c)]) (dk dX5_addSound 4 rfl) rfl (Nat.le_of_ble_eq_true rfl) rfl ?_
  refine g_iconst F (q := 10) (v := 0) (dk dX5_addSound 5 rfl) rfl (by decide) ?_
  refine g_istore F (q := 12) (lv' := [(7, .int 0), (6, .int 0), (5, .int (nI m)), (0, .ref (ad 1)), (1, .ref (ad 22)), (2, .int p), (3, .int t), (4, .int c)]) (dk dX5_addSound 6 rfl) rfl (Nat.le_of_ble_eq_true rfl) rfl ?_
  have K12 : ∀ (fu : Nat) (i : Nat) (h1c : Int32) (w : Nat → Int32) (E1 : Nat → va_E), 10 - i < fu → (hrw : E1 ((27 + m)) = .inl (cA 0, 10, .inl w)) → (hfr12 : ∀ j, (j ≠ ((27 + m))) → E1 j = E j) → (hi : i ≤ 10) → (hw : ∀ e, e < i → w e = (hvC ne pl of dr mu v01 p t c) e) → (hb : h1c = hcC ne pl mu p c i) → GG rm_X5_addSound_b 9 l D X 0 0 235 ad E1 12 [(0, .ref (ad 1)), (1, .ref (ad 22)), (2, .int p), (3, .int t), (4, .int c), (5, .int (nI m)), (6, .int h1c), (7, .int (nI i))] [] := by
    intro fu
    induction fu with
    | zero => intro i h1c w E1 hfu_; exact absurd hfu_ (Nat.not_lt_zero _)
    | succ fu ih =>
      intro i h1c w E1 hfu_ hrw hfr12 hi hw hb
      refine g_iload F (q := 14) (dk dX5_addSound 7 rfl) rfl 7 rfl ?_
      refine g_bipush F (q := 16) (v := 10) (dk dX5_addSound 8 rfl) rfl (by decide) ?_
      refine g_icmp_ge F (q := 19) (tgt := 78) (dk dX5_addSound 9 rfl) (by decide) rfl (fun c16 => ?_) (fun c16 => ?_)
      · have nc16 : 10 ≤ i := (nI_leI (a := 10) (b := i) (by omega) (by omega)).mp c16
        refine g_aload_n F (q := 79) (dk dX5_addSound 41 rfl) rfl rfl 1 rfl ?_
        have hc1 := (hfr12 22 (by omega)).trans h22
        refine g_getf F (q := 82) hc1 rfl inX3 (by omega) (j := 0) (by decide) tq_42 rfl rfl (dk dX5_addSound 42 rfl) rfl ?_
        refine g_iload F (q := 84) (dk dX5_addSound 43 rfl) rfl 5 rfl ?_
        refine g_iload_n F (q := 85) (dk dX5_addSound 44 rfl) rfl rfl 2 rfl ?_
        have hc2 := (hfr12 23 (by omega)).trans hp1
        refine g_iast F (q := 86) m hc2 (by omega) rfl (by omega) (by decide) (dk dX5_addSound 45 rfl) rfl (fun E85 hE85 hO85 => ?_)
        refine g_aload_n F (q := 87) (dk dX5_addSound 46 rfl) rfl rfl 1 rfl ?_
        have hc3 := (hO85 22 (by omega)).trans hc1
        refine g_getf F (q := 90) hc3 rfl inX3 (by omega) (j := 1) (by decide) tq_46 rfl rfl (dk dX5_addSound 47 rfl) rfl ?_
        refine g_iload F (q := 92) (dk dX5_addSound 48 rfl) rfl 5 rfl ?_
        refine g_iload_n F (q := 93) (dk dX5_addSound 49 rfl) rfl rfl 3 rfl ?_
        have hc4 := (hfr12 24 (by omega)).trans hp2
        have hc5 := (hO85 24 (by omega)).trans hc4
        refine g_iast F (q := 94) m hc5 (by omega) rfl (by omega) (by decide) (dk dX5_addSound 50 rfl) rfl (fun E93 hE93 hO93 => ?_)
        refine g_aload_n F (q := 95) (dk dX5_addSound 51 rfl) rfl rfl 1 rfl ?_
        have hc6 := (hO93 22 (by omega)).trans hc3
        refine g_getf F (q := 98) hc6 rfl inX3 (by omega) (j := 2) (by decide) tq_51 rfl rfl (dk dX5_addSound 52 rfl) rfl ?_
        refine g_iload F (q := 100) (dk dX5_addSound 53 rfl) rfl 5 rfl ?_
        refine g_aload_n F (q := 101) (dk dX5_addSound 54 rfl) rfl rfl 0 rfl ?_
        have hc7 := (hfr12 1 (by omega)).trans h1
        have hc8 := (hO85 1 (by omega)).trans hc7
        have hc9 := (hO93 1 (by omega)).trans hc8
        refine g_getf F (q := 104) hc9 rfl inX5 (by omega) (j := 8) (by decide) tq_95 rfl rfl (dk dX5_addSound 55 rfl) rfl ?_
        have hc10 := (hfr12 25 (by omega)).trans hp3
        have hc11 := (hO85 25 (by omega)).trans hc10
        have hc12 := (hO93 25 (by omega)).trans hc11
        refine g_iast F (q := 105) m hc12 (by omega) rfl (by omega) (by decide) (dk dX5_addSound 56 rfl) rfl (fun E104 hE104 hO104 => ?_)
        refine g_aload_n F (q := 106) (dk dX5_addSound 57 rfl) rfl rfl 1 rfl ?_
        refine g_dup F (q := 107) (dk dX5_addSound 58 rfl) rfl rfl ?_
        have hc13 := (hO104 22 (by omega)).trans hc6
        refine g_getf F (q := 110) hc13 rfl inX3 (by omega) (j := 4) (by decide) tq_59 rfl rfl (dk dX5_addSound 59 rfl) rfl ?_
        refine g_iconst F (q := 111) (v := 1) (dk dX5_addSound 60 rfl) rfl (by decide) ?_
        refine g_iadd F (q := 112) (dk dX5_addSound 61 rfl) rfl ?_
        refine g_sti (nA rfl rfl) ?_
        refine g_putf F (q := 115) (ty := .int) hc13 rfl inX3 tyX3 tyX3_ok nmX3 (by omega) (j := 4) (by decide) tq_59 rfl rfl (by decide +kernel) rfl rfl (Nat.le_of_ble_eq_true rfl) (dk dX5_addSound 62 rfl) rfl (fun E112 hE112 hO112 => ?_)
        have hE112 : E112 22 = .inr (3, [.ref (ad 23), .ref (ad 24), .ref (ad 25), .ref (ad 26), .int (nI ((m + 1)))]) := hE112
        refine g_aload_n F (q := 116) (dk dX5_addSound 63 rfl) rfl rfl 0 rfl ?_
        refine g_iload_n F (q := 117) (dk dX5_addSound 64 rfl) rfl rfl 3 rfl ?_
        have hc14 := (hO104 1 (by omega)).trans hc9
        have hc15 := (hO112 1 (by omega)).trans hc14
        refine g_putf F (q := 120) (ty := .int) hc15 rfl inX5 tyX5 tyX5_ok nmX5 (by omega) (j := 10) (by decide) tq_99 rfl rfl (by decide +kernel) rfl rfl (Nat.le_of_ble_eq_true rfl) (dk dX5_addSound 65 rfl) rfl (fun E117 hE117 hO117 => ?_)
        have hE117 : E117 1 = .inr (5, [.ref (ad 2), .ref (ad 3), .ref (ad 4), .ref (ad 5), .ref (ad 6), .ref (ad 7), .ref (ad 22), .int (nI ne), .int v01, .int v02, .int t]) := hE117
        refine g_iload F (q := 122) (dk dX5_addSound 66 rfl) rfl 6 rfl ?_
        have hc16 := (hO117 22 (by omega)).trans hE112
        have hc17 := (hO93 23 (by omega)).trans hE85
        have hc18 := (hO104 23 (by omega)).trans hc17
        have hc19 := (hO112 23 (by omega)).trans hc18
        have hc20 := (hO117 23 (by omega)).trans hc19
        have hc21 := (hO104 24 (by omega)).trans hE93
        have hc22 := (hO112 24 (by omega)).trans hc21
        have hc23 := (hO117 24 (by omega)).trans hc22
        have hc24 := (hO112 25 (by omega)).trans hE104
        have hc25 := (hO117 25 (by omega)).trans hc24
        have hc26 := (hO85 ((27 + m)) (by omega)).trans hrw
        have hc27 := (hO93 ((27 + m)) (by omega)).trans hc26
        have hc28 := (hO104 ((27 + m)) (by omega)).trans hc27
        have hc29 := (hO112 ((27 + m)) (by omega)).trans hc28
        have hc30 := (hO117 ((27 + m)) (by omega)).trans hc29
        refine hret h1c E117 _ _ (dk dX5_addSound 67 rfl) (nint _) ?_
        have hi10 : i = 10 := by omega
        exact ⟨w, (by rw [hb, hi10]), hE117, hc16, hc20, hc23, hc25, hc30, (fun e he => hw e (by omega)), (fun j hj => ((((((hO117 j (by omega)).trans (hO112 j (by omega))).trans (hO104 j (by omega))).trans (hO93 j (by omega))).trans (hO85 j (by omega))).trans (hfr12 j (by omega))))⟩
      · have nc16 : ¬ 10 ≤ i := fun h => c16 ((nI_leI (a := 10) (b := i) (by omega) (by omega)).mpr h)
        refine g_ldc F (q := 21) (v := (-1000000)) (dk dX5_addSound 10 rfl) rfl tq_563 ?_
        refine g_sti (y := SIL) rfl ?_
        refine g_istore F (q := 23) (lv' := [(8, .int SIL), (0, .ref (ad 1)), (1, .ref (ad 22)), (2, .int p), (3, .int t), (4, .int c), (5, .int (nI m)), (6, .int h1c), (7, .int (nI i))]) (dk dX5_addSound 11 rfl) rfl (Nat.le_of_ble_eq_true rfl) rfl ?_
        refine g_aload_n F (q := 24) (dk dX5_addSound 12 rfl) rfl rfl 1 rfl ?_
        refine g_iload F (q := 26) (dk dX5_addSound 13 rfl) rfl 8 rfl ?_
        refine g_iload_n F (q := 27) (dk dX5_addSound 14 rfl) rfl rfl 3 rfl ?_
        refine g_iload F (q := 29) (dk dX5_addSound 15 rfl) rfl 5 rfl ?_
        have hc31 := (hfr12 1 (by omega)).trans h1
        have hc32 := (hfr12 2 (by omega)).trans h2
        have hc33 := (hfr12 5 (by omega)).trans h5
        refine g_callVI F (q := 32) (av := [.int (nI i), .int p, .int c]) (st := []) (c_X5_canHear (e := i) (p := p) (c := c) hc31 hc32 hc33 (by first | assumption | decide | omega) (by first | assumption | decide | omega)) kv_X5_canHear tq_564 hc31 rfl (by omega) ⟨rfl, rfl⟩ (by decide) ⟨Nat.le_refl _, Nat.le_refl _⟩ rfl rfl (Nat.le_of_ble_eq_true rfl) (dk dX5_addSound 16 rfl) rfl (fun r29 E29 hp29 => ?_)
        rcases hp29 with ⟨rfl, rfl, b29⟩ | ⟨rfl, rfl, b29⟩
        · refine g_if_eq F (q := 35) (tgt := 60) (dk dX5_addSound 17 rfl) (by decide) rfl (fun h => absurd h (by decide)) (fun _ => ?_)
          refine g_aload_n F (q := 36) (dk dX5_addSound 18 rfl) rfl rfl 1 rfl ?_
          refine g_iload F (q := 38) (dk dX5_addSound 19 rfl) rfl 8 rfl ?_
          refine g_iload_n F (q := 39) (dk dX5_addSound 20 rfl) rfl rfl 4 rfl ?_
          refine g_aload_n F (q := 40) (dk dX5_addSound 21 rfl) rfl rfl 1 rfl ?_
          refine g_getf F (q := 43) hc31 rfl inX5 (by omega) (j := 8) (by decide) tq_95 rfl rfl (dk dX5_addSound 22 rfl) rfl ?_
          refine g_aload_n F (q := 44) (dk dX5_addSound 23 rfl) rfl rfl 1 rfl ?_
          refine g_iload F (q := 46) (dk dX5_addSound 24 rfl) rfl 8 rfl ?_
          refine g_iload_n F (q := 47) (dk dX5_addSound 25 rfl) rfl rfl 3 rfl ?_
          refine g_callVI F (q := 50) (av := [.int (nI i), .int p]) (st := [.int v01, .int t, .int (nI i), .ref (ad 1)]) (c_X5_wayTo (e := i) (p := p) hc31 hc32 (by first | assumption | decide | omega)) kv_X5_wayTo tq_569 hc31 rfl (by omega) ⟨rfl, rfl⟩ (by decide) ⟨Nat.le_refl _, Nat.le_refl _⟩ rfl rfl (Nat.le_of_ble_eq_true rfl) (dk dX5_addSound 26 rfl) rfl (fun r47 E47 hp47 => ?_)
          obtain ⟨rfl, rfl⟩ := hp47
          refine g_imul F (q := 51) (dk dX5_addSound 27 rfl) rfl ?_
          refine g_iadd F (q := 52) (dk dX5_addSound 28 rfl) rfl ?_
          have hc34 := (hfr12 3 (by omega)).trans h3
          have hc35 := (hfr12 4 (by omega)).trans h4
          refine g_callVI F (q := 55) (av := [.int (nI i), .int (t + (v01 * (if 0 ≤ p - pl i then p - pl i else 0 - (p - pl i))))]) (st := []) (c_X5_reading (e := i) (t := (t + (v01 * (if 0 ≤ p - pl i then p - pl i else 0 - (p - pl i))))) hc31 hc34 hc35 (by first | assumption | decide | omega)) kv_X5_reading tq_570 hc31 rfl (by omega) ⟨rfl, rfl⟩ (by decide) ⟨Nat.le_refl _, Nat.le_refl _⟩ rfl rfl (Nat.le_of_ble_eq_true rfl) (dk dX5_addSound 29 rfl) rfl (fun r52 E52 hp52 => ?_)
          obtain ⟨rfl, rfl⟩ := hp52
          refine g_istore F (q := 57) (lv' := [(8, .int ((t + (v01 * (if 0 ≤ p - pl i then p - pl i else 0 - (p - pl i)))) + of i + fdi (dr i * (t + (v01 * (if 0 ≤ p - pl i then p - pl i else 0 - (p - pl i))))) 10000)), (0, .ref (ad 1)), (1, .ref (ad 22)), (2, .int p), (3, .int t), (4, .int c), (5, .int (nI m)), (6, .int h1c), (7, .int (nI i))]) (dk dX5_addSound 30 rfl) rfl (Nat.le_of_ble_eq_true rfl) rfl ?_
          refine g_iinc F (q := 60) (v := (h1c + 1)) (lv' := [(6, .int (h1c + 1)), (8, .int ((t + (v01 * (if 0 ≤ p - pl i then p - pl i else 0 - (p - pl i)))) + of i + fdi (dr i * (t + (v01 * (if 0 ≤ p - pl i then p - pl i else 0 - (p - pl i))))) 10000)), (0, .ref (ad 1)), (1, .ref (ad 22)), (2, .int p), (3, .int t), (4, .int c), (5, .int (nI m)), (7, .int (nI i))]) (dk dX5_addSound 31 rfl) rfl 7 rfl rfl (Nat.le_of_ble_eq_true rfl) rfl ?_
          refine g_aload_n F (q := 61) (dk dX5_addSound 32 rfl) rfl rfl 3 rfl ?_
          have hc36 := (hfr12 22 (by omega)).trans h22
          refine g_getf F (q := 64) hc36 rfl inX3 (by omega) (j := 3) (by decide) tq_55 rfl rfl (dk dX5_addSound 33 rfl) rfl ?_
          refine g_iload F (q := 66) (dk dX5_addSound 34 rfl) rfl 7 rfl ?_
          have hc37 := (hfr12 26 (by omega)).trans hp4
          refine g_aald5 F (q := 67) m hc37 (by omega) rfl (by omega) (by decide) rfl (dk dX5_addSound 35 rfl) rfl ?_
          refine g_iload F (q := 69) (dk dX5_addSound 36 rfl) rfl 8 rfl ?_
          refine g_iload F (q := 71) (dk dX5_addSound 37 rfl) rfl 1 rfl ?_
          refine g_iast F (q := 72) i hrw (by omega) rfl (by omega) (by decide) (dk dX5_addSound 38 rfl) rfl (fun E71 hE71 hO71 => ?_)
          refine g_iinc F (q := 75) (v := (nI ((i + 1)))) (lv' := [(7, .int (nI ((i + 1)))), (6, .int (h1c + 1)), (8, .int ((t + (v01 * (if 0 ≤ p - pl i then p - pl i else 0 - (p - pl i)))) + of i + fdi (dr i * (t + (v01 * (if 0 ≤ p - pl i then p - pl i else 0 - (p - pl i))))) 10000)), (0, .ref (ad 1)), (1, .ref (ad 22)), (2, .int p), (3, .int t), (4, .int c), (5, .int (nI m))]) (dk dX5_addSound 39 rfl) rfl 8 rfl (nI_1 _) (Nat.le_of_ble_eq_true rfl) rfl ?_
          refine g_goto F (tgt := 12) (dk dX5_addSound 40 rfl) (by decide) ?_
          refine g_lv (lv' := [(0, .ref (ad 1)), (1, .ref (ad 22)), (2, .int p), (3, .int t), (4, .int c), (5, .int (nI m)), (6, .int (h1c + 1)), (7, .int (nI ((i + 1))))]) [3, 4, 5, 6, 7, 8, 1, 0] rfl ?_
          exact ih (i + 1) (h1c + 1) (upd w i ((t + (v01 * (if 0 ≤ p - pl i then p - pl i else 0 - (p - pl i)))) + of i + fdi (dr i * (t + (v01 * (if 0 ≤ p - pl i then p - pl i else 0 - (p - pl i))))) 10000)) E71 (by omega) hE71 (fun j hj => ((hO71 j (by omega)).trans (hfr12 j (by omega)))) (by omega) (rowS (g := (hvC ne pl of dr mu v01 p t c)) hw (if_pos b29).symm) (by rw [hcC_t b29, hb])
        · refine g_if_eq F (q := 35) (tgt := 60) (dk dX5_addSound 17 rfl) (by decide) rfl (fun _ => ?_) (fun h => absurd h (by decide))
          refine g_aload_n F (q := 61) (dk dX5_addSound 32 rfl) rfl rfl 2 rfl ?_
          have hc38 := (hfr12 22 (by omega)).trans h22
          refine g_getf F (q := 64) hc38 rfl inX3 (by omega) (j := 3) (by decide) tq_55 rfl rfl (dk dX5_addSound 33 rfl) rfl ?_
          refine g_iload F (q := 66) (dk dX5_addSound 34 rfl) rfl 6 rfl ?_
          have hc39 := (hfr12 26 (by omega)).trans hp4
          refine g_aald5 F (q := 67) m hc39 (by omega) rfl (by omega) (by decide) rfl (dk dX5_addSound 35 rfl) rfl ?_
          refine g_iload F (q := 69) (dk dX5_addSound 36 rfl) rfl 8 rfl ?_
          refine g_iload F (q := 71) (dk dX5_addSound 37 rfl) rfl 0 rfl ?_
          refine g_iast F (q := 72) i hrw (by omega) rfl (by omega) (by decide) (dk dX5_addSound 38 rfl) rfl (fun E71 hE71 hO71 => ?_)
          refine g_iinc F (q := 75) (v := (nI ((i + 1)))) (lv' := [(7, .int (nI ((i + 1)))), (8, .int SIL), (0, .ref (ad 1)), (1, .ref (ad 22)), (2, .int p), (3, .int t), (4, .int c), (5, .int (nI m)), (6, .int h1c)]) (dk dX5_addSound 39 rfl) rfl 8 rfl (nI_1 _) (Nat.le_of_ble_eq_true rfl) rfl ?_
          refine g_goto F (tgt := 12) (dk dX5_addSound 40 rfl) (by decide) ?_
          refine g_lv (lv' := [(0, .ref (ad 1)), (1, .ref (ad 22)), (2, .int p), (3, .int t), (4, .int c), (5, .int (nI m)), (6, .int h1c), (7, .int (nI ((i + 1))))]) [2, 3, 4, 5, 6, 7, 8, 0] rfl ?_
          exact ih (i + 1) h1c (upd w i SIL) E71 (by omega) hE71 (fun j hj => ((hO71 j (by omega)).trans (hfr12 j (by omega)))) (by omega) (rowS (g := (hvC ne pl of dr mu v01 p t c)) hw (if_neg b29).symm) (by rw [hcC_f b29, hb])
  refine g_lv (lv' := [(0, .ref (ad 1)), (1, .ref (ad 22)), (2, .int p), (3, .int t), (4, .int c), (5, .int (nI m)), (6, .int 0), (7, .int 0)]) [3, 4, 5, 6, 7, 2, 1, 0] rfl ?_
  exact K12 _ 0 0 w0 E (Nat.lt_succ_self _) hp5 (fun j _ => rfl) (by omega) (fun e he => absurd he (Nat.not_lt_zero e)) rfl
abbrev rm_X3_heardBy : Room := { frames := 0, cells := 0, slots := 0, locals := 0 }
set_option maxHeartbeats 4000000 in
set_option maxRecDepth 100000 in
theorem c_X3_heardBy {l : Launch} {D : va_G} {cA : Nat → ClassId} {ad : Nat → Nat} {E : Nat → va_E} {m e : Nat} {R : Nat → Nat → Int32} (h22 : E 22 = .inr (3, [.ref (ad 23), .ref (ad 24), .ref (ad 25), .ref (ad 26), .int (nI m)])) (h26 : E 26 = .inl (cA 5, 10, .inr (.inr (.inr (.inr (fun i => some (ad (27 + i)))))))) (hR : ∀ i, i < 10 → E (27 + i) = .inl (cA 0, 10, .inl (R i))) (hm : m ≤ 10) (he : e < 10) : CtI l D cA yX3_heardBy cX3_heardBy 4 .int rm_X3_heardBy 235 ad E [.ref (ad 22), .int (nI e)] (fun x E' => (nI ((kcC R e m))) = x ∧ E = E') := by
  refine CtI.of (by decide +kernel) (Nat.le_of_ble_eq_true rfl) (fun X F hret => ?_)
  have F : Fr "ThumpEars$Sounds" cX3_heardBy 4 D cA X := F
  refine (show GG rm_X3_heardBy 4 l D X 0 0 235 ad E 0 [(0, .ref (ad 22)), (1, .int (nI e))] [] from ?_)
  refine g_iconst F (q := 1) (v := 0) (dk dX3_heardBy 0 rfl) rfl (by decide) ?_
  refine g_istore_n F (q := 2) (lv' := [(2, .int 0), (0, .ref (ad 22)), (1, .int (nI e))]) (dk dX3_heardBy 1 rfl) rfl rfl (Nat.le_of_ble_eq_true rfl) rfl ?_
  refine g_iconst F (q := 3) (v := 0) (dk dX3_heardBy 2 rfl) rfl (by decide) ?_
  refine g_istore_n F (q := 4) (lv' := [(3, .int 0), (2, .int 0), (0, .ref (ad 22)), (1, .int (nI e))]) (dk dX3_heardBy 3 rfl) rfl rfl (Nat.le_of_ble_eq_true rfl) rfl ?_
  have K4 : ∀ (fu : Nat) (i : Nat) (c1 : Nat), m - i < fu → (hi : i ≤ m) → (hc : c1 = kcC R e i) → GG rm_X3_heardBy 4 l D X 0 0 235 ad E 4 [(0, .ref (ad 22)), (1, .int (nI e)), (2, .int (nI c1)), (3, .int (nI i))] [] := by
    intro fu
    induction fu with
    | zero => intro i c1 hfu_; exact absurd hfu_ (Nat.not_lt_zero _)
    | succ fu ih =>
      intro i c1 hfu_ hi hc
      refine g_iload_n F (q := 5) (dk dX3_heardBy 4 rfl) rfl rfl 3 rfl ?_
      refine g_aload_n F (q := 6) (dk dX3_heardBy 5 rfl) rfl rfl 0 rfl ?_
      refine g_getf F (q := 9) h22 rfl inX3 (by omega) (j := 4) (by decide) tq_57 rfl rfl (dk dX3_heardBy 6 rfl) rfl ?_
      refine g_icmp_ge F (q := 12) (tgt := 34) (dk dX3_heardBy 7 rfl) (by decide) rfl (fun c9 => ?_) (fun c9 => ?_)
      · have nc9 : m ≤ i := (nI_leI (a := m) (b := i) (by omega) (by omega)).mp c9
        refine g_iload_n F (q := 35) (dk dX3_heardBy 19 rfl) rfl rfl 2 rfl ?_
        refine hret (nI c1) E _ _ (dk dX3_heardBy 20 rfl) (nint _) ?_
        exact ⟨by rw [show m = i by omega, hc], rfl⟩
      · have nc9 : ¬ m ≤ i := fun h => c9 ((nI_leI (a := m) (b := i) (by omega) (by omega)).mpr h)
        refine g_aload_n F (q := 13) (dk dX3_heardBy 8 rfl) rfl rfl 0 rfl ?_
        refine g_getf F (q := 16) h22 rfl inX3 (by omega) (j := 3) (by decide) tq_52 rfl rfl (dk dX3_heardBy 9 rfl) rfl ?_
        refine g_iload_n F (q := 17) (dk dX3_heardBy 10 rfl) rfl rfl 3 rfl ?_
        refine g_aald5 F (q := 18) i h26 (by omega) rfl (by omega) (by decide) rfl (dk dX3_heardBy 11 rfl) rfl ?_
        refine g_iload_n F (q := 19) (dk dX3_heardBy 12 rfl) rfl rfl 1 rfl ?_
        have hc1 : E ((27 + i)) = .inl (cA 0, 10, .inl (R i)) := (hR i (by omega))
        refine g_iald F (q := 20) e hc1 (by omega) rfl (by omega) (by decide) (dk dX3_heardBy 13 rfl) rfl ?_
        refine g_ldc F (q := 22) (v := (-1000000)) (dk dX3_heardBy 14 rfl) rfl tq_412 ?_
        refine g_sti (y := SIL) rfl ?_
        refine g_icmp_eq F (q := 25) (tgt := 28) (dk dX3_heardBy 15 rfl) (by decide) rfl (fun c22 => ?_) (fun c22 => ?_)
        · refine g_iinc F (q := 31) (v := (nI ((i + 1)))) (lv' := [(3, .int (nI ((i + 1)))), (0, .ref (ad 22)), (1, .int (nI e)), (2, .int (nI c1))]) (dk dX3_heardBy 17 rfl) rfl 3 rfl (nI_1 _) (Nat.le_of_ble_eq_true rfl) rfl ?_
          refine g_goto F (tgt := 4) (dk dX3_heardBy 18 rfl) (by decide) ?_
          refine g_lv (lv' := [(0, .ref (ad 22)), (1, .int (nI e)), (2, .int (nI c1)), (3, .int (nI ((i + 1))))]) [1, 2, 3, 0] rfl ?_
          exact ih (i + 1) c1 (by omega) (by omega) (by unfold kcC; rw [if_pos c22, hc])
        · refine g_iinc F (q := 28) (v := (nI ((c1 + 1)))) (lv' := [(2, .int (nI ((c1 + 1)))), (0, .ref (ad 22)), (1, .int (nI e)), (3, .int (nI i))]) (dk dX3_heardBy 16 rfl) rfl 2 rfl (nI_1 _) (Nat.le_of_ble_eq_true rfl) rfl ?_
          refine g_iinc F (q := 31) (v := (nI ((i + 1)))) (lv' := [(3, .int (nI ((i + 1)))), (2, .int (nI ((c1 + 1)))), (0, .ref (ad 22)), (1, .int (nI e))]) (dk dX3_heardBy 17 rfl) rfl 3 rfl (nI_1 _) (Nat.le_of_ble_eq_true rfl) rfl ?_
          refine g_goto F (tgt := 4) (dk dX3_heardBy 18 rfl) (by decide) ?_
          refine g_lv (lv' := [(0, .ref (ad 22)), (1, .int (nI e)), (2, .int (nI ((c1 + 1)))), (3, .int (nI ((i + 1))))]) [2, 3, 1, 0] rfl ?_
          exact ih (i + 1) (c1 + 1) (by omega) (by omega) (by unfold kcC; rw [if_neg c22, hc])
  refine g_lv (lv' := [(0, .ref (ad 22)), (1, .int (nI e)), (2, .int 0), (3, .int 0)]) [2, 3, 1, 0] rfl ?_
  exact K4 _ 0 0 (Nat.lt_succ_self _) (by omega) rfl
theorem kv_X3_heardBy : KV yX3_heardBy "ThumpEars$Sounds" cX3_heardBy 4 (some .int) 1 := ⟨tq_409, tq_410, tq_11, tq_411, by decide +kernel⟩
