abbrev rm_X3_copyFrom : Room := { frames := 1, cells := 0, slots := 0, locals := 40 }
set_option maxHeartbeats 4000000 in
set_option maxRecDepth 100000 in
theorem c_X3_copyFrom {l : Launch} {D : va_G} {cA : Nat → ClassId} {ad : Nat → Nat} {E : Nat → va_E} {kb ko : Nat} {zo zb : Int32} {op ot oc bp bt bc : Nat → Int32} {R S : Nat → Nat → Int32} (ho0 : E ko = .inr (3, [.ref (ad ((ko + 1))), .ref (ad ((ko + 2))), .ref (ad ((ko + 3))), .ref (ad ((ko + 4))), .int zo])) (hb0 : E kb = .inr (3, [.ref (ad ((kb + 1))), .ref (ad ((kb + 2))), .ref (ad ((kb + 3))), .ref (ad ((kb + 4))), .int zb])) (ho1 : E ((ko + 1)) = .inl (cA 0, 10, .inl op)) (hb1 : E ((kb + 1)) = .inl (cA 0, 10, .inl bp)) (ho2 : E ((ko + 2)) = .inl (cA 0, 10, .inl ot)) (hb2 : E ((kb + 2)) = .inl (cA 0, 10, .inl bt)) (ho3 : E ((ko + 3)) = .inl (cA 0, 10, .inl oc)) (hb3 : E ((kb + 3)) = .inl (cA 0, 10, .inl bc)) (ho4 : E ((ko + 4)) = .inl (cA 5, 10, .inr (.inr (.inr (.inr (fun i => some (ad (ko + 5 + i)))))))) (hb4 : E ((kb + 4)) = .inl (cA 5, 10, .inr (.inr (.inr (.inr (fun i => some (ad (kb + 5 + i)))))))) (hRb : ∀ i, i < 10 → E (kb + 5 + i) = .inl (cA 0, 10, .inl (R i))) (hRo : ∀ i, i < 10 → E (ko + 5 + i) = .inl (cA 0, 10, .inl (S i))) (hd : kb + 15 ≤ ko ∨ ko + 15 ≤ kb) (hbn : kb + 15 ≤ 243) (hon : ko + 15 ≤ 243) : CtV l D cA yX3_copyFrom cX3_copyFrom 3 rm_X3_copyFrom 243 ad E [.ref (ad kb), .ref (ad ko)] (fun E' => ∃ (a1 : Nat → Int32) (a2 : Nat → Int32) (a3 : Nat → Int32) (R2 : Nat → Nat → Int32), E' kb = .inr (3, [.ref (ad ((kb + 1))), .ref (ad ((kb + 2))), .ref (ad ((kb + 3))), .ref (ad ((kb + 4))), .int zo]) ∧ E' ((kb + 1)) = .inl (cA 0, 10, .inl a1) ∧ E' ((kb + 2)) = .inl (cA 0, 10, .inl a2) ∧ E' ((kb + 3)) = .inl (cA 0, 10, .inl a3) ∧ ∀ i, i < 10 → E' (kb + 5 + i) = .inl (cA 0, 10, .inl (R2 i)) ∧ (∀ x, x < 10 → a1 x = op x) ∧ (∀ x, x < 10 → a2 x = ot x) ∧ (∀ x, x < 10 → a3 x = oc x) ∧ (∀ j, j < 10 → ∀ x, x < 10 → R2 j x = S j x) ∧ ∀ j, (j < kb ∨ kb + 15 ≤ j) → E' j = E j) := by
  refine CtV.of (by decide +kernel) (Nat.le_of_ble_eq_true rfl) (fun X F hret => ?_)
  have F : Fr "ThumpEars$Sounds" cX3_copyFrom 3 D cA X := F
  refine (show GG rm_X3_copyFrom 3 l D X 0 0 243 ad E 0 [(0, .ref (ad kb)), (1, .ref (ad ko))] [] from ?_)
  refine g_aload_n F (q := 1) (dk dX3_copyFrom 0 rfl) rfl rfl 1 rfl ?_
  refine g_getf F (q := 4) ho0 rfl inX3 (by omega) (j := 0) (by decide) tq_72 rfl rfl (dk dX3_copyFrom 1 rfl) rfl ?_
  refine g_iconst F (q := 5) (v := 0) (dk dX3_copyFrom 2 rfl) rfl (by decide) ?_
  refine g_aload_n F (q := 6) (dk dX3_copyFrom 3 rfl) rfl rfl 0 rfl ?_
  refine g_getf F (q := 9) hb0 rfl inX3 (by omega) (j := 0) (by decide) tq_72 rfl rfl (dk dX3_copyFrom 4 rfl) rfl ?_
  refine g_iconst F (q := 10) (v := 0) (dk dX3_copyFrom 5 rfl) rfl (by decide) ?_
  refine g_bipush F (q := 12) (v := 10) (dk dX3_copyFrom 6 rfl) rfl (by decide) ?_
  refine g_copyi F (q := 15) ho1 hb1 (by omega) (by omega) tq_320 tq_315 tq_314 tq_48 (by decide) (Nat.le_of_ble_eq_true rfl) (dk dX3_copyFrom 7 rfl) rfl (fun E12 g12 hE12 hg12 hO12 => ?_)
  refine g_aload_n F (q := 16) (dk dX3_copyFrom 8 rfl) rfl rfl 1 rfl ?_
  have hc1 := (hO12 ko (by omega)).trans ho0
  refine g_getf F (q := 19) hc1 rfl inX3 (by omega) (j := 1) (by decide) tq_76 rfl rfl (dk dX3_copyFrom 9 rfl) rfl ?_
  refine g_iconst F (q := 20) (v := 0) (dk dX3_copyFrom 10 rfl) rfl (by decide) ?_
  refine g_aload_n F (q := 21) (dk dX3_copyFrom 11 rfl) rfl rfl 0 rfl ?_
  have hc2 := (hO12 kb (by omega)).trans hb0
  refine g_getf F (q := 24) hc2 rfl inX3 (by omega) (j := 1) (by decide) tq_76 rfl rfl (dk dX3_copyFrom 12 rfl) rfl ?_
  refine g_iconst F (q := 25) (v := 0) (dk dX3_copyFrom 13 rfl) rfl (by decide) ?_
  refine g_bipush F (q := 27) (v := 10) (dk dX3_copyFrom 14 rfl) rfl (by decide) ?_
  have hc3 := (hO12 ((ko + 2)) (by omega)).trans ho2
  have hc4 := (hO12 ((kb + 2)) (by omega)).trans hb2
  refine g_copyi F (q := 30) hc3 hc4 (by omega) (by omega) tq_320 tq_315 tq_314 tq_48 (by decide) (Nat.le_of_ble_eq_true rfl) (dk dX3_copyFrom 15 rfl) rfl (fun E27 g27 hE27 hg27 hO27 => ?_)
  refine g_aload_n F (q := 31) (dk dX3_copyFrom 16 rfl) rfl rfl 1 rfl ?_
  have hc5 := (hO27 ko (by omega)).trans hc1
  refine g_getf F (q := 34) hc5 rfl inX3 (by omega) (j := 2) (by decide) tq_80 rfl rfl (dk dX3_copyFrom 17 rfl) rfl ?_
  refine g_iconst F (q := 35) (v := 0) (dk dX3_copyFrom 18 rfl) rfl (by decide) ?_
  refine g_aload_n F (q := 36) (dk dX3_copyFrom 19 rfl) rfl rfl 0 rfl ?_
  have hc6 := (hO27 kb (by omega)).trans hc2
  refine g_getf F (q := 39) hc6 rfl inX3 (by omega) (j := 2) (by decide) tq_80 rfl rfl (dk dX3_copyFrom 20 rfl) rfl ?_
  refine g_iconst F (q := 40) (v := 0) (dk dX3_copyFrom 21 rfl) rfl (by decide) ?_
  refine g_bipush F (q := 42) (v := 10) (dk dX3_copyFrom 22 rfl) rfl (by decide) ?_
  have hc7 := (hO12 ((ko + 3)) (by omega)).trans ho3
  have hc8 := (hO27 ((ko + 3)) (by omega)).trans hc7
  have hc9 := (hO12 ((kb + 3)) (by omega)).trans hb3
  have hc10 := (hO27 ((kb + 3)) (by omega)).trans hc9
  refine g_copyi F (q := 45) hc8 hc10 (by omega) (by omega) tq_320 tq_315 tq_314 tq_48 (by decide) (Nat.le_of_ble_eq_true rfl) (dk dX3_copyFrom 23 rfl) rfl (fun E42 g42 hE42 hg42 hO42 => ?_)
  refine g_iconst F (q := 46) (v := 0) (dk dX3_copyFrom 24 rfl) rfl (by decide) ?_
  refine g_istore_n F (q := 47) (lv' := [(2, .int 0), (0, .ref (ad kb)), (1, .ref (ad ko))]) (dk dX3_copyFrom 25 rfl) rfl rfl (Nat.le_of_ble_eq_true rfl) rfl ?_
  have K47 : ∀ (fu : Nat) (i : Nat) (R1 : Nat → Nat → Int32) (E1 : Nat → va_E), 10 - i < fu → (hR1 : ∀ i, i < 10 → E1 (kb + 5 + i) = .inl (cA 0, 10, .inl (R1 i))) → (hfr47 : ∀ j, (j < kb + 5 ∨ kb + 15 ≤ j) → E1 j = E42 j) → (hi : i ≤ 10) → (hq : ∀ j, j < i → ∀ x, x < 10 → R1 j x = S j x) → GG rm_X3_copyFrom 3 l D X 0 0 243 ad E1 47 [(0, .ref (ad kb)), (1, .ref (ad ko)), (2, .int (nI i))] [] := by
    intro fu
    induction fu with
    | zero => intro i R1 E1 hfu_; exact absurd hfu_ (Nat.not_lt_zero _)
    | succ fu ih =>
      intro i R1 E1 hfu_ hR1 hfr47 hi hq
      refine g_iload_n F (q := 48) (dk dX3_copyFrom 26 rfl) rfl rfl 2 rfl ?_
      refine g_bipush F (q := 50) (v := 10) (dk dX3_copyFrom 27 rfl) rfl (by decide) ?_
      refine g_icmp_ge F (q := 53) (tgt := 78) (dk dX3_copyFrom 28 rfl) (by decide) rfl (fun c50 => ?_) (fun c50 => ?_)
      · have nc50 : 10 ≤ i := (nI_leI (a := 10) (b := i) (by omega) (by omega)).mp c50
        refine g_aload_n F (q := 79) (dk dX3_copyFrom 43 rfl) rfl rfl 0 rfl ?_
        refine g_aload_n F (q := 80) (dk dX3_copyFrom 44 rfl) rfl rfl 1 rfl ?_
        have hc11 := (hO42 ko (by omega)).trans hc5
        have hc12 := (hfr47 ko (by omega)).trans hc11
        refine g_getf F (q := 83) hc12 rfl inX3 (by omega) (j := 4) (by decide) tq_89 rfl rfl (dk dX3_copyFrom 45 rfl) rfl ?_
        have hc13 := (hO42 kb (by omega)).trans hc6
        have hc14 := (hfr47 kb (by omega)).trans hc13
        refine g_putf F (q := 86) (ty := .int) hc14 rfl inX3 tyX3 tyX3_ok nmX3 (by omega) (j := 4) (by decide) tq_89 rfl rfl (by decide +kernel) rfl rfl (Nat.le_of_ble_eq_true rfl) (dk dX3_copyFrom 46 rfl) rfl (fun E83 hE83 hO83 => ?_)
        have hE83 : E83 kb = .inr (3, [.ref (ad ((kb + 1))), .ref (ad ((kb + 2))), .ref (ad ((kb + 3))), .ref (ad ((kb + 4))), .int zo]) := hE83
        have hc15 := (hO27 ((kb + 1)) (by omega)).trans hE12
        have hc16 := (hO42 ((kb + 1)) (by omega)).trans hc15
        have hc17 := (hfr47 ((kb + 1)) (by omega)).trans hc16
        have hc18 := (hO83 ((kb + 1)) (by omega)).trans hc17
        have hc19 := (hO42 ((kb + 2)) (by omega)).trans hE27
        have hc20 := (hfr47 ((kb + 2)) (by omega)).trans hc19
        have hc21 := (hO83 ((kb + 2)) (by omega)).trans hc20
        have hc22 := (hfr47 ((kb + 3)) (by omega)).trans hE42
        have hc23 := (hO83 ((kb + 3)) (by omega)).trans hc22
        have hb24 : ∀ i, i < 10 → E83 (kb + 5 + i) = .inl (cA 0, 10, .inl (R1 i)) := (fun i hi => (hO83 (kb + 5 + i) (by omega)).trans (hR1 i hi))
        refine hret E83 _ _ (dk dX3_copyFrom 47 rfl) ?_
        exact ⟨g12, g27, g42, R1, hE83, hc18, hc21, hc23, hb24, hg12, hg27, hg42, (fun j hj => hq j (by omega)), (fun j hj => (((((hO83 j (by omega)).trans (hfr47 j (by omega))).trans (hO42 j (by omega))).trans (hO27 j (by omega))).trans (hO12 j (by omega))))⟩
      · have nc50 : ¬ 10 ≤ i := fun h => c50 ((nI_leI (a := 10) (b := i) (by omega) (by omega)).mpr h)
        refine g_aload_n F (q := 54) (dk dX3_copyFrom 29 rfl) rfl rfl 1 rfl ?_
        have hc25 := (hO42 ko (by omega)).trans hc5
        have hc26 := (hfr47 ko (by omega)).trans hc25
        refine g_getf F (q := 57) hc26 rfl inX3 (by omega) (j := 3) (by decide) tq_84 rfl rfl (dk dX3_copyFrom 30 rfl) rfl ?_
        refine g_iload_n F (q := 58) (dk dX3_copyFrom 31 rfl) rfl rfl 2 rfl ?_
        have hc27 := (hO12 ((ko + 4)) (by omega)).trans ho4
        have hc28 := (hO27 ((ko + 4)) (by omega)).trans hc27
        have hc29 := (hO42 ((ko + 4)) (by omega)).trans hc28
        have hc30 := (hfr47 ((ko + 4)) (by omega)).trans hc29
        refine g_aald5 F (q := 59) i hc30 (by omega) rfl (by omega) (by decide) rfl (dk dX3_copyFrom 32 rfl) rfl ?_
        refine g_iconst F (q := 60) (v := 0) (dk dX3_copyFrom 33 rfl) rfl (by decide) ?_
        refine g_aload_n F (q := 61) (dk dX3_copyFrom 34 rfl) rfl rfl 0 rfl ?_
        have hc31 := (hO42 kb (by omega)).trans hc6
        have hc32 := (hfr47 kb (by omega)).trans hc31
        refine g_getf F (q := 64) hc32 rfl inX3 (by omega) (j := 3) (by decide) tq_84 rfl rfl (dk dX3_copyFrom 35 rfl) rfl ?_
        refine g_iload_n F (q := 65) (dk dX3_copyFrom 36 rfl) rfl rfl 2 rfl ?_
        have hc33 := (hO12 ((kb + 4)) (by omega)).trans hb4
        have hc34 := (hO27 ((kb + 4)) (by omega)).trans hc33
        have hc35 := (hO42 ((kb + 4)) (by omega)).trans hc34
        have hc36 := (hfr47 ((kb + 4)) (by omega)).trans hc35
        refine g_aald5 F (q := 66) i hc36 (by omega) rfl (by omega) (by decide) rfl (dk dX3_copyFrom 37 rfl) rfl ?_
        refine g_iconst F (q := 67) (v := 0) (dk dX3_copyFrom 38 rfl) rfl (by decide) ?_
        refine g_bipush F (q := 69) (v := 10) (dk dX3_copyFrom 39 rfl) rfl (by decide) ?_
        have hb37 : ∀ i, i < 10 → E12 (ko + 5 + i) = .inl (cA 0, 10, .inl (S i)) := (fun i hi => (hO12 (ko + 5 + i) (by omega)).trans (hRo i hi))
        have hb38 : ∀ i, i < 10 → E27 (ko + 5 + i) = .inl (cA 0, 10, .inl (S i)) := (fun i hi => (hO27 (ko + 5 + i) (by omega)).trans (hb37 i hi))
        have hb39 : ∀ i, i < 10 → E42 (ko + 5 + i) = .inl (cA 0, 10, .inl (S i)) := (fun i hi => (hO42 (ko + 5 + i) (by omega)).trans (hb38 i hi))
        have hb40 : ∀ i, i < 10 → E1 (ko + 5 + i) = .inl (cA 0, 10, .inl (S i)) := (fun i hi => (hfr47 (ko + 5 + i) (by omega)).trans (hb39 i hi))
        have hc41 : E1 ((ko + 5 + i)) = .inl (cA 0, 10, .inl (S i)) := (hb40 i (by omega))
        have hc42 : E1 ((kb + 5 + i)) = .inl (cA 0, 10, .inl (R1 i)) := (hR1 i (by omega))
        refine g_copyi F (q := 72) hc41 hc42 (by omega) (by omega) tq_320 tq_315 tq_314 tq_48 (by decide) (Nat.le_of_ble_eq_true rfl) (dk dX3_copyFrom 40 rfl) rfl (fun E69 g69 hE69 hg69 hO69 => ?_)
        refine g_iinc F (q := 75) (v := (nI ((i + 1)))) (lv' := [(2, .int (nI ((i + 1)))), (0, .ref (ad kb)), (1, .ref (ad ko))]) (dk dX3_copyFrom 41 rfl) rfl 2 rfl (nI_1 _) (Nat.le_of_ble_eq_true rfl) rfl ?_
        refine g_goto F (tgt := 47) (dk dX3_copyFrom 42 rfl) (by decide) ?_
        refine g_lv (lv' := [(0, .ref (ad kb)), (1, .ref (ad ko)), (2, .int (nI ((i + 1))))]) [1, 2, 0] rfl ?_
        exact ih (i + 1) (vset R1 i g69) E69 (by omega) (rowsPut (b := kb + 5) (by omega) hR1 hE69 hO69) (fun j hj => ((hO69 j (by omega)).trans (hfr47 j (by omega)))) (by omega) (rowsEq hq hg69)
  refine g_lv (lv' := [(0, .ref (ad kb)), (1, .ref (ad ko)), (2, .int 0)]) [1, 2, 0] rfl ?_
  have hb43 : ∀ i, i < 10 → E12 (kb + 5 + i) = .inl (cA 0, 10, .inl (R i)) := (fun i hi => (hO12 (kb + 5 + i) (by omega)).trans (hRb i hi))
  have hb44 : ∀ i, i < 10 → E27 (kb + 5 + i) = .inl (cA 0, 10, .inl (R i)) := (fun i hi => (hO27 (kb + 5 + i) (by omega)).trans (hb43 i hi))
  have hb45 : ∀ i, i < 10 → E42 (kb + 5 + i) = .inl (cA 0, 10, .inl (R i)) := (fun i hi => (hO42 (kb + 5 + i) (by omega)).trans (hb44 i hi))
  exact K47 _ 0 R E42 (Nat.lt_succ_self _) hb45 (fun j _ => rfl) (by omega) (fun j hj => absurd hj (Nat.not_lt_zero j))
theorem kv_X3_copyFrom : KV yX3_copyFrom "ThumpEars$Sounds" cX3_copyFrom 3 (none) 1 := ⟨tq_317, tq_318, tq_42, tq_319, by decide +kernel⟩
