abbrev rm_X3_copyFrom : Room := { frames := 1, cells := 0, slots := 0, locals := 40 }
set_option maxHeartbeats 4000000 in
set_option maxRecDepth 100000 in
theorem c_X3_copyFrom {l : Launch} {D : va_G} {cA : Nat → ClassId} {ad : Nat → Nat} {E : Nat → va_E} {kb ko : Nat} {zo zb : Int32} {op ot oc bp bt bc : Nat → Int32} {R S : Nat → Nat → Int32} (ho0 : E ko = .inr (3, [.ref (ad ((ko + 1))), .ref (ad ((ko + 2))), .ref (ad ((ko + 3))), .ref (ad ((ko + 4))), .int zo])) (hb0 : E kb = .inr (3, [.ref (ad ((kb + 1))), .ref (ad ((kb + 2))), .ref (ad ((kb + 3))), .ref (ad ((kb + 4))), .int zb])) (ho1 : E ((ko + 1)) = .inl (cA 0, 10, .inl op)) (hb1 : E ((kb + 1)) = .inl (cA 0, 10, .inl bp)) (ho2 : E ((ko + 2)) = .inl (cA 0, 10, .inl ot)) (hb2 : E ((kb + 2)) = .inl (cA 0, 10, .inl bt)) (ho3 : E ((ko + 3)) = .inl (cA 0, 10, .inl oc)) (hb3 : E ((kb + 3)) = .inl (cA 0, 10, .inl bc)) (ho4 : E ((ko + 4)) = .inl (cA 5, 10, .inr (.inr (.inr (.inr (fun i => some (ad (ko + 5 + i)))))))) (hb4 : E ((kb + 4)) = .inl (cA 5, 10, .inr (.inr (.inr (.inr (fun i => some (ad (kb + 5 + i)))))))) (hRb : ∀ i, i < 10 → E (kb + 5 + i) = .inl (cA 0, 10, .inl (R i))) (hRo : ∀ i, i < 10 → E (ko + 5 + i) = .inl (cA 0, 10, .inl (S i))) (hd : kb + 15 ≤ ko ∨ ko + 15 ≤ kb) (hbn : kb + 15 ≤ 235) (hon : ko + 15 ≤ 235) : CtV l D cA yX3_copyFrom cX3_copyFrom 3 rm_X3_copyFrom 235 ad E [.ref (ad kb), .ref (ad ko)] (fun E' => ∃ (a1 : Nat → Int32) (a2 : Nat → Int32) (a3 : Nat → Int32) (R2 : Nat → Nat → Int32), E' kb = .inr (3, [.ref (ad ((kb + 1))), .ref (ad ((kb + 2))), .ref (ad ((kb + 3))), .ref (ad ((kb + 4))), .int zo]) ∧ E' ((kb + 1)) = .inl (cA 0, 10, .inl a1) ∧ E' ((kb + 2)) = .inl (cA 0, 10, .inl a2) ∧ E' ((kb + 3)) = .inl (cA 0, 10, .inl a3) ∧ E' ((kb + 4)) = .inl (cA 5, 10, .inr (.inr (.inr (.inr (fun i => some (ad (kb + 5 + i))))))) ∧ (∀ i, i < 10 → E' (kb + 5 + i) = .inl (cA 0, 10, .inl (R2 i))) ∧ (∀ x, x < 10 → a1 x = op x) ∧ (∀ x, x < 10 → a2 x = ot x) ∧ (∀ x, x < 10 → a3 x = oc x) ∧ (∀ j, j < 10 → ∀ x, x < 10 → R2 j x = S j x) ∧ ∀ j, (j < kb ∨ kb + 15 ≤ j) → E' j = E j) := by
  refine CtV.of (by decide +kernel) (Nat.le_of_ble_eq_true rfl) (fun X F hret => ?_)
  have F : Fr "ThumpEars$Sounds" cX3_copyFrom 3 D cA X := F
  refine (show GG rm_X3_copyFrom 3 l D X 0 0 235 ad E 0 [(0, .ref (ad kb)), (1, .ref (ad ko))] [] from ?_)
  refine g_aload_n F (q := 1) (dk dX3_copyFrom 0 rfl) rfl rfl 1 rfl ?_
  refine g_getf F (q := 4) ho0 rfl inX3 (by omega) (j := 0) (by decide) tq_40 rfl rfl (dk dX3_copyFrom 1 rfl) rfl ?_
  refine g_iconst F (q := 5) (v := 0) (dk dX3_copyFrom 2 rfl) rfl (by decide) ?_
  refine g_aload_n F (q := 6) (dk dX3_copyFrom 3 rfl) rfl rfl 0 rfl ?_
  refine g_getf F (q := 9) hb0 rfl inX3 (by omega) (j := 0) (by decide) tq_40 rfl rfl (dk dX3_copyFrom 4 rfl) rfl ?_
  refine g_iconst F (q := 10) (v := 0) (dk dX3_copyFrom 5 rfl) rfl (by decide) ?_
  refine g_bipush F (q := 12) (v := 10) (dk dX3_copyFrom 6 rfl) rfl (by decide) ?_
  refine g_copyi F (q := 15) ho1 hb1 (by omega) (by omega) tq_288 tq_283 tq_282 tq_16 (by decide) (Nat.le_of_ble_eq_true rfl) (dk dX3_copyFrom 7 rfl) rfl (fun E12 g12 hE12 hg12 hO12 => ?_)
  refine g_aload_n F (q := 16) (dk dX3_copyFrom 8 rfl) rfl rfl 1 rfl ?_
  have hc1 := (hO12 ko (by omega)).trans ho0
  refine g_getf F (q := 19) hc1 rfl inX3 (by omega) (j := 1) (by decide) tq_44 rfl rfl (dk dX3_copyFrom 9 rfl) rfl ?_
  refine g_iconst F (q := 20) (v := 0) (dk dX3_copyFrom 10 rfl) rfl (by decide) ?_
  refine g_aload_n F (q := 21) (dk dX3_copyFrom 11 rfl) rfl rfl 0 rfl ?_
  have hc2 := (hO12 kb (by omega)).trans hb0
  refine g_getf F (q := 24) hc2 rfl inX3 (by omega) (j := 1) (by decide) tq_44 rfl rfl (dk dX3_copyFrom 12 rfl) rfl ?_
  refine g_iconst F (q := 25) (v := 0) (dk dX3_copyFrom 13 rfl) rfl (by decide) ?_
  refine g_bipush F (q := 27) (v := 10) (dk dX3_copyFrom 14 rfl) rfl (by decide) ?_
  have hc3 := (hO12 ((ko + 2)) (by omega)).trans ho2
  have hc4 := (hO12 ((kb + 2)) (by omega)).trans hb2
  refine g_copyi F (q := 30) hc3 hc4 (by omega) (by omega) tq_288 tq_283 tq_282 tq_16 (by decide) (Nat.le_of_ble_eq_true rfl) (dk dX3_copyFrom 15 rfl) rfl (fun E27 g27 hE27 hg27 hO27 => ?_)
  refine g_aload_n F (q := 31) (dk dX3_copyFrom 16 rfl) rfl rfl 1 rfl ?_
  have hc5 := (hO27 ko (by omega)).trans hc1
  refine g_getf F (q := 34) hc5 rfl inX3 (by omega) (j := 2) (by decide) tq_48 rfl rfl (dk dX3_copyFrom 17 rfl) rfl ?_
  refine g_iconst F (q := 35) (v := 0) (dk dX3_copyFrom 18 rfl) rfl (by decide) ?_
  refine g_aload_n F (q := 36) (dk dX3_copyFrom 19 rfl) rfl rfl 0 rfl ?_
  have hc6 := (hO27 kb (by omega)).trans hc2
  refine g_getf F (q := 39) hc6 rfl inX3 (by omega) (j := 2) (by decide) tq_48 rfl rfl (dk dX3_copyFrom 20 rfl) rfl ?_
  refine g_iconst F (q := 40) (v := 0) (dk dX3_copyFrom 21 rfl) rfl (by decide) ?_
  refine g_bipush F (q := 42) (v := 10) (dk dX3_copyFrom 22 rfl) rfl (by decide) ?_
  have hc7 := (hO12 ((ko + 3)) (by omega)).trans ho3
  have hc8 := (hO27 ((ko + 3)) (by omega)).trans hc7
  have hc9 := (hO12 ((kb + 3)) (by omega)).trans hb3
  have hc10 := (hO27 ((kb + 3)) (by omega)).trans hc9
  refine g_copyi F (q := 45) hc8 hc10 (by omega) (by omega) tq_288 tq_283 tq_282 tq_16 (by decide) (Nat.le_of_ble_eq_true rfl) (dk dX3_copyFrom 23 rfl) rfl (fun E42 g42 hE42 hg42 hO42 => ?_)
  refine g_iconst F (q := 46) (v := 0) (dk dX3_copyFrom 24 rfl) rfl (by decide) ?_
  refine g_istore_n F (q := 47) (lv' := [(2, .int 0), (0, .ref (ad kb)), (1, .ref (ad ko))]) (dk dX3_copyFrom 25 rfl) rfl rfl (Nat.le_of_ble_eq_true rfl) rfl ?_
  have K47 : ∀ (fu : Nat) (i : Nat) (R1 : Nat → Nat → Int32) (E1 : Nat → va_E), 10 - i < fu → (hR1 : ∀ i, i < 10 → E1 (kb + 5 + i) = .inl (cA 0, 10, .inl (R1 i))) → (hfr47 : ∀ j, (j < kb + 5 ∨ kb + 15 ≤ j) → E1 j = E42 j) → (hi : i ≤ 10) → (hq : ∀ j, j < i → ∀ x, x < 10 → R1 j x = S j x) → GG rm_X3_copyFrom 3 l D X 0 0 235 ad E1 47 [(0, .ref (ad kb)), (1, .ref (ad ko)), (2, .int (nI i))] [] := by
    intro fu
    induction fu with
    | zero => intro i R1 E1 hfu_; exact absurd hfu_ (Nat.not_lt_zero _)
    | succ fu ih =>
      intro i R1 E1 hfu_ hR1 hfr47 hi hq
      refine g_iload_n F (q := 48) (dk dX3_copyFrom 26 rfl) rfl rfl 2 rfl ?_
      refine g_bipush F (q := 50) (v := 10) (dk dX3_copyFrom 27 rfl) rfl (by decide) ?_
      refine g_icmp_ge F (q := 53) (tgt := 78) (dk dX3_copyFrom 28 rfl) (by decide) rfl (fun c50 => ?_) (fun c50 => ?_)
      · have nc50 : 10 ≤ i := (nI_leI (a := 10) (b := i) (by omega) (by omega)).mp c50
        refine g_aload_n F (q := 79) (dk dX3_copyFrom 43 rfl) rfl rfl 0 rfl ?_
        refine g_aload_n F (q := 80) (dk dX3_copyFrom 44 rfl) rfl rfl 1 rfl ?_
        have hc11 := (hO42 ko (by omega)).trans hc5
        have hc12 := (hfr47 ko (by omega)).trans hc11
        refine g_getf F (q := 83) hc12 rfl inX3 (by omega) (j := 4) (by decide) tq_57 rfl rfl (dk dX3_copyFrom 45 rfl) rfl ?_
        have hc13 := (hO42 kb (by omega)).trans hc6
        have hc14 := (hfr47 kb (by omega)).trans hc13
        refine g_putf F (q := 86) (ty := .int) hc14 rfl inX3 tyX3 tyX3_ok nmX3 (by omega) (j := 4) (by decide) tq_57 rfl rfl (by decide +kernel) rfl rfl (Nat.le_of_ble_eq_true rfl) (dk dX3_copyFrom 46 rfl) rfl (fun E83 hE83 hO83 => ?_)
        have hE83 : E83 kb = .inr (3, [.ref (ad ((kb + 1))), .ref (ad ((kb + 2))), .ref (ad ((kb + 3))), .ref (ad ((kb + 4))), .int zo]) := hE83
        have hc15 := (hO27 ((kb + 1)) (by omega)).trans hE12
        have hc16 := (hO42 ((kb + 1)) (by omega)).trans hc15
        have hc17 := (hfr47 ((kb + 1)) (by omega)).trans hc16
        have hc18 := (hO83 ((kb + 1)) (by omega)).trans hc17
        have hc19 := (hO42 ((kb + 2)) (by omega)).trans hE27
        have hc20 := (hfr47 ((kb + 2)) (by omega)).trans hc19
        have hc21 := (hO83 ((kb + 2)) (by omega)).trans hc20
        have hc22 := (hfr47 ((kb + 3)) (by omega)).trans hE42
        have hc23 := (hO83 ((kb + 3)) (by omega)).trans hc22
        have hc24 := (hO12 ((kb + 4)) (by omega)).trans hb4
        have hc25 := (hO27 ((kb + 4)) (by omega)).trans hc24
        have hc26 := (hO42 ((kb + 4)) (by omega)).trans hc25
        have hc27 := (hfr47 ((kb + 4)) (by omega)).trans hc26
        have hc28 := (hO83 ((kb + 4)) (by omega)).trans hc27
        have hb29 : ∀ i, i < 10 → E83 (kb + 5 + i) = .inl (cA 0, 10, .inl (R1 i)) := (fun i hi => (hO83 (kb + 5 + i) (by omega)).trans (hR1 i hi))
        refine hret E83 _ _ (dk dX3_copyFrom 47 rfl) ?_
        exact ⟨g12, g27, g42, R1, hE83, hc18, hc21, hc23, hc28, hb29, hg12, hg27, hg42, (fun j hj => hq j (by omega)), (fun j hj => (((((hO83 j (by omega)).trans (hfr47 j (by omega))).trans (hO42 j (by omega))).trans (hO27 j (by omega))).trans (hO12 j (by omega))))⟩
      · have nc50 : ¬ 10 ≤ i := fun h => c50 ((nI_leI (a := 10) (b := i) (by omega) (by omega)).mpr h)
        refine g_aload_n F (q := 54) (dk dX3_copyFrom 29 rfl) rfl rfl 1 rfl ?_
        have hc30 := (hO42 ko (by omega)).trans hc5
        have hc31 := (hfr47 ko (by omega)).trans hc30
        refine g_getf F (q := 57) hc31 rfl inX3 (by omega) (j := 3) (by decide) tq_52 rfl rfl (dk dX3_copyFrom 30 rfl) rfl ?_
        refine g_iload_n F (q := 58) (dk dX3_copyFrom 31 rfl) rfl rfl 2 rfl ?_
        have hc32 := (hO12 ((ko + 4)) (by omega)).trans ho4
        have hc33 := (hO27 ((ko + 4)) (by omega)).trans hc32
        have hc34 := (hO42 ((ko + 4)) (by omega)).trans hc33
        have hc35 := (hfr47 ((ko + 4)) (by omega)).trans hc34
        refine g_aald5 F (q := 59) i hc35 (by omega) rfl (by omega) (by decide) rfl (dk dX3_copyFrom 32 rfl) rfl ?_
        refine g_iconst F (q := 60) (v := 0) (dk dX3_copyFrom 33 rfl) rfl (by decide) ?_
        refine g_aload_n F (q := 61) (dk dX3_copyFrom 34 rfl) rfl rfl 0 rfl ?_
        have hc36 := (hO42 kb (by omega)).trans hc6
        have hc37 := (hfr47 kb (by omega)).trans hc36
        refine g_getf F (q := 64) hc37 rfl inX3 (by omega) (j := 3) (by decide) tq_52 rfl rfl (dk dX3_copyFrom 35 rfl) rfl ?_
        refine g_iload_n F (q := 65) (dk dX3_copyFrom 36 rfl) rfl rfl 2 rfl ?_
        have hc38 := (hO12 ((kb + 4)) (by omega)).trans hb4
        have hc39 := (hO27 ((kb + 4)) (by omega)).trans hc38
        have hc40 := (hO42 ((kb + 4)) (by omega)).trans hc39
        have hc41 := (hfr47 ((kb + 4)) (by omega)).trans hc40
        refine g_aald5 F (q := 66) i hc41 (by omega) rfl (by omega) (by decide) rfl (dk dX3_copyFrom 37 rfl) rfl ?_
        refine g_iconst F (q := 67) (v := 0) (dk dX3_copyFrom 38 rfl) rfl (by decide) ?_
        refine g_bipush F (q := 69) (v := 10) (dk dX3_copyFrom 39 rfl) rfl (by decide) ?_
        have hb42 : ∀ i, i < 10 → E12 (ko + 5 + i) = .inl (cA 0, 10, .inl (S i)) := (fun i hi => (hO12 (ko + 5 + i) (by omega)).trans (hRo i hi))
        have hb43 : ∀ i, i < 10 → E27 (ko + 5 + i) = .inl (cA 0, 10, .inl (S i)) := (fun i hi => (hO27 (ko + 5 + i) (by omega)).trans (hb42 i hi))
        have hb44 : ∀ i, i < 10 → E42 (ko + 5 + i) = .inl (cA 0, 10, .inl (S i)) := (fun i hi => (hO42 (ko + 5 + i) (by omega)).trans (hb43 i hi))
        have hb45 : ∀ i, i < 10 → E1 (ko + 5 + i) = .inl (cA 0, 10, .inl (S i)) := (fun i hi => (hfr47 (ko + 5 + i) (by omega)).trans (hb44 i hi))
        have hc46 : E1 ((ko + 5 + i)) = .inl (cA 0, 10, .inl (S i)) := (hb45 i (by omega))
        have hc47 : E1 ((kb + 5 + i)) = .inl (cA 0, 10, .inl (R1 i)) := (hR1 i (by omega))
        refine g_copyi F (q := 72) hc46 hc47 (by omega) (by omega) tq_288 tq_283 tq_282 tq_16 (by decide) (Nat.le_of_ble_eq_true rfl) (dk dX3_copyFrom 40 rfl) rfl (fun E69 g69 hE69 hg69 hO69 => ?_)
        refine g_iinc F (q := 75) (v := (nI ((i + 1)))) (lv' := [(2, .int (nI ((i + 1)))), (0, .ref (ad kb)), (1, .ref (ad ko))]) (dk dX3_copyFrom 41 rfl) rfl 2 rfl (nI_1 _) (Nat.le_of_ble_eq_true rfl) rfl ?_
        refine g_goto F (tgt := 47) (dk dX3_copyFrom 42 rfl) (by decide) ?_
        refine g_lv (lv' := [(0, .ref (ad kb)), (1, .ref (ad ko)), (2, .int (nI ((i + 1))))]) [1, 2, 0] rfl ?_
        exact ih (i + 1) (vset R1 i g69) E69 (by omega) (rowsPut (b := kb + 5) (by omega) hR1 hE69 hO69) (fun j hj => ((hO69 j (by omega)).trans (hfr47 j (by omega)))) (by omega) (rowsEq hq hg69)
  refine g_lv (lv' := [(0, .ref (ad kb)), (1, .ref (ad ko)), (2, .int 0)]) [1, 2, 0] rfl ?_
  have hb48 : ∀ i, i < 10 → E12 (kb + 5 + i) = .inl (cA 0, 10, .inl (R i)) := (fun i hi => (hO12 (kb + 5 + i) (by omega)).trans (hRb i hi))
  have hb49 : ∀ i, i < 10 → E27 (kb + 5 + i) = .inl (cA 0, 10, .inl (R i)) := (fun i hi => (hO27 (kb + 5 + i) (by omega)).trans (hb48 i hi))
  have hb50 : ∀ i, i < 10 → E42 (kb + 5 + i) = .inl (cA 0, 10, .inl (R i)) := (fun i hi => (hO42 (kb + 5 + i) (by omega)).trans (hb49 i hi))
  exact K47 _ 0 R E42 (Nat.lt_succ_self _) hb50 (fun j _ => rfl) (by omega) (fun j hj => absurd hj (Nat.not_lt_zero j))
theorem kv_X3_copyFrom : KV yX3_copyFrom "ThumpEars$Sounds" cX3_copyFrom 3 (none) 1 := ⟨tq_285, tq_286, tq_11, tq_287, by decide +kernel⟩
abbrev rm_X5_copyFrom : Room := { frames := 2, cells := 0, slots := 0, locals := 62 }
set_option maxHeartbeats 4000000 in
set_option maxRecDepth 100000 in
theorem c_X5_copyFrom {l : Launch} {D : va_G} {cA : Nat → ClassId} {ad : Nat → Nat} {E : Nat → va_E} {b o : Nat} {vb vo : Nat → Nat → Int32}   (hsb : StA cA ad E b vb) (hso : StA cA ad E o vo) (hz4 : Bz (vo 4)) (hz5 : Bz (vo 5)) (hd : b + 36 ≤ o ∨ o + 36 ≤ b) (hbn : b + 36 ≤ 235) (hon : o + 36 ≤ 235) : CtV l D cA yX5_copyFrom cX5_copyFrom 2 rm_X5_copyFrom 235 ad E [.ref (ad b), .ref (ad o)] (fun E' => ∃ (wv : Nat → Nat → Int32), (StA cA ad E' b wv) ∧ (vEq wv vo) ∧ ∀ j, (j < b ∨ b + 36 ≤ j) → E' j = E j) := by
  refine CtV.of (by decide +kernel) (Nat.le_of_ble_eq_true rfl) (fun X F hret => ?_)
  have F : Fr "ThumpEars$State" cX5_copyFrom 2 D cA X := F
  refine (show GG rm_X5_copyFrom 2 l D X 0 0 235 ad E 0 [(0, .ref (ad b)), (1, .ref (ad o))] [] from ?_)
  have hc1 : E b = .inr (5, [.ref (ad ((b + 1))), .ref (ad ((b + 2))), .ref (ad ((b + 3))), .ref (ad ((b + 4))), .ref (ad ((b + 5))), .ref (ad ((b + 6))), .ref (ad ((b + 21))), .int (vb 0 0), .int (vb 0 1), .int (vb 0 2), .int (vb 0 3)]) := hsb.o
  have hc2 : E ((b + 1)) = .inl (cA 0, 10, .inl (vb 1)) := hsb.a 1 (by omega)
  have hc3 : E ((b + 2)) = .inl (cA 0, 10, .inl (vb 2)) := hsb.a 2 (by omega)
  have hc4 : E ((b + 3)) = .inl (cA 0, 10, .inl (vb 3)) := hsb.a 3 (by omega)
  have hc5 : E ((b + 4)) = .inl (cA 2, 10, .inl (vb 4)) := hsb.z 4 (by omega)
  have hc6 : E ((b + 5)) = .inl (cA 2, 10, .inl (vb 5)) := hsb.z 5 (by omega)
  have hc7 : E ((b + 6)) = .inr (3, [.ref (ad ((b + 7))), .ref (ad ((b + 8))), .ref (ad ((b + 9))), .ref (ad ((b + 10))), .int (vb 6 0)]) := hsb.t
  have hc8 : E ((b + 7)) = .inl (cA 0, 10, .inl (vb 7)) := hsb.a 7 (by omega)
  have hc9 : E ((b + 8)) = .inl (cA 0, 10, .inl (vb 8)) := hsb.a 8 (by omega)
  have hc10 : E ((b + 9)) = .inl (cA 0, 10, .inl (vb 9)) := hsb.a 9 (by omega)
  have hc11 : E ((b + 10)) = .inl (cA 5, 10, .inr (.inr (.inr (.inr (fun i => some (ad (b + 11 + i))))))) := hsb.rt
  have hc12 : E ((b + 21)) = .inr (3, [.ref (ad ((b + 22))), .ref (ad ((b + 23))), .ref (ad ((b + 24))), .ref (ad ((b + 25))), .int (vb 21 0)]) := hsb.k
  have hc13 : E ((b + 22)) = .inl (cA 0, 10, .inl (vb 22)) := hsb.a 22 (by omega)
  have hc14 : E ((b + 23)) = .inl (cA 0, 10, .inl (vb 23)) := hsb.a 23 (by omega)
  have hc15 : E ((b + 24)) = .inl (cA 0, 10, .inl (vb 24)) := hsb.a 24 (by omega)
  have hc16 : E ((b + 25)) = .inl (cA 5, 10, .inr (.inr (.inr (.inr (fun i => some (ad (b + 26 + i))))))) := hsb.rk
  have hrT0 : ∀ i, i < 10 → E (b + 11 + i) = .inl (cA 0, 10, .inl ((fun i => vb (11 + i)) i)) := (fun i hi => by have := hsb.a (11 + i) (by omega); rw [← Nat.add_assoc] at this; exact this)
  have hrK0 : ∀ i, i < 10 → E (b + 26 + i) = .inl (cA 0, 10, .inl ((fun i => vb (26 + i)) i)) := (fun i hi => by have := hsb.a (26 + i) (by omega); rw [← Nat.add_assoc] at this; exact this)
  refine g_aload_n F (q := 1) (dk dX5_copyFrom 0 rfl) rfl rfl 1 rfl ?_
  have hc17 : E o = .inr (5, [.ref (ad ((o + 1))), .ref (ad ((o + 2))), .ref (ad ((o + 3))), .ref (ad ((o + 4))), .ref (ad ((o + 5))), .ref (ad ((o + 6))), .ref (ad ((o + 21))), .int (vo 0 0), .int (vo 0 1), .int (vo 0 2), .int (vo 0 3)]) := hso.o
  refine g_getf F (q := 4) hc17 rfl inX5 (by omega) (j := 0) (by decide) tq_74 rfl rfl (dk dX5_copyFrom 1 rfl) rfl ?_
  refine g_iconst F (q := 5) (v := 0) (dk dX5_copyFrom 2 rfl) rfl (by decide) ?_
  refine g_aload_n F (q := 6) (dk dX5_copyFrom 3 rfl) rfl rfl 0 rfl ?_
  refine g_getf F (q := 9) hc1 rfl inX5 (by omega) (j := 0) (by decide) tq_74 rfl rfl (dk dX5_copyFrom 4 rfl) rfl ?_
  refine g_iconst F (q := 10) (v := 0) (dk dX5_copyFrom 5 rfl) rfl (by decide) ?_
  refine g_bipush F (q := 12) (v := 10) (dk dX5_copyFrom 6 rfl) rfl (by decide) ?_
  have hc18 : E ((o + 1)) = .inl (cA 0, 10, .inl (vo 1)) := hso.a 1 (by omega)
  refine g_copyi F (q := 15) hc18 hc2 (by omega) (by omega) tq_281 tq_283 tq_282 tq_16 (by decide) (Nat.le_of_ble_eq_true rfl) (dk dX5_copyFrom 7 rfl) rfl (fun E12 g12 hE12 hg12 hO12 => ?_)
  refine g_aload_n F (q := 16) (dk dX5_copyFrom 8 rfl) rfl rfl 1 rfl ?_
  have hc19 := (hO12 o (by omega)).trans hc17
  refine g_getf F (q := 19) hc19 rfl inX5 (by omega) (j := 1) (by decide) tq_77 rfl rfl (dk dX5_copyFrom 9 rfl) rfl ?_
  refine g_iconst F (q := 20) (v := 0) (dk dX5_copyFrom 10 rfl) rfl (by decide) ?_
  refine g_aload_n F (q := 21) (dk dX5_copyFrom 11 rfl) rfl rfl 0 rfl ?_
  have hc20 := (hO12 b (by omega)).trans hc1
  refine g_getf F (q := 24) hc20 rfl inX5 (by omega) (j := 1) (by decide) tq_77 rfl rfl (dk dX5_copyFrom 12 rfl) rfl ?_
  refine g_iconst F (q := 25) (v := 0) (dk dX5_copyFrom 13 rfl) rfl (by decide) ?_
  refine g_bipush F (q := 27) (v := 10) (dk dX5_copyFrom 14 rfl) rfl (by decide) ?_
  have hb21 := hso.fr (fun j h1 h2 => hO12 j (by omega))
  have hc22 : E12 ((o + 2)) = .inl (cA 0, 10, .inl (vo 2)) := hb21.a 2 (by omega)
  have hc23 := (hO12 ((b + 2)) (by omega)).trans hc3
  refine g_copyi F (q := 30) hc22 hc23 (by omega) (by omega) tq_281 tq_283 tq_282 tq_16 (by decide) (Nat.le_of_ble_eq_true rfl) (dk dX5_copyFrom 15 rfl) rfl (fun E27 g27 hE27 hg27 hO27 => ?_)
  refine g_aload_n F (q := 31) (dk dX5_copyFrom 16 rfl) rfl rfl 1 rfl ?_
  have hc24 := (hO27 o (by omega)).trans hc19
  refine g_getf F (q := 34) hc24 rfl inX5 (by omega) (j := 2) (by decide) tq_79 rfl rfl (dk dX5_copyFrom 17 rfl) rfl ?_
  refine g_iconst F (q := 35) (v := 0) (dk dX5_copyFrom 18 rfl) rfl (by decide) ?_
  refine g_aload_n F (q := 36) (dk dX5_copyFrom 19 rfl) rfl rfl 0 rfl ?_
  have hc25 := (hO27 b (by omega)).trans hc20
  refine g_getf F (q := 39) hc25 rfl inX5 (by omega) (j := 2) (by decide) tq_79 rfl rfl (dk dX5_copyFrom 20 rfl) rfl ?_
  refine g_iconst F (q := 40) (v := 0) (dk dX5_copyFrom 21 rfl) rfl (by decide) ?_
  refine g_bipush F (q := 42) (v := 10) (dk dX5_copyFrom 22 rfl) rfl (by decide) ?_
  have hb26 := hb21.fr (fun j h1 h2 => hO27 j (by omega))
  have hc27 : E27 ((o + 3)) = .inl (cA 0, 10, .inl (vo 3)) := hb26.a 3 (by omega)
  have hc28 := (hO12 ((b + 3)) (by omega)).trans hc4
  have hc29 := (hO27 ((b + 3)) (by omega)).trans hc28
  refine g_copyi F (q := 45) hc27 hc29 (by omega) (by omega) tq_281 tq_283 tq_282 tq_16 (by decide) (Nat.le_of_ble_eq_true rfl) (dk dX5_copyFrom 23 rfl) rfl (fun E42 g42 hE42 hg42 hO42 => ?_)
  refine g_aload_n F (q := 46) (dk dX5_copyFrom 24 rfl) rfl rfl 1 rfl ?_
  have hc30 := (hO42 o (by omega)).trans hc24
  refine g_getf F (q := 49) hc30 rfl inX5 (by omega) (j := 3) (by decide) tq_81 rfl rfl (dk dX5_copyFrom 25 rfl) rfl ?_
  refine g_iconst F (q := 50) (v := 0) (dk dX5_copyFrom 26 rfl) rfl (by decide) ?_
  refine g_aload_n F (q := 51) (dk dX5_copyFrom 27 rfl) rfl rfl 0 rfl ?_
  have hc31 := (hO42 b (by omega)).trans hc25
  refine g_getf F (q := 54) hc31 rfl inX5 (by omega) (j := 3) (by decide) tq_81 rfl rfl (dk dX5_copyFrom 28 rfl) rfl ?_
  refine g_iconst F (q := 55) (v := 0) (dk dX5_copyFrom 29 rfl) rfl (by decide) ?_
  refine g_bipush F (q := 57) (v := 10) (dk dX5_copyFrom 30 rfl) rfl (by decide) ?_
  have hb32 := hb26.fr (fun j h1 h2 => hO42 j (by omega))
  have hc33 : E42 ((o + 4)) = .inl (cA 2, 10, .inl (vo 4)) := hb32.z 4 (by omega)
  have hc34 := (hO12 ((b + 4)) (by omega)).trans hc5
  have hc35 := (hO27 ((b + 4)) (by omega)).trans hc34
  have hc36 := (hO42 ((b + 4)) (by omega)).trans hc35
  refine g_copyz F (q := 60) hc33 hc36 (by omega) (by omega) hz4.fits tq_281 tq_283 tq_282 tq_16 (by decide) (Nat.le_of_ble_eq_true rfl) (dk dX5_copyFrom 31 rfl) rfl (fun E57 g57 hE57 hg57 hO57 => ?_)
  refine g_aload_n F (q := 61) (dk dX5_copyFrom 32 rfl) rfl rfl 1 rfl ?_
  have hc37 := (hO57 o (by omega)).trans hc30
  refine g_getf F (q := 64) hc37 rfl inX5 (by omega) (j := 4) (by decide) tq_83 rfl rfl (dk dX5_copyFrom 33 rfl) rfl ?_
  refine g_iconst F (q := 65) (v := 0) (dk dX5_copyFrom 34 rfl) rfl (by decide) ?_
  refine g_aload_n F (q := 66) (dk dX5_copyFrom 35 rfl) rfl rfl 0 rfl ?_
  have hc38 := (hO57 b (by omega)).trans hc31
  refine g_getf F (q := 69) hc38 rfl inX5 (by omega) (j := 4) (by decide) tq_83 rfl rfl (dk dX5_copyFrom 36 rfl) rfl ?_
  refine g_iconst F (q := 70) (v := 0) (dk dX5_copyFrom 37 rfl) rfl (by decide) ?_
  refine g_bipush F (q := 72) (v := 10) (dk dX5_copyFrom 38 rfl) rfl (by decide) ?_
  have hb39 := hb32.fr (fun j h1 h2 => hO57 j (by omega))
  have hc40 : E57 ((o + 5)) = .inl (cA 2, 10, .inl (vo 5)) := hb39.z 5 (by omega)
  have hc41 := (hO12 ((b + 5)) (by omega)).trans hc6
  have hc42 := (hO27 ((b + 5)) (by omega)).trans hc41
  have hc43 := (hO42 ((b + 5)) (by omega)).trans hc42
  have hc44 := (hO57 ((b + 5)) (by omega)).trans hc43
  refine g_copyz F (q := 75) hc40 hc44 (by omega) (by omega) hz5.fits tq_281 tq_283 tq_282 tq_16 (by decide) (Nat.le_of_ble_eq_true rfl) (dk dX5_copyFrom 39 rfl) rfl (fun E72 g72 hE72 hg72 hO72 => ?_)
  refine g_aload_n F (q := 76) (dk dX5_copyFrom 40 rfl) rfl rfl 0 rfl ?_
  have hc45 := (hO72 b (by omega)).trans hc38
  refine g_getf F (q := 79) hc45 rfl inX5 (by omega) (j := 5) (by decide) tq_86 rfl rfl (dk dX5_copyFrom 41 rfl) rfl ?_
  refine g_aload_n F (q := 80) (dk dX5_copyFrom 42 rfl) rfl rfl 1 rfl ?_
  have hc46 := (hO72 o (by omega)).trans hc37
  refine g_getf F (q := 83) hc46 rfl inX5 (by omega) (j := 5) (by decide) tq_86 rfl rfl (dk dX5_copyFrom 43 rfl) rfl ?_
  have hb47 := hb39.fr (fun j h1 h2 => hO72 j (by omega))
  have hc48 : E72 ((o + 6)) = .inr (3, [.ref (ad ((o + 7))), .ref (ad ((o + 8))), .ref (ad ((o + 9))), .ref (ad ((o + 10))), .int (vo 6 0)]) := hb47.t
  have hc49 := (hO12 ((b + 6)) (by omega)).trans hc7
  have hc50 := (hO27 ((b + 6)) (by omega)).trans hc49
  have hc51 := (hO42 ((b + 6)) (by omega)).trans hc50
  have hc52 := (hO57 ((b + 6)) (by omega)).trans hc51
  have hc53 := (hO72 ((b + 6)) (by omega)).trans hc52
  have hc54 : E72 ((o + 7)) = .inl (cA 0, 10, .inl (vo 7)) := hb47.a 7 (by omega)
  have hc55 := (hO12 ((b + 7)) (by omega)).trans hc8
  have hc56 := (hO27 ((b + 7)) (by omega)).trans hc55
  have hc57 := (hO42 ((b + 7)) (by omega)).trans hc56
  have hc58 := (hO57 ((b + 7)) (by omega)).trans hc57
  have hc59 := (hO72 ((b + 7)) (by omega)).trans hc58
  have hc60 : E72 ((o + 8)) = .inl (cA 0, 10, .inl (vo 8)) := hb47.a 8 (by omega)
  have hc61 := (hO12 ((b + 8)) (by omega)).trans hc9
  have hc62 := (hO27 ((b + 8)) (by omega)).trans hc61
  have hc63 := (hO42 ((b + 8)) (by omega)).trans hc62
  have hc64 := (hO57 ((b + 8)) (by omega)).trans hc63
  have hc65 := (hO72 ((b + 8)) (by omega)).trans hc64
  have hc66 : E72 ((o + 9)) = .inl (cA 0, 10, .inl (vo 9)) := hb47.a 9 (by omega)
  have hc67 := (hO12 ((b + 9)) (by omega)).trans hc10
  have hc68 := (hO27 ((b + 9)) (by omega)).trans hc67
  have hc69 := (hO42 ((b + 9)) (by omega)).trans hc68
  have hc70 := (hO57 ((b + 9)) (by omega)).trans hc69
  have hc71 := (hO72 ((b + 9)) (by omega)).trans hc70
  have hc72 : E72 ((o + 10)) = .inl (cA 5, 10, .inr (.inr (.inr (.inr (fun i => some (ad (o + 11 + i))))))) := hb47.rt
  have hc73 := (hO12 ((b + 10)) (by omega)).trans hc11
  have hc74 := (hO27 ((b + 10)) (by omega)).trans hc73
  have hc75 := (hO42 ((b + 10)) (by omega)).trans hc74
  have hc76 := (hO57 ((b + 10)) (by omega)).trans hc75
  have hc77 := (hO72 ((b + 10)) (by omega)).trans hc76
  have hb78 : ∀ i, i < 10 → E12 (b + 11 + i) = .inl (cA 0, 10, .inl ((fun i => vb (11 + i)) i)) := (fun i hi => (hO12 (b + 11 + i) (by omega)).trans (hrT0 i hi))
  have hb79 : ∀ i, i < 10 → E27 (b + 11 + i) = .inl (cA 0, 10, .inl ((fun i => vb (11 + i)) i)) := (fun i hi => (hO27 (b + 11 + i) (by omega)).trans (hb78 i hi))
  have hb80 : ∀ i, i < 10 → E42 (b + 11 + i) = .inl (cA 0, 10, .inl ((fun i => vb (11 + i)) i)) := (fun i hi => (hO42 (b + 11 + i) (by omega)).trans (hb79 i hi))
  have hb81 : ∀ i, i < 10 → E57 (b + 11 + i) = .inl (cA 0, 10, .inl ((fun i => vb (11 + i)) i)) := (fun i hi => (hO57 (b + 11 + i) (by omega)).trans (hb80 i hi))
  have hb82 : ∀ i, i < 10 → E72 (b + 11 + i) = .inl (cA 0, 10, .inl ((fun i => vb (11 + i)) i)) := (fun i hi => (hO72 (b + 11 + i) (by omega)).trans (hb81 i hi))
  refine g_callVV F (q := 86) (av := [.ref (ad ((o + 6)))]) (st := []) (c_X3_copyFrom (kb := (b + 6)) (ko := (o + 6)) hc48 hc53 hc54 hc59 hc60 hc65 hc66 hc71 hc72 hc77 hb82 (fun i hi => by have := hb47.a (11 + i) (by omega); rw [← Nat.add_assoc] at this; exact this) (by first | assumption | decide | omega) (by first | assumption | decide | omega) (by first | assumption | decide | omega)) kv_X3_copyFrom tq_284 hc53 rfl (by omega) ⟨rfl, rfl⟩ (by decide) ⟨Nat.le_refl _, Nat.le_refl _⟩ rfl rfl (Nat.le_of_ble_eq_true rfl) (dk dX5_copyFrom 44 rfl) rfl (fun E83 hp83 => ?_)
  obtain ⟨a1_83, a2_83, a3_83, R2_83, hK_b___6__83, hK_b___7__83, hK_b___8__83, hK_b___9__83, hK_b___10__83, hBrb_83, q1_83, q2_83, q3_83, qR_83, hF83⟩ := hp83
  refine g_aload_n F (q := 87) (dk dX5_copyFrom 45 rfl) rfl rfl 0 rfl ?_
  have hc83 := (hF83 b (by omega)).trans hc45
  refine g_getf F (q := 90) hc83 rfl inX5 (by omega) (j := 6) (by decide) tq_89 rfl rfl (dk dX5_copyFrom 46 rfl) rfl ?_
  refine g_aload_n F (q := 91) (dk dX5_copyFrom 47 rfl) rfl rfl 1 rfl ?_
  have hc84 := (hF83 o (by omega)).trans hc46
  refine g_getf F (q := 94) hc84 rfl inX5 (by omega) (j := 6) (by decide) tq_89 rfl rfl (dk dX5_copyFrom 48 rfl) rfl ?_
  have hb85 := hb47.fr (fun j h1 h2 => hF83 j (by omega))
  have hc86 : E83 ((o + 21)) = .inr (3, [.ref (ad ((o + 22))), .ref (ad ((o + 23))), .ref (ad ((o + 24))), .ref (ad ((o + 25))), .int (vo 21 0)]) := hb85.k
  have hc87 := (hO12 ((b + 21)) (by omega)).trans hc12
  have hc88 := (hO27 ((b + 21)) (by omega)).trans hc87
  have hc89 := (hO42 ((b + 21)) (by omega)).trans hc88
  have hc90 := (hO57 ((b + 21)) (by omega)).trans hc89
  have hc91 := (hO72 ((b + 21)) (by omega)).trans hc90
  have hc92 := (hF83 ((b + 21)) (by omega)).trans hc91
  have hc93 : E83 ((o + 22)) = .inl (cA 0, 10, .inl (vo 22)) := hb85.a 22 (by omega)
  have hc94 := (hO12 ((b + 22)) (by omega)).trans hc13
  have hc95 := (hO27 ((b + 22)) (by omega)).trans hc94
  have hc96 := (hO42 ((b + 22)) (by omega)).trans hc95
  have hc97 := (hO57 ((b + 22)) (by omega)).trans hc96
  have hc98 := (hO72 ((b + 22)) (by omega)).trans hc97
  have hc99 := (hF83 ((b + 22)) (by omega)).trans hc98
  have hc100 : E83 ((o + 23)) = .inl (cA 0, 10, .inl (vo 23)) := hb85.a 23 (by omega)
  have hc101 := (hO12 ((b + 23)) (by omega)).trans hc14
  have hc102 := (hO27 ((b + 23)) (by omega)).trans hc101
  have hc103 := (hO42 ((b + 23)) (by omega)).trans hc102
  have hc104 := (hO57 ((b + 23)) (by omega)).trans hc103
  have hc105 := (hO72 ((b + 23)) (by omega)).trans hc104
  have hc106 := (hF83 ((b + 23)) (by omega)).trans hc105
  have hc107 : E83 ((o + 24)) = .inl (cA 0, 10, .inl (vo 24)) := hb85.a 24 (by omega)
  have hc108 := (hO12 ((b + 24)) (by omega)).trans hc15
  have hc109 := (hO27 ((b + 24)) (by omega)).trans hc108
  have hc110 := (hO42 ((b + 24)) (by omega)).trans hc109
  have hc111 := (hO57 ((b + 24)) (by omega)).trans hc110
  have hc112 := (hO72 ((b + 24)) (by omega)).trans hc111
  have hc113 := (hF83 ((b + 24)) (by omega)).trans hc112
  have hc114 : E83 ((o + 25)) = .inl (cA 5, 10, .inr (.inr (.inr (.inr (fun i => some (ad (o + 26 + i))))))) := hb85.rk
  have hc115 := (hO12 ((b + 25)) (by omega)).trans hc16
  have hc116 := (hO27 ((b + 25)) (by omega)).trans hc115
  have hc117 := (hO42 ((b + 25)) (by omega)).trans hc116
  have hc118 := (hO57 ((b + 25)) (by omega)).trans hc117
  have hc119 := (hO72 ((b + 25)) (by omega)).trans hc118
  have hc120 := (hF83 ((b + 25)) (by omega)).trans hc119
  have hb121 : ∀ i, i < 10 → E12 (b + 26 + i) = .inl (cA 0, 10, .inl ((fun i => vb (26 + i)) i)) := (fun i hi => (hO12 (b + 26 + i) (by omega)).trans (hrK0 i hi))
  have hb122 : ∀ i, i < 10 → E27 (b + 26 + i) = .inl (cA 0, 10, .inl ((fun i => vb (26 + i)) i)) := (fun i hi => (hO27 (b + 26 + i) (by omega)).trans (hb121 i hi))
  have hb123 : ∀ i, i < 10 → E42 (b + 26 + i) = .inl (cA 0, 10, .inl ((fun i => vb (26 + i)) i)) := (fun i hi => (hO42 (b + 26 + i) (by omega)).trans (hb122 i hi))
  have hb124 : ∀ i, i < 10 → E57 (b + 26 + i) = .inl (cA 0, 10, .inl ((fun i => vb (26 + i)) i)) := (fun i hi => (hO57 (b + 26 + i) (by omega)).trans (hb123 i hi))
  have hb125 : ∀ i, i < 10 → E72 (b + 26 + i) = .inl (cA 0, 10, .inl ((fun i => vb (26 + i)) i)) := (fun i hi => (hO72 (b + 26 + i) (by omega)).trans (hb124 i hi))
  have hb126 : ∀ i, i < 10 → E83 (b + 26 + i) = .inl (cA 0, 10, .inl ((fun i => vb (26 + i)) i)) := (fun i hi => (hF83 (b + 26 + i) (by omega)).trans (hb125 i hi))
  refine g_callVV F (q := 97) (av := [.ref (ad ((o + 21)))]) (st := []) (c_X3_copyFrom (kb := (b + 21)) (ko := (o + 21)) hc86 hc92 hc93 hc99 hc100 hc106 hc107 hc113 hc114 hc120 hb126 (fun i hi => by have := hb85.a (26 + i) (by omega); rw [← Nat.add_assoc] at this; exact this) (by first | assumption | decide | omega) (by first | assumption | decide | omega) (by first | assumption | decide | omega)) kv_X3_copyFrom tq_284 hc92 rfl (by omega) ⟨rfl, rfl⟩ (by decide) ⟨Nat.le_refl _, Nat.le_refl _⟩ rfl rfl (Nat.le_of_ble_eq_true rfl) (dk dX5_copyFrom 49 rfl) rfl (fun E94 hp94 => ?_)
  obtain ⟨a1_94, a2_94, a3_94, R2_94, hK_b___21__94, hK_b___22__94, hK_b___23__94, hK_b___24__94, hK_b___25__94, hBrb_94, q1_94, q2_94, q3_94, qR_94, hF94⟩ := hp94
  refine g_aload_n F (q := 98) (dk dX5_copyFrom 50 rfl) rfl rfl 0 rfl ?_
  refine g_aload_n F (q := 99) (dk dX5_copyFrom 51 rfl) rfl rfl 1 rfl ?_
  have hc127 := (hF94 o (by omega)).trans hc84
  refine g_getf F (q := 102) hc127 rfl inX5 (by omega) (j := 7) (by decide) tq_92 rfl rfl (dk dX5_copyFrom 52 rfl) rfl ?_
  have hc128 := (hF94 b (by omega)).trans hc83
  refine g_putf F (q := 105) (ty := .int) hc128 rfl inX5 tyX5 tyX5_ok nmX5 (by omega) (j := 7) (by decide) tq_92 rfl rfl (by decide +kernel) rfl rfl (Nat.le_of_ble_eq_true rfl) (dk dX5_copyFrom 53 rfl) rfl (fun E102 hE102 hO102 => ?_)
  have hE102 : E102 b = .inr (5, [.ref (ad ((b + 1))), .ref (ad ((b + 2))), .ref (ad ((b + 3))), .ref (ad ((b + 4))), .ref (ad ((b + 5))), .ref (ad ((b + 6))), .ref (ad ((b + 21))), .int (vo 0 0), .int (vb 0 1), .int (vb 0 2), .int (vb 0 3)]) := hE102
  refine g_aload_n F (q := 106) (dk dX5_copyFrom 54 rfl) rfl rfl 0 rfl ?_
  refine g_aload_n F (q := 107) (dk dX5_copyFrom 55 rfl) rfl rfl 1 rfl ?_
  have hc129 := (hO102 o (by omega)).trans hc127
  refine g_getf F (q := 110) hc129 rfl inX5 (by omega) (j := 8) (by decide) tq_95 rfl rfl (dk dX5_copyFrom 56 rfl) rfl ?_
  refine g_putf F (q := 113) (ty := .int) hE102 rfl inX5 tyX5 tyX5_ok nmX5 (by omega) (j := 8) (by decide) tq_95 rfl rfl (by decide +kernel) rfl rfl (Nat.le_of_ble_eq_true rfl) (dk dX5_copyFrom 57 rfl) rfl (fun E110 hE110 hO110 => ?_)
  have hE110 : E110 b = .inr (5, [.ref (ad ((b + 1))), .ref (ad ((b + 2))), .ref (ad ((b + 3))), .ref (ad ((b + 4))), .ref (ad ((b + 5))), .ref (ad ((b + 6))), .ref (ad ((b + 21))), .int (vo 0 0), .int (vo 0 1), .int (vb 0 2), .int (vb 0 3)]) := hE110
  refine g_aload_n F (q := 114) (dk dX5_copyFrom 58 rfl) rfl rfl 0 rfl ?_
  refine g_aload_n F (q := 115) (dk dX5_copyFrom 59 rfl) rfl rfl 1 rfl ?_
  have hc130 := (hO110 o (by omega)).trans hc129
  refine g_getf F (q := 118) hc130 rfl inX5 (by omega) (j := 9) (by decide) tq_97 rfl rfl (dk dX5_copyFrom 60 rfl) rfl ?_
  refine g_putf F (q := 121) (ty := .int) hE110 rfl inX5 tyX5 tyX5_ok nmX5 (by omega) (j := 9) (by decide) tq_97 rfl rfl (by decide +kernel) rfl rfl (Nat.le_of_ble_eq_true rfl) (dk dX5_copyFrom 61 rfl) rfl (fun E118 hE118 hO118 => ?_)
  have hE118 : E118 b = .inr (5, [.ref (ad ((b + 1))), .ref (ad ((b + 2))), .ref (ad ((b + 3))), .ref (ad ((b + 4))), .ref (ad ((b + 5))), .ref (ad ((b + 6))), .ref (ad ((b + 21))), .int (vo 0 0), .int (vo 0 1), .int (vo 0 2), .int (vb 0 3)]) := hE118
  refine g_aload_n F (q := 122) (dk dX5_copyFrom 62 rfl) rfl rfl 0 rfl ?_
  refine g_aload_n F (q := 123) (dk dX5_copyFrom 63 rfl) rfl rfl 1 rfl ?_
  have hc131 := (hO118 o (by omega)).trans hc130
  refine g_getf F (q := 126) hc131 rfl inX5 (by omega) (j := 10) (by decide) tq_99 rfl rfl (dk dX5_copyFrom 64 rfl) rfl ?_
  refine g_putf F (q := 129) (ty := .int) hE118 rfl inX5 tyX5 tyX5_ok nmX5 (by omega) (j := 10) (by decide) tq_99 rfl rfl (by decide +kernel) rfl rfl (Nat.le_of_ble_eq_true rfl) (dk dX5_copyFrom 65 rfl) rfl (fun E126 hE126 hO126 => ?_)
  have hE126 : E126 b = .inr (5, [.ref (ad ((b + 1))), .ref (ad ((b + 2))), .ref (ad ((b + 3))), .ref (ad ((b + 4))), .ref (ad ((b + 5))), .ref (ad ((b + 6))), .ref (ad ((b + 21))), .int (vo 0 0), .int (vo 0 1), .int (vo 0 2), .int (vo 0 3)]) := hE126
  have hc132 := (hF94 ((b + 6)) (by omega)).trans hK_b___6__83
  have hc133 := (hO102 ((b + 6)) (by omega)).trans hc132
  have hc134 := (hO110 ((b + 6)) (by omega)).trans hc133
  have hc135 := (hO118 ((b + 6)) (by omega)).trans hc134
  have hc136 := (hO126 ((b + 6)) (by omega)).trans hc135
  have hc137 := (hO102 ((b + 21)) (by omega)).trans hK_b___21__94
  have hc138 := (hO110 ((b + 21)) (by omega)).trans hc137
  have hc139 := (hO118 ((b + 21)) (by omega)).trans hc138
  have hc140 := (hO126 ((b + 21)) (by omega)).trans hc139
  have hc141 := (hF94 ((b + 10)) (by omega)).trans hK_b___10__83
  have hc142 := (hO102 ((b + 10)) (by omega)).trans hc141
  have hc143 := (hO110 ((b + 10)) (by omega)).trans hc142
  have hc144 := (hO118 ((b + 10)) (by omega)).trans hc143
  have hc145 := (hO126 ((b + 10)) (by omega)).trans hc144
  have hc146 := (hO102 ((b + 25)) (by omega)).trans hK_b___25__94
  have hc147 := (hO110 ((b + 25)) (by omega)).trans hc146
  have hc148 := (hO118 ((b + 25)) (by omega)).trans hc147
  have hc149 := (hO126 ((b + 25)) (by omega)).trans hc148
  have hc150 := (hO27 ((b + 1)) (by omega)).trans hE12
  have hc151 := (hO42 ((b + 1)) (by omega)).trans hc150
  have hc152 := (hO57 ((b + 1)) (by omega)).trans hc151
  have hc153 := (hO72 ((b + 1)) (by omega)).trans hc152
  have hc154 := (hF83 ((b + 1)) (by omega)).trans hc153
  have hc155 := (hF94 ((b + 1)) (by omega)).trans hc154
  have hc156 := (hO102 ((b + 1)) (by omega)).trans hc155
  have hc157 := (hO110 ((b + 1)) (by omega)).trans hc156
  have hc158 := (hO118 ((b + 1)) (by omega)).trans hc157
  have hc159 := (hO126 ((b + 1)) (by omega)).trans hc158
  have hc160 := (hO42 ((b + 2)) (by omega)).trans hE27
  have hc161 := (hO57 ((b + 2)) (by omega)).trans hc160
  have hc162 := (hO72 ((b + 2)) (by omega)).trans hc161
  have hc163 := (hF83 ((b + 2)) (by omega)).trans hc162
  have hc164 := (hF94 ((b + 2)) (by omega)).trans hc163
  have hc165 := (hO102 ((b + 2)) (by omega)).trans hc164
  have hc166 := (hO110 ((b + 2)) (by omega)).trans hc165
  have hc167 := (hO118 ((b + 2)) (by omega)).trans hc166
  have hc168 := (hO126 ((b + 2)) (by omega)).trans hc167
  have hc169 := (hO57 ((b + 3)) (by omega)).trans hE42
  have hc170 := (hO72 ((b + 3)) (by omega)).trans hc169
  have hc171 := (hF83 ((b + 3)) (by omega)).trans hc170
  have hc172 := (hF94 ((b + 3)) (by omega)).trans hc171
  have hc173 := (hO102 ((b + 3)) (by omega)).trans hc172
  have hc174 := (hO110 ((b + 3)) (by omega)).trans hc173
  have hc175 := (hO118 ((b + 3)) (by omega)).trans hc174
  have hc176 := (hO126 ((b + 3)) (by omega)).trans hc175
  have hc177 := (hO72 ((b + 4)) (by omega)).trans hE57
  have hc178 := (hF83 ((b + 4)) (by omega)).trans hc177
  have hc179 := (hF94 ((b + 4)) (by omega)).trans hc178
  have hc180 := (hO102 ((b + 4)) (by omega)).trans hc179
  have hc181 := (hO110 ((b + 4)) (by omega)).trans hc180
  have hc182 := (hO118 ((b + 4)) (by omega)).trans hc181
  have hc183 := (hO126 ((b + 4)) (by omega)).trans hc182
  have hc184 := (hF83 ((b + 5)) (by omega)).trans hE72
  have hc185 := (hF94 ((b + 5)) (by omega)).trans hc184
  have hc186 := (hO102 ((b + 5)) (by omega)).trans hc185
  have hc187 := (hO110 ((b + 5)) (by omega)).trans hc186
  have hc188 := (hO118 ((b + 5)) (by omega)).trans hc187
  have hc189 := (hO126 ((b + 5)) (by omega)).trans hc188
  have hc190 := (hF94 ((b + 7)) (by omega)).trans hK_b___7__83
  have hc191 := (hO102 ((b + 7)) (by omega)).trans hc190
  have hc192 := (hO110 ((b + 7)) (by omega)).trans hc191
  have hc193 := (hO118 ((b + 7)) (by omega)).trans hc192
  have hc194 := (hO126 ((b + 7)) (by omega)).trans hc193
  have hc195 := (hF94 ((b + 8)) (by omega)).trans hK_b___8__83
  have hc196 := (hO102 ((b + 8)) (by omega)).trans hc195
  have hc197 := (hO110 ((b + 8)) (by omega)).trans hc196
  have hc198 := (hO118 ((b + 8)) (by omega)).trans hc197
  have hc199 := (hO126 ((b + 8)) (by omega)).trans hc198
  have hc200 := (hF94 ((b + 9)) (by omega)).trans hK_b___9__83
  have hc201 := (hO102 ((b + 9)) (by omega)).trans hc200
  have hc202 := (hO110 ((b + 9)) (by omega)).trans hc201
  have hc203 := (hO118 ((b + 9)) (by omega)).trans hc202
  have hc204 := (hO126 ((b + 9)) (by omega)).trans hc203
  have hb205 : ∀ i, i < 10 → E94 (b + 11 + i) = .inl (cA 0, 10, .inl (R2_83 i)) := (fun i hi => (hF94 (b + 11 + i) (by omega)).trans (hBrb_83 i hi))
  have hb206 : ∀ i, i < 10 → E102 (b + 11 + i) = .inl (cA 0, 10, .inl (R2_83 i)) := (fun i hi => (hO102 (b + 11 + i) (by omega)).trans (hb205 i hi))
  have hb207 : ∀ i, i < 10 → E110 (b + 11 + i) = .inl (cA 0, 10, .inl (R2_83 i)) := (fun i hi => (hO110 (b + 11 + i) (by omega)).trans (hb206 i hi))
  have hb208 : ∀ i, i < 10 → E118 (b + 11 + i) = .inl (cA 0, 10, .inl (R2_83 i)) := (fun i hi => (hO118 (b + 11 + i) (by omega)).trans (hb207 i hi))
  have hb209 : ∀ i, i < 10 → E126 (b + 11 + i) = .inl (cA 0, 10, .inl (R2_83 i)) := (fun i hi => (hO126 (b + 11 + i) (by omega)).trans (hb208 i hi))
  have hc210 := (hO102 ((b + 22)) (by omega)).trans hK_b___22__94
  have hc211 := (hO110 ((b + 22)) (by omega)).trans hc210
  have hc212 := (hO118 ((b + 22)) (by omega)).trans hc211
  have hc213 := (hO126 ((b + 22)) (by omega)).trans hc212
  have hc214 := (hO102 ((b + 23)) (by omega)).trans hK_b___23__94
  have hc215 := (hO110 ((b + 23)) (by omega)).trans hc214
  have hc216 := (hO118 ((b + 23)) (by omega)).trans hc215
  have hc217 := (hO126 ((b + 23)) (by omega)).trans hc216
  have hc218 := (hO102 ((b + 24)) (by omega)).trans hK_b___24__94
  have hc219 := (hO110 ((b + 24)) (by omega)).trans hc218
  have hc220 := (hO118 ((b + 24)) (by omega)).trans hc219
  have hc221 := (hO126 ((b + 24)) (by omega)).trans hc220
  have hb222 : ∀ i, i < 10 → E102 (b + 26 + i) = .inl (cA 0, 10, .inl (R2_94 i)) := (fun i hi => (hO102 (b + 26 + i) (by omega)).trans (hBrb_94 i hi))
  have hb223 : ∀ i, i < 10 → E110 (b + 26 + i) = .inl (cA 0, 10, .inl (R2_94 i)) := (fun i hi => (hO110 (b + 26 + i) (by omega)).trans (hb222 i hi))
  have hb224 : ∀ i, i < 10 → E118 (b + 26 + i) = .inl (cA 0, 10, .inl (R2_94 i)) := (fun i hi => (hO118 (b + 26 + i) (by omega)).trans (hb223 i hi))
  have hb225 : ∀ i, i < 10 → E126 (b + 26 + i) = .inl (cA 0, 10, .inl (R2_94 i)) := (fun i hi => (hO126 (b + 26 + i) (by omega)).trans (hb224 i hi))
  have hw : StA cA ad E126 b (cpV vo g12 g27 g42 g57 g72 a1_83 a2_83 a3_83 a1_94 a2_94 a3_94 R2_83 R2_94) := StA.of hE126 hc136 hc140 hc145 hc149 hc159 hc168 hc176 hc183 hc189 hc194 hc199 hc204 (fun i hi => by rw [(cpV_r hi).1]; exact hb209 i hi) hc213 hc217 hc221 (fun i hi => by rw [(cpV_r hi).2]; exact hb225 i hi)
  refine hret E126 _ _ (dk dX5_copyFrom 66 rfl) ?_
  exact ⟨_, hw, (cpV_eq hg12 hg27 hg42 hg57 hg72 q1_83 q2_83 q3_83 q1_94 q2_94 q3_94 qR_83 qR_94), (fun j hj => (((((((((((hO126 j (by omega)).trans (hO118 j (by omega))).trans (hO110 j (by omega))).trans (hO102 j (by omega))).trans (hF94 j (by omega))).trans (hF83 j (by omega))).trans (hO72 j (by omega))).trans (hO57 j (by omega))).trans (hO42 j (by omega))).trans (hO27 j (by omega))).trans (hO12 j (by omega))))⟩
theorem kv_X5_copyFrom : KV yX5_copyFrom "ThumpEars$State" cX5_copyFrom 2 (none) 1 := ⟨tq_278, tq_279, tq_10, tq_280, by decide +kernel⟩
