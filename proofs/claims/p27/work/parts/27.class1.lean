abbrev rm_J9_floorDiv_7cf53 : Room := { frames := 0, cells := 0, slots := 0, locals := 0 }
set_option maxHeartbeats 4000000 in
set_option maxRecDepth 100000 in
theorem c_J9_floorDiv_7cf53 {l : Launch} {D : va_G} {cA : Nat → ClassId} {ad : Nat → Nat} {E : Nat → va_E} {a b : Int32}   (hb0 : ¬ b = 0) : CtI l D cA yJ9_floorDiv_7cf53 cJ9_floorDiv_7cf53 3 .int rm_J9_floorDiv_7cf53 235 ad E [.int a, .int b] (fun x E' => (fdi a b) = x ∧ E = E') := by
  refine CtI.of (by decide +kernel) (Nat.le_of_ble_eq_true rfl) (fun X F hret => ?_)
  have F : Fr "java/lang/Math" cJ9_floorDiv_7cf53 3 D cA X := F
  refine (show GG rm_J9_floorDiv_7cf53 3 l D X 0 0 235 ad E 0 [(0, .int a), (1, .int b)] [] from ?_)
  refine g_iload_n F (q := 1) (dk dJ9_floorDiv_7cf53 0 rfl) rfl rfl 0 rfl ?_
  refine g_iload_n F (q := 2) (dk dJ9_floorDiv_7cf53 1 rfl) rfl rfl 1 rfl ?_
  refine g_idiv F (q := 3) (dk dJ9_floorDiv_7cf53 2 rfl) rfl hb0 ?_
  refine g_istore_n F (q := 4) (lv' := [(2, .int (a / b)), (0, .int a), (1, .int b)]) (dk dJ9_floorDiv_7cf53 3 rfl) rfl rfl (Nat.le_of_ble_eq_true rfl) rfl ?_
  refine g_iload_n F (q := 5) (dk dJ9_floorDiv_7cf53 4 rfl) rfl rfl 1 rfl ?_
  refine g_iload_n F (q := 6) (dk dJ9_floorDiv_7cf53 5 rfl) rfl rfl 2 rfl ?_
  refine g_ixor F (q := 7) (dk dJ9_floorDiv_7cf53 6 rfl) rfl ?_
  refine g_if_ge F (q := 10) (tgt := 21) (dk dJ9_floorDiv_7cf53 7 rfl) (by decide) rfl (fun c7 => ?_) (fun c7 => ?_)
  · refine g_iload_n F (q := 22) (dk dJ9_floorDiv_7cf53 17 rfl) rfl rfl 0 rfl ?_
    refine hret (a / b) E _ _ (dk dJ9_floorDiv_7cf53 18 rfl) (nint _) ?_
    exact ⟨if_neg (fun h => absurd h.1 (Int32.not_lt.mpr c7)), rfl⟩
  · refine g_iload_n F (q := 11) (dk dJ9_floorDiv_7cf53 8 rfl) rfl rfl 0 rfl ?_
    refine g_iload_n F (q := 12) (dk dJ9_floorDiv_7cf53 9 rfl) rfl rfl 2 rfl ?_
    refine g_imul F (q := 13) (dk dJ9_floorDiv_7cf53 10 rfl) rfl ?_
    refine g_iload_n F (q := 14) (dk dJ9_floorDiv_7cf53 11 rfl) rfl rfl 1 rfl ?_
    refine g_icmp_eq F (q := 17) (tgt := 21) (dk dJ9_floorDiv_7cf53 12 rfl) (by decide) rfl (fun c14 => ?_) (fun c14 => ?_)
    · refine g_iload_n F (q := 22) (dk dJ9_floorDiv_7cf53 17 rfl) rfl rfl 0 rfl ?_
      refine hret (a / b) E _ _ (dk dJ9_floorDiv_7cf53 18 rfl) (nint _) ?_
      exact ⟨if_neg (fun h => h.2 c14), rfl⟩
    · refine g_iload_n F (q := 18) (dk dJ9_floorDiv_7cf53 13 rfl) rfl rfl 0 rfl ?_
      refine g_iconst F (q := 19) (v := 1) (dk dJ9_floorDiv_7cf53 14 rfl) rfl (by decide) ?_
      refine g_isub F (q := 20) (dk dJ9_floorDiv_7cf53 15 rfl) rfl ?_
      refine hret ((a / b) - 1) E _ _ (dk dJ9_floorDiv_7cf53 16 rfl) (nint _) ?_
      exact ⟨if_pos ⟨Int32.not_le.mp c7, c14⟩, rfl⟩
theorem ks_J9_floorDiv_7cf53 : KS yJ9_floorDiv_7cf53 "java/lang/Math" cJ9_floorDiv_7cf53 3 (some .int) 2 := ⟨tq_449, tq_17, tq_450, by decide +kernel⟩
abbrev rm_J9_floorDiv_f86c9 : Room := { frames := 0, cells := 0, slots := 0, locals := 0 }
set_option maxHeartbeats 4000000 in
set_option maxRecDepth 100000 in
theorem c_J9_floorDiv_f86c9 {l : Launch} {D : va_G} {cA : Nat → ClassId} {ad : Nat → Nat} {E : Nat → va_E} {a b : Int64}   (hb0 : ¬ b = 0) : CtL l D cA yJ9_floorDiv_f86c9 cJ9_floorDiv_f86c9 6 rm_J9_floorDiv_f86c9 235 ad E [.long a, .long b] (fun x E' => (fdl a b) = x ∧ E = E') := by
  refine CtL.of (by decide +kernel) (Nat.le_of_ble_eq_true rfl) (fun X F hret => ?_)
  have F : Fr "java/lang/Math" cJ9_floorDiv_f86c9 6 D cA X := F
  refine (show GG rm_J9_floorDiv_f86c9 6 l D X 0 0 235 ad E 0 [(0, .long a), (2, .long b)] [] from ?_)
  refine g_lload_n F (q := 1) (dk dJ9_floorDiv_f86c9 0 rfl) rfl rfl 0 rfl ?_
  refine g_lload_n F (q := 2) (dk dJ9_floorDiv_f86c9 1 rfl) rfl rfl 1 rfl ?_
  refine g_ldiv F (q := 3) (dk dJ9_floorDiv_f86c9 2 rfl) rfl hb0 ?_
  refine g_lstore F (q := 5) (lv' := [(4, .long (a / b)), (0, .long a), (2, .long b)]) (dk dJ9_floorDiv_f86c9 3 rfl) rfl (Nat.le_of_ble_eq_true rfl) rfl ?_
  refine g_lload_n F (q := 6) (dk dJ9_floorDiv_f86c9 4 rfl) rfl rfl 1 rfl ?_
  refine g_lload_n F (q := 7) (dk dJ9_floorDiv_f86c9 5 rfl) rfl rfl 2 rfl ?_
  refine g_lxor F (q := 8) (dk dJ9_floorDiv_f86c9 6 rfl) rfl ?_
  refine g_lconst F (q := 9) (v := 0) (dk dJ9_floorDiv_f86c9 7 rfl) rfl (by decide) ?_
  refine g_lcmp_ge F (q := 13) (tgt := 27) (dk dJ9_floorDiv_f86c9 8 rfl) (dk dJ9_floorDiv_f86c9 9 rfl) (by decide) rfl (fun c9 => ?_) (fun c9 => ?_)
  · refine g_lload F (q := 29) (dk dJ9_floorDiv_f86c9 20 rfl) rfl 0 rfl ?_
    refine hret (a / b) E _ _ (dk dJ9_floorDiv_f86c9 21 rfl) ?_
    exact ⟨if_neg (fun h => absurd h.1 (Int64.not_lt.mpr c9)), rfl⟩
  · refine g_lload F (q := 15) (dk dJ9_floorDiv_f86c9 10 rfl) rfl 0 rfl ?_
    refine g_lload_n F (q := 16) (dk dJ9_floorDiv_f86c9 11 rfl) rfl rfl 2 rfl ?_
    refine g_lmul F (q := 17) (dk dJ9_floorDiv_f86c9 12 rfl) rfl ?_
    refine g_lload_n F (q := 18) (dk dJ9_floorDiv_f86c9 13 rfl) rfl rfl 1 rfl ?_
    refine g_lcmp_eq F (q := 22) (tgt := 27) (dk dJ9_floorDiv_f86c9 14 rfl) (dk dJ9_floorDiv_f86c9 15 rfl) (by decide) rfl (fun c18 => ?_) (fun c18 => ?_)
    · refine g_lload F (q := 29) (dk dJ9_floorDiv_f86c9 20 rfl) rfl 0 rfl ?_
      refine hret (a / b) E _ _ (dk dJ9_floorDiv_f86c9 21 rfl) ?_
      exact ⟨if_neg (fun h => h.2 c18), rfl⟩
    · refine g_lload F (q := 24) (dk dJ9_floorDiv_f86c9 16 rfl) rfl 0 rfl ?_
      refine g_lconst F (q := 25) (v := 1) (dk dJ9_floorDiv_f86c9 17 rfl) rfl (by decide) ?_
      refine g_lsub F (q := 26) (dk dJ9_floorDiv_f86c9 18 rfl) rfl ?_
      refine hret ((a / b) - 1) E _ _ (dk dJ9_floorDiv_f86c9 19 rfl) ?_
      exact ⟨if_pos ⟨Int64.not_le.mp c9, c18⟩, rfl⟩
theorem ks_J9_floorDiv_f86c9 : KS yJ9_floorDiv_f86c9 "java/lang/Math" cJ9_floorDiv_f86c9 6 (some .long) 2 := ⟨tq_343, tq_17, tq_344, by decide +kernel⟩
abbrev rm_X5_hasEar : Room := { frames := 0, cells := 0, slots := 0, locals := 0 }
set_option maxHeartbeats 4000000 in
set_option maxRecDepth 100000 in
theorem c_X5_hasEar {l : Launch} {D : va_G} {cA : Nat → ClassId} {ad : Nat → Nat} {E : Nat → va_E} {v01 v02 v03 ear : Int32} {ne : Nat} (h1 : E 1 = .inr (5, [.ref (ad 2), .ref (ad 3), .ref (ad 4), .ref (ad 5), .ref (ad 6), .ref (ad 7), .ref (ad 22), .int (nI ne), .int v01, .int v02, .int v03]))  (hne : ne ≤ 10) : CtI l D cA yX5_hasEar cX5_hasEar 2 .boolean rm_X5_hasEar 235 ad E [.ref (ad 1), .int ear] (fun x E' => (E = E' ∧ 1 = x ∧ (∃ e : Nat, e < ne ∧ ear = nI e)) ∨ (E = E' ∧ 0 = x ∧ (ear < 0 ∨ ne ≤ ear.toNatClampNeg))) := by
  refine CtI.of (by decide +kernel) (Nat.le_of_ble_eq_true rfl) (fun X F hret => ?_)
  have F : Fr "ThumpEars$State" cX5_hasEar 2 D cA X := F
  refine (show GG rm_X5_hasEar 2 l D X 0 0 235 ad E 0 [(0, .ref (ad 1)), (1, .int ear)] [] from ?_)
  refine g_iload_n F (q := 1) (dk dX5_hasEar 0 rfl) rfl rfl 1 rfl ?_
  refine g_if_lt F (q := 4) (tgt := 16) (dk dX5_hasEar 1 rfl) (by decide) rfl (fun c1 => ?_) (fun c1 => ?_)
  · refine g_iconst F (q := 17) (v := 0) (dk dX5_hasEar 8 rfl) rfl (by decide) ?_
    have hq := ixB ear ne (by omega)
    refine hret 0 E _ _ (dk dX5_hasEar 9 rfl) rfl ?_
    exact Or.inr ⟨rfl, rfl, Or.inl c1⟩
  · refine g_iload_n F (q := 5) (dk dX5_hasEar 2 rfl) rfl rfl 1 rfl ?_
    refine g_aload_n F (q := 6) (dk dX5_hasEar 3 rfl) rfl rfl 0 rfl ?_
    refine g_getf F (q := 9) h1 rfl inX5 (by omega) (j := 7) (by decide) tq_92 rfl rfl (dk dX5_hasEar 4 rfl) rfl ?_
    refine g_icmp_ge F (q := 12) (tgt := 16) (dk dX5_hasEar 5 rfl) (by decide) rfl (fun c9 => ?_) (fun c9 => ?_)
    · refine g_iconst F (q := 17) (v := 0) (dk dX5_hasEar 8 rfl) rfl (by decide) ?_
      have hq := ixB ear ne (by omega)
      refine hret 0 E _ _ (dk dX5_hasEar 9 rfl) rfl ?_
      rcases hq with hq | ⟨e, he, rfl⟩
      · exact Or.inr ⟨rfl, rfl, hq⟩
      · exact absurd c9 (nI_ge he (by omega))
    · refine g_iconst F (q := 13) (v := 1) (dk dX5_hasEar 6 rfl) rfl (by decide) ?_
      refine g_goto F (tgt := 17) (dk dX5_hasEar 7 rfl) (by decide) ?_
      have hq := ixB ear ne (by omega)
      refine hret 1 E _ _ (dk dX5_hasEar 9 rfl) rfl ?_
      rcases hq with hq | hq
      · exfalso
        rcases hq with hq | hq
        · exact absurd hq c1
        · obtain ⟨j, hj, hje⟩ := nI_of c1
          subst hje
          rw [nI_c hj] at hq
          exact c9 (nI_le hq hj)
      · exact Or.inl ⟨rfl, rfl, hq⟩
theorem kv_X5_hasEar : KV yX5_hasEar "ThumpEars$State" cX5_hasEar 2 (some .boolean) 1 := ⟨tq_395, tq_396, tq_10, tq_397, by decide +kernel⟩
abbrev rm_X5_addEar : Room := { frames := 0, cells := 0, slots := 0, locals := 0 }
set_option maxHeartbeats 4000000 in
set_option maxRecDepth 100000 in
theorem c_X5_addEar {l : Launch} {D : va_G} {cA : Nat → ClassId} {ad : Nat → Nat} {E : Nat → va_E} {v01 v02 v03 p : Int32} {ne : Nat} {pl : Nat → Int32}  (h1 : E 1 = .inr (5, [.ref (ad 2), .ref (ad 3), .ref (ad 4), .ref (ad 5), .ref (ad 6), .ref (ad 7), .ref (ad 22), .int (nI ne), .int v01, .int v02, .int v03])) (h2 : E 2 = .inl (cA 0, 10, .inl pl))  (hne : ne < 10) : CtI l D cA yX5_addEar cX5_addEar 2 .int rm_X5_addEar 235 ad E [.ref (ad 1), .int p] (fun x E' => (nI ne) = x ∧ E' 1 = .inr (5, [.ref (ad 2), .ref (ad 3), .ref (ad 4), .ref (ad 5), .ref (ad 6), .ref (ad 7), .ref (ad 22), .int (nI ((ne + 1))), .int v01, .int v02, .int v03]) ∧ E' 2 = .inl (cA 0, 10, .inl (upd pl ne p)) ∧ ∀ j, (j ≠ 1 ∧ j ≠ 2) → E' j = E j) := by
  refine CtI.of (by decide +kernel) (Nat.le_of_ble_eq_true rfl) (fun X F hret => ?_)
  have F : Fr "ThumpEars$State" cX5_addEar 2 D cA X := F
  refine (show GG rm_X5_addEar 2 l D X 0 0 235 ad E 0 [(0, .ref (ad 1)), (1, .int p)] [] from ?_)
  refine g_aload_n F (q := 1) (dk dX5_addEar 0 rfl) rfl rfl 0 rfl ?_
  refine g_getf F (q := 4) h1 rfl inX5 (by omega) (j := 0) (by decide) tq_74 rfl rfl (dk dX5_addEar 1 rfl) rfl ?_
  refine g_aload_n F (q := 5) (dk dX5_addEar 2 rfl) rfl rfl 0 rfl ?_
  refine g_getf F (q := 8) h1 rfl inX5 (by omega) (j := 7) (by decide) tq_92 rfl rfl (dk dX5_addEar 3 rfl) rfl ?_
  refine g_iload_n F (q := 9) (dk dX5_addEar 4 rfl) rfl rfl 1 rfl ?_
  refine g_iast F (q := 10) ne h2 (by omega) rfl (by omega) (by decide) (dk dX5_addEar 5 rfl) rfl (fun E9 hE9 hO9 => ?_)
  refine g_aload_n F (q := 11) (dk dX5_addEar 6 rfl) rfl rfl 0 rfl ?_
  refine g_dup F (q := 12) (dk dX5_addEar 7 rfl) rfl rfl ?_
  have hc1 := (hO9 1 (by omega)).trans h1
  refine g_getf F (q := 15) hc1 rfl inX5 (by omega) (j := 7) (by decide) tq_92 rfl rfl (dk dX5_addEar 8 rfl) rfl ?_
  refine g_iconst F (q := 16) (v := 1) (dk dX5_addEar 9 rfl) rfl (by decide) ?_
  refine g_iadd F (q := 17) (dk dX5_addEar 10 rfl) rfl ?_
  refine g_sti (nA rfl rfl) ?_
  refine g_putf F (q := 20) (ty := .int) hc1 rfl inX5 tyX5 tyX5_ok nmX5 (by omega) (j := 7) (by decide) tq_92 rfl rfl (by decide +kernel) rfl rfl (Nat.le_of_ble_eq_true rfl) (dk dX5_addEar 11 rfl) rfl (fun E17 hE17 hO17 => ?_)
  have hE17 : E17 1 = .inr (5, [.ref (ad 2), .ref (ad 3), .ref (ad 4), .ref (ad 5), .ref (ad 6), .ref (ad 7), .ref (ad 22), .int (nI ((ne + 1))), .int v01, .int v02, .int v03]) := hE17
  refine g_aload_n F (q := 21) (dk dX5_addEar 12 rfl) rfl rfl 0 rfl ?_
  refine g_getf F (q := 24) hE17 rfl inX5 (by omega) (j := 7) (by decide) tq_92 rfl rfl (dk dX5_addEar 13 rfl) rfl ?_
  refine g_iconst F (q := 25) (v := 1) (dk dX5_addEar 14 rfl) rfl (by decide) ?_
  refine g_isub F (q := 26) (dk dX5_addEar 15 rfl) rfl ?_
  refine g_sti (y := (nI ne)) (nI_pred ne) ?_
  have hc2 := (hO17 2 (by omega)).trans hE9
  refine hret (nI ne) E17 _ _ (dk dX5_addEar 16 rfl) (nint _) ?_
  exact ⟨rfl, hE17, hc2, (fun j hj => ((hO17 j (by omega)).trans (hO9 j (by omega))))⟩
theorem kv_X5_addEar : KV yX5_addEar "ThumpEars$State" cX5_addEar 2 (some .int) 1 := ⟨tq_290, tq_291, tq_10, tq_292, by decide +kernel⟩
abbrev rm_X5_reading : Room := { frames := 1, cells := 0, slots := 0, locals := 22 }
set_option maxHeartbeats 4000000 in
set_option maxRecDepth 100000 in
theorem c_X5_reading {l : Launch} {D : va_G} {cA : Nat → ClassId} {ad : Nat → Nat} {E : Nat → va_E} {v00 v01 v02 v03 : Int32} {e : Nat} {t : Int32} {of dr : Nat → Int32}  (h1 : E 1 = .inr (5, [.ref (ad 2), .ref (ad 3), .ref (ad 4), .ref (ad 5), .ref (ad 6), .ref (ad 7), .ref (ad 22), .int v00, .int v01, .int v02, .int v03])) (h3 : E 3 = .inl (cA 0, 10, .inl of)) (h4 : E 4 = .inl (cA 0, 10, .inl dr))  (he : e < 10) : CtI l D cA yX5_reading cX5_reading 3 .int rm_X5_reading 235 ad E [.ref (ad 1), .int (nI e), .int t] (fun x E' => (t + of e + fdi (dr e * t) 10000) = x ∧ E = E') := by
  refine CtI.of (by decide +kernel) (Nat.le_of_ble_eq_true rfl) (fun X F hret => ?_)
  have F : Fr "ThumpEars$State" cX5_reading 3 D cA X := F
  refine (show GG rm_X5_reading 3 l D X 0 0 235 ad E 0 [(0, .ref (ad 1)), (1, .int (nI e)), (2, .int t)] [] from ?_)
  refine g_iload_n F (q := 1) (dk dX5_reading 0 rfl) rfl rfl 2 rfl ?_
  refine g_aload_n F (q := 2) (dk dX5_reading 1 rfl) rfl rfl 0 rfl ?_
  refine g_getf F (q := 5) h1 rfl inX5 (by omega) (j := 1) (by decide) tq_77 rfl rfl (dk dX5_reading 2 rfl) rfl ?_
  refine g_iload_n F (q := 6) (dk dX5_reading 3 rfl) rfl rfl 1 rfl ?_
  refine g_iald F (q := 7) e h3 (by omega) rfl (by omega) (by decide) (dk dX5_reading 4 rfl) rfl ?_
  refine g_iadd F (q := 8) (dk dX5_reading 5 rfl) rfl ?_
  refine g_aload_n F (q := 9) (dk dX5_reading 6 rfl) rfl rfl 0 rfl ?_
  refine g_getf F (q := 12) h1 rfl inX5 (by omega) (j := 2) (by decide) tq_79 rfl rfl (dk dX5_reading 7 rfl) rfl ?_
  refine g_iload_n F (q := 13) (dk dX5_reading 8 rfl) rfl rfl 1 rfl ?_
  refine g_iald F (q := 14) e h4 (by omega) rfl (by omega) (by decide) (dk dX5_reading 9 rfl) rfl ?_
  refine g_iload_n F (q := 15) (dk dX5_reading 10 rfl) rfl rfl 2 rfl ?_
  refine g_imul F (q := 16) (dk dX5_reading 11 rfl) rfl ?_
  refine g_sipush F (q := 19) (v := 10000) (dk dX5_reading 12 rfl) rfl (by decide) ?_
  refine g_callSI F (q := 22) (av := [.int ((dr e) * t), .int 10000]) (st := [.int (t + (of e))]) (c_J9_floorDiv_7cf53 (a := ((dr e) * t)) (b := 10000) (by first | assumption | decide | omega)) ks_J9_floorDiv_7cf53 tq_448 ⟨rfl, rfl⟩ (by decide) ⟨Nat.le_refl _, Nat.le_refl _⟩ rfl rfl (Nat.le_of_ble_eq_true rfl) (dk dX5_reading 13 rfl) rfl (fun r19 E19 hp19 => ?_)
  obtain ⟨rfl, rfl⟩ := hp19
  refine g_iadd F (q := 23) (dk dX5_reading 14 rfl) rfl ?_
  refine hret ((t + (of e)) + (fdi ((dr e) * t) 10000)) E _ _ (dk dX5_reading 15 rfl) (nint _) ?_
  exact ⟨rfl, rfl⟩
theorem kv_X5_reading : KV yX5_reading "ThumpEars$State" cX5_reading 3 (some .int) 2 := ⟨tq_445, tq_446, tq_10, tq_447, by decide +kernel⟩
abbrev rm_X5_wayTo : Room := { frames := 1, cells := 0, slots := 0, locals := 24 }
set_option maxHeartbeats 4000000 in
set_option maxRecDepth 100000 in
theorem c_X5_wayTo {l : Launch} {D : va_G} {cA : Nat → ClassId} {ad : Nat → Nat} {E : Nat → va_E} {v00 v01 v02 v03 : Int32} {e : Nat} {p : Int32} {pl : Nat → Int32}  (h1 : E 1 = .inr (5, [.ref (ad 2), .ref (ad 3), .ref (ad 4), .ref (ad 5), .ref (ad 6), .ref (ad 7), .ref (ad 22), .int v00, .int v01, .int v02, .int v03])) (h2 : E 2 = .inl (cA 0, 10, .inl pl))  (he : e < 10) : CtI l D cA yX5_wayTo cX5_wayTo 3 .int rm_X5_wayTo 235 ad E [.ref (ad 1), .int (nI e), .int p] (fun x E' => (if 0 ≤ p - pl e then p - pl e else 0 - (p - pl e)) = x ∧ E = E') := by
  refine CtI.of (by decide +kernel) (Nat.le_of_ble_eq_true rfl) (fun X F hret => ?_)
  have F : Fr "ThumpEars$State" cX5_wayTo 3 D cA X := F
  refine (show GG rm_X5_wayTo 3 l D X 0 0 235 ad E 0 [(0, .ref (ad 1)), (1, .int (nI e)), (2, .int p)] [] from ?_)
  refine g_iload_n F (q := 1) (dk dX5_wayTo 0 rfl) rfl rfl 2 rfl ?_
  refine g_aload_n F (q := 2) (dk dX5_wayTo 1 rfl) rfl rfl 0 rfl ?_
  refine g_getf F (q := 5) h1 rfl inX5 (by omega) (j := 0) (by decide) tq_74 rfl rfl (dk dX5_wayTo 2 rfl) rfl ?_
  refine g_iload_n F (q := 6) (dk dX5_wayTo 3 rfl) rfl rfl 1 rfl ?_
  refine g_iald F (q := 7) e h2 (by omega) rfl (by omega) (by decide) (dk dX5_wayTo 4 rfl) rfl ?_
  refine g_isub F (q := 8) (dk dX5_wayTo 5 rfl) rfl ?_
  refine g_mabs F (q := 11) tq_323 tq_324 tq_17 tq_325 (by decide) (Nat.le_of_ble_eq_true rfl) ⟨Nat.le_refl _, Nat.le_refl _⟩ (dk dX5_wayTo 6 rfl) rfl ?_
  refine hret (if 0 ≤ (p - (pl e)) then (p - (pl e)) else 0 - (p - (pl e))) E _ _ (dk dX5_wayTo 7 rfl) (nint _) ?_
  exact ⟨rfl, rfl⟩
theorem kv_X5_wayTo : KV yX5_wayTo "ThumpEars$State" cX5_wayTo 3 (some .int) 2 := ⟨tq_320, tq_321, tq_10, tq_322, by decide +kernel⟩
abbrev rm_X5_canHear : Room := { frames := 2, cells := 0, slots := 0, locals := 46 }
set_option maxHeartbeats 4000000 in
set_option maxRecDepth 100000 in
theorem c_X5_canHear {l : Launch} {D : va_G} {cA : Nat → ClassId} {ad : Nat → Nat} {E : Nat → va_E} {v01 v02 v03 : Int32} {ne e : Nat} {p c : Int32} {pl mu : Nat → Int32}  (h1 : E 1 = .inr (5, [.ref (ad 2), .ref (ad 3), .ref (ad 4), .ref (ad 5), .ref (ad 6), .ref (ad 7), .ref (ad 22), .int (nI ne), .int v01, .int v02, .int v03])) (h2 : E 2 = .inl (cA 0, 10, .inl pl)) (h5 : E 5 = .inl (cA 2, 10, .inl mu))  (hne : ne ≤ 10) (he : e < 10) : CtI l D cA yX5_canHear cX5_canHear 4 .boolean rm_X5_canHear 235 ad E [.ref (ad 1), .int (nI e), .int p, .int c] (fun x E' => (E = E' ∧ 1 = x ∧ (e < ne ∧ mu e = 0 ∧ (if 0 ≤ p - pl e then p - pl e else 0 - (p - pl e)) ≤ c)) ∨ (E = E' ∧ 0 = x ∧ ¬ (e < ne ∧ mu e = 0 ∧ (if 0 ≤ p - pl e then p - pl e else 0 - (p - pl e)) ≤ c))) := by
  refine CtI.of (by decide +kernel) (Nat.le_of_ble_eq_true rfl) (fun X F hret => ?_)
  have F : Fr "ThumpEars$State" cX5_canHear 4 D cA X := F
  refine (show GG rm_X5_canHear 4 l D X 0 0 235 ad E 0 [(0, .ref (ad 1)), (1, .int (nI e)), (2, .int p), (3, .int c)] [] from ?_)
  refine g_aload_n F (q := 1) (dk dX5_canHear 0 rfl) rfl rfl 0 rfl ?_
  refine g_iload_n F (q := 2) (dk dX5_canHear 1 rfl) rfl rfl 1 rfl ?_
  refine g_callVI F (q := 5) (av := [.int (nI e)]) (st := []) (c_X5_hasEar (ear := (nI e)) h1 (by first | assumption | decide | omega)) kv_X5_hasEar tq_568 h1 rfl (by omega) ⟨rfl, rfl⟩ (by decide) ⟨Nat.le_refl _, Nat.le_refl _⟩ rfl rfl (Nat.le_of_ble_eq_true rfl) (dk dX5_canHear 2 rfl) rfl (fun r2 E2 hp2 => ?_)
  rcases hp2 with ⟨rfl, rfl, b2⟩ | ⟨rfl, rfl, b2⟩
  · have hen : e < ne := by obtain ⟨x, hx, hy⟩ := b2; rw [nI_eq (by omega) (by omega)] at hy; omega
    refine g_if_eq F (q := 8) (tgt := 31) (dk dX5_canHear 3 rfl) (by decide) rfl (fun h => absurd h (by decide)) (fun _ => ?_)
    refine g_aload_n F (q := 9) (dk dX5_canHear 4 rfl) rfl rfl 0 rfl ?_
    refine g_getf F (q := 12) h1 rfl inX5 (by omega) (j := 3) (by decide) tq_81 rfl rfl (dk dX5_canHear 5 rfl) rfl ?_
    refine g_iload_n F (q := 13) (dk dX5_canHear 6 rfl) rfl rfl 1 rfl ?_
    refine g_zald F (q := 14) e h5 (by omega) rfl (by omega) (by decide) (dk dX5_canHear 7 rfl) rfl ?_
    refine g_if_ne F (q := 17) (tgt := 31) (dk dX5_canHear 8 rfl) (by decide) rfl (fun c14 => ?_) (fun c14 => ?_)
    · refine g_iconst F (q := 32) (v := 0) (dk dX5_canHear 17 rfl) rfl (by decide) ?_
      refine hret 0 E _ _ (dk dX5_canHear 18 rfl) rfl ?_
      exact Or.inr ⟨rfl, rfl, (fun h => c14 h.2.1)⟩
    · refine g_aload_n F (q := 18) (dk dX5_canHear 9 rfl) rfl rfl 0 rfl ?_
      refine g_iload_n F (q := 19) (dk dX5_canHear 10 rfl) rfl rfl 1 rfl ?_
      refine g_iload_n F (q := 20) (dk dX5_canHear 11 rfl) rfl rfl 2 rfl ?_
      refine g_callVI F (q := 23) (av := [.int (nI e), .int p]) (st := []) (c_X5_wayTo (e := e) (p := p) h1 h2 (by first | assumption | decide | omega)) kv_X5_wayTo tq_569 h1 rfl (by omega) ⟨rfl, rfl⟩ (by decide) ⟨Nat.le_refl _, Nat.le_refl _⟩ rfl rfl (Nat.le_of_ble_eq_true rfl) (dk dX5_canHear 12 rfl) rfl (fun r20 E20 hp20 => ?_)
      obtain ⟨rfl, rfl⟩ := hp20
      refine g_iload_n F (q := 24) (dk dX5_canHear 13 rfl) rfl rfl 3 rfl ?_
      refine g_icmp_gt F (q := 27) (tgt := 31) (dk dX5_canHear 14 rfl) (by decide) rfl (fun c24 => ?_) (fun c24 => ?_)
      · refine g_iconst F (q := 32) (v := 0) (dk dX5_canHear 17 rfl) rfl (by decide) ?_
        refine hret 0 E _ _ (dk dX5_canHear 18 rfl) rfl ?_
        exact Or.inr ⟨rfl, rfl, (fun h => absurd h.2.2 (Int32.not_le.mpr c24))⟩
      · refine g_iconst F (q := 28) (v := 1) (dk dX5_canHear 15 rfl) rfl (by decide) ?_
        refine g_goto F (tgt := 32) (dk dX5_canHear 16 rfl) (by decide) ?_
        refine hret 1 E _ _ (dk dX5_canHear 18 rfl) rfl ?_
        exact Or.inl ⟨rfl, rfl, ⟨hen, c14, Int32.not_lt.mp c24⟩⟩
  · have hen : ¬ e < ne := fun h => ixN h (by omega) b2
    refine g_if_eq F (q := 8) (tgt := 31) (dk dX5_canHear 3 rfl) (by decide) rfl (fun _ => ?_) (fun h => absurd h (by decide))
    refine g_iconst F (q := 32) (v := 0) (dk dX5_canHear 17 rfl) rfl (by decide) ?_
    refine hret 0 E _ _ (dk dX5_canHear 18 rfl) rfl ?_
    exact Or.inr ⟨rfl, rfl, (fun h => hen h.1)⟩
theorem kv_X5_canHear : KV yX5_canHear "ThumpEars$State" cX5_canHear 4 (some .boolean) 3 := ⟨tq_565, tq_566, tq_10, tq_567, by decide +kernel⟩
abbrev rm_X3_has_a : Room := { frames := 0, cells := 0, slots := 0, locals := 0 }
set_option maxHeartbeats 4000000 in
set_option maxRecDepth 100000 in
theorem c_X3_has_a {l : Launch} {D : va_G} {cA : Nat → ClassId} {ad : Nat → Nat} {E : Nat → va_E} {m : Nat} {x0 : Int32} (h7 : E 7 = .inr (3, [.ref (ad 8), .ref (ad 9), .ref (ad 10), .ref (ad 11), .int (nI m)]))  (hm : m ≤ 10) : CtI l D cA yX3_has cX3_has 2 .boolean rm_X3_has_a 235 ad E [.ref (ad 7), .int x0] (fun x E' => (E = E' ∧ 1 = x ∧ (∃ e : Nat, e < m ∧ x0 = nI e)) ∨ (E = E' ∧ 0 = x ∧ (x0 < 0 ∨ m ≤ x0.toNatClampNeg))) := by
  refine CtI.of (by decide +kernel) (Nat.le_of_ble_eq_true rfl) (fun X F hret => ?_)
  have F : Fr "ThumpEars$Sounds" cX3_has 2 D cA X := F
  refine (show GG rm_X3_has_a 2 l D X 0 0 235 ad E 0 [(0, .ref (ad 7)), (1, .int x0)] [] from ?_)
  refine g_iload_n F (q := 1) (dk dX3_has 0 rfl) rfl rfl 1 rfl ?_
  refine g_if_lt F (q := 4) (tgt := 16) (dk dX3_has 1 rfl) (by decide) rfl (fun c1 => ?_) (fun c1 => ?_)
  · refine g_iconst F (q := 17) (v := 0) (dk dX3_has 8 rfl) rfl (by decide) ?_
    have hq := ixB x0 m (by omega)
    refine hret 0 E _ _ (dk dX3_has 9 rfl) rfl ?_
    exact Or.inr ⟨rfl, rfl, Or.inl c1⟩
  · refine g_iload_n F (q := 5) (dk dX3_has 2 rfl) rfl rfl 1 rfl ?_
    refine g_aload_n F (q := 6) (dk dX3_has 3 rfl) rfl rfl 0 rfl ?_
    refine g_getf F (q := 9) h7 rfl inX3 (by omega) (j := 4) (by decide) tq_57 rfl rfl (dk dX3_has 4 rfl) rfl ?_
    refine g_icmp_ge F (q := 12) (tgt := 16) (dk dX3_has 5 rfl) (by decide) rfl (fun c9 => ?_) (fun c9 => ?_)
    · refine g_iconst F (q := 17) (v := 0) (dk dX3_has 8 rfl) rfl (by decide) ?_
      have hq := ixB x0 m (by omega)
      refine hret 0 E _ _ (dk dX3_has 9 rfl) rfl ?_
      rcases hq with hq | ⟨e, he, rfl⟩
      · exact Or.inr ⟨rfl, rfl, hq⟩
      · exact absurd c9 (nI_ge he (by omega))
    · refine g_iconst F (q := 13) (v := 1) (dk dX3_has 6 rfl) rfl (by decide) ?_
      refine g_goto F (tgt := 17) (dk dX3_has 7 rfl) (by decide) ?_
      have hq := ixB x0 m (by omega)
      refine hret 1 E _ _ (dk dX3_has 9 rfl) rfl ?_
      rcases hq with hq | hq
      · exfalso
        rcases hq with hq | hq
        · exact absurd hq c1
        · obtain ⟨j, hj, hje⟩ := nI_of c1
          subst hje
          rw [nI_c hj] at hq
          exact c9 (nI_le hq hj)
      · exact Or.inl ⟨rfl, rfl, hq⟩
theorem kv_X3_has : KV yX3_has "ThumpEars$Sounds" cX3_has 2 (some .boolean) 1 := ⟨tq_391, tq_392, tq_11, tq_393, by decide +kernel⟩
abbrev rm_X3_has_b : Room := { frames := 0, cells := 0, slots := 0, locals := 0 }
set_option maxHeartbeats 4000000 in
set_option maxRecDepth 100000 in
theorem c_X3_has_b {l : Launch} {D : va_G} {cA : Nat → ClassId} {ad : Nat → Nat} {E : Nat → va_E} {m : Nat} {x0 : Int32} (h22 : E 22 = .inr (3, [.ref (ad 23), .ref (ad 24), .ref (ad 25), .ref (ad 26), .int (nI m)]))  (hm : m ≤ 10) : CtI l D cA yX3_has cX3_has 2 .boolean rm_X3_has_b 235 ad E [.ref (ad 22), .int x0] (fun x E' => (E = E' ∧ 1 = x ∧ (∃ e : Nat, e < m ∧ x0 = nI e)) ∨ (E = E' ∧ 0 = x ∧ (x0 < 0 ∨ m ≤ x0.toNatClampNeg))) := by
  refine CtI.of (by decide +kernel) (Nat.le_of_ble_eq_true rfl) (fun X F hret => ?_)
  have F : Fr "ThumpEars$Sounds" cX3_has 2 D cA X := F
  refine (show GG rm_X3_has_b 2 l D X 0 0 235 ad E 0 [(0, .ref (ad 22)), (1, .int x0)] [] from ?_)
  refine g_iload_n F (q := 1) (dk dX3_has 0 rfl) rfl rfl 1 rfl ?_
  refine g_if_lt F (q := 4) (tgt := 16) (dk dX3_has 1 rfl) (by decide) rfl (fun c1 => ?_) (fun c1 => ?_)
  · refine g_iconst F (q := 17) (v := 0) (dk dX3_has 8 rfl) rfl (by decide) ?_
    have hq := ixB x0 m (by omega)
    refine hret 0 E _ _ (dk dX3_has 9 rfl) rfl ?_
    exact Or.inr ⟨rfl, rfl, Or.inl c1⟩
  · refine g_iload_n F (q := 5) (dk dX3_has 2 rfl) rfl rfl 1 rfl ?_
    refine g_aload_n F (q := 6) (dk dX3_has 3 rfl) rfl rfl 0 rfl ?_
    refine g_getf F (q := 9) h22 rfl inX3 (by omega) (j := 4) (by decide) tq_57 rfl rfl (dk dX3_has 4 rfl) rfl ?_
    refine g_icmp_ge F (q := 12) (tgt := 16) (dk dX3_has 5 rfl) (by decide) rfl (fun c9 => ?_) (fun c9 => ?_)
    · refine g_iconst F (q := 17) (v := 0) (dk dX3_has 8 rfl) rfl (by decide) ?_
      have hq := ixB x0 m (by omega)
      refine hret 0 E _ _ (dk dX3_has 9 rfl) rfl ?_
      rcases hq with hq | ⟨e, he, rfl⟩
      · exact Or.inr ⟨rfl, rfl, hq⟩
      · exact absurd c9 (nI_ge he (by omega))
    · refine g_iconst F (q := 13) (v := 1) (dk dX3_has 6 rfl) rfl (by decide) ?_
      refine g_goto F (tgt := 17) (dk dX3_has 7 rfl) (by decide) ?_
      have hq := ixB x0 m (by omega)
      refine hret 1 E _ _ (dk dX3_has 9 rfl) rfl ?_
      rcases hq with hq | hq
      · exfalso
        rcases hq with hq | hq
        · exact absurd hq c1
        · obtain ⟨j, hj, hje⟩ := nI_of c1
          subst hje
          rw [nI_c hj] at hq
          exact c9 (nI_le hq hj)
      · exact Or.inl ⟨rfl, rfl, hq⟩
