abbrev rm_X7_in : Room := { frames := 0, cells := 0, slots := 0, locals := 0 }
set_option maxHeartbeats 4000000 in
set_option maxRecDepth 100000 in
theorem c_X7_in {l : Launch} {D : va_G} {cA : Nat → ClassId} {ad : Nat → Nat} {E : Nat → va_E} {v a b : Int32}   : CtI l D cA yX7_in cX7_in 3 .boolean rm_X7_in 243 ad E [.int v, .int a, .int b] (fun x E' => (E = E' ∧ 1 = x ∧ (a ≤ v ∧ v ≤ b)) ∨ (E = E' ∧ 0 = x ∧ ¬ (a ≤ v ∧ v ≤ b))) := by
  refine CtI.of (by decide +kernel) (Nat.le_of_ble_eq_true rfl) (fun X F hret => ?_)
  have F : Fr "ThumpEarsModel" cX7_in 3 D cA X := F
  refine (show GG rm_X7_in 3 l D X 0 0 243 ad E 0 [(0, .int v), (1, .int a), (2, .int b)] [] from ?_)
  refine g_iload_n F (dk dX7_in 0 rfl) rfl rfl 0 rfl ?_
  refine g_iload_n F (dk dX7_in 1 rfl) rfl rfl 1 rfl ?_
  refine g_icmp_lt F (tgt := 14) (dk dX7_in 2 rfl) (by decide) rfl (fun c2 => ?_) (fun c2 => ?_)
  · refine g_iconst F (v := 0) (dk dX7_in 8 rfl) rfl (by decide) ?_
    refine hret 0 E _ _ (dk dX7_in 9 rfl) rfl ?_
    exact Or.inr ⟨rfl, rfl, fun h => absurd h.1 (Int32.not_le.mpr c2)⟩
  · refine g_iload_n F (dk dX7_in 3 rfl) rfl rfl 0 rfl ?_
    refine g_iload_n F (dk dX7_in 4 rfl) rfl rfl 2 rfl ?_
    refine g_icmp_gt F (tgt := 14) (dk dX7_in 5 rfl) (by decide) rfl (fun c7 => ?_) (fun c7 => ?_)
    · refine g_iconst F (v := 0) (dk dX7_in 8 rfl) rfl (by decide) ?_
      refine hret 0 E _ _ (dk dX7_in 9 rfl) rfl ?_
      exact Or.inr ⟨rfl, rfl, fun h => absurd h.2 (Int32.not_le.mpr c7)⟩
    · refine g_iconst F (v := 1) (dk dX7_in 6 rfl) rfl (by decide) ?_
      refine g_goto F (tgt := 15) (dk dX7_in 7 rfl) (by decide) ?_
      refine hret 1 E _ _ (dk dX7_in 9 rfl) rfl ?_
      exact Or.inl ⟨rfl, rfl, Int32.not_lt.mp c2, Int32.not_lt.mp c7⟩
theorem ks_X7_in : KS yX7_in "ThumpEarsModel" cX7_in 3 (some .boolean) 3 := ⟨tq_708, tq_47, tq_709, by decide +kernel⟩
abbrev rm_X7_far : Room := { frames := 0, cells := 0, slots := 0, locals := 0 }
set_option maxHeartbeats 4000000 in
set_option maxRecDepth 100000 in
theorem c_X7_far {l : Launch} {D : va_G} {cA : Nat → ClassId} {ad : Nat → Nat} {E : Nat → va_E} {a b : Int32}   : CtI l D cA yX7_far cX7_far 2 .int rm_X7_far 243 ad E [.int a, .int b] (fun x E' => E = E' ∧ far a b = x) := by
  refine CtI.of (by decide +kernel) (Nat.le_of_ble_eq_true rfl) (fun X F hret => ?_)
  have F : Fr "ThumpEarsModel" cX7_far 2 D cA X := F
  refine (show GG rm_X7_far 2 l D X 0 0 243 ad E 0 [(0, .int a), (1, .int b)] [] from ?_)
  refine g_iload_n F (dk dX7_far 0 rfl) rfl rfl 0 rfl ?_
  refine g_iload_n F (dk dX7_far 1 rfl) rfl rfl 1 rfl ?_
  refine g_icmp_ge F (tgt := 11) (dk dX7_far 2 rfl) (by decide) rfl (fun c2 => ?_) (fun c2 => ?_)
  · refine g_iload_n F (dk dX7_far 7 rfl) rfl rfl 0 rfl ?_
    refine g_iload_n F (dk dX7_far 8 rfl) rfl rfl 1 rfl ?_
    refine g_isub F (dk dX7_far 9 rfl) rfl ?_
    refine hret (a - b) E _ _ (dk dX7_far 10 rfl) (nint _) ?_
    exact ⟨rfl, if_neg (Int32.not_lt.mpr c2)⟩
  · refine g_iload_n F (dk dX7_far 3 rfl) rfl rfl 1 rfl ?_
    refine g_iload_n F (dk dX7_far 4 rfl) rfl rfl 0 rfl ?_
    refine g_isub F (dk dX7_far 5 rfl) rfl ?_
    refine g_goto F (tgt := 14) (dk dX7_far 6 rfl) (by decide) ?_
    refine hret (b - a) E _ _ (dk dX7_far 10 rfl) (nint _) ?_
    exact ⟨rfl, if_pos (Int32.not_le.mp c2)⟩
theorem ks_X7_far : KS yX7_far "ThumpEarsModel" cX7_far 2 (some .int) 2 := ⟨tq_748, tq_47, tq_749, by decide +kernel⟩
abbrev rm_X7_down : Room := { frames := 0, cells := 0, slots := 0, locals := 0 }
set_option maxHeartbeats 4000000 in
set_option maxRecDepth 100000 in
theorem c_X7_down {l : Launch} {D : va_G} {cA : Nat → ClassId} {ad : Nat → Nat} {E : Nat → va_E} {a b : Int64}  (hb0 : ¬ b = 0) : CtL l D cA yX7_down cX7_down 6 rm_X7_down 243 ad E [.long a, .long b] (fun x E' => E = E' ∧ dn a b = x) := by
  refine CtL.of (by decide +kernel) (Nat.le_of_ble_eq_true rfl) (fun X F hret => ?_)
  have F : Fr "ThumpEarsModel" cX7_down 6 D cA X := F
  refine (show GG rm_X7_down 6 l D X 0 0 243 ad E 0 [(0, .long a), (2, .long b)] [] from ?_)
  refine g_lload_n F (dk dX7_down 0 rfl) rfl rfl 0 rfl ?_
  refine g_lload_n F (dk dX7_down 1 rfl) rfl rfl 1 rfl ?_
  refine g_ldiv F (dk dX7_down 2 rfl) rfl hb0 ?_
  refine g_lstore F (lv' := [(4, .long (a / b)), (0, .long a), (2, .long b)]) (dk dX7_down 3 rfl) rfl (Nat.le_of_ble_eq_true rfl) rfl ?_
  refine g_lload F (dk dX7_down 4 rfl) rfl 0 rfl ?_
  refine g_lload_n F (dk dX7_down 5 rfl) rfl rfl 2 rfl ?_
  refine g_lmul F (dk dX7_down 6 rfl) rfl ?_
  refine g_lload_n F (dk dX7_down 7 rfl) rfl rfl 1 rfl ?_
  refine g_lcmp_le F (tgt := 21) (dk dX7_down 8 rfl) (dk dX7_down 9 rfl) (by decide) rfl (fun c10 => ?_) (fun c10 => ?_)
  · refine g_lload F (dk dX7_down 14 rfl) rfl 0 rfl ?_
    refine hret (a / b) E _ _ (dk dX7_down 15 rfl) ?_
    exact ⟨rfl, if_neg (Int64.not_lt.mpr c10)⟩
  · refine g_lload F (dk dX7_down 10 rfl) rfl 0 rfl ?_
    refine g_lconst F (v := 1) (dk dX7_down 11 rfl) rfl (by decide) ?_
    refine g_lsub F (dk dX7_down 12 rfl) rfl ?_
    refine g_goto F (tgt := 23) (dk dX7_down 13 rfl) (by decide) ?_
    refine hret ((a / b) - 1) E _ _ (dk dX7_down 15 rfl) ?_
    exact ⟨rfl, if_pos (Int64.not_le.mp c10)⟩
theorem ks_X7_down : KS yX7_down "ThumpEarsModel" cX7_down 6 (some .long) 2 := ⟨tq_756, tq_47, tq_757, by decide +kernel⟩
abbrev rm_X7_toldAs : Room := { frames := 0, cells := 0, slots := 0, locals := 0 }
set_option maxHeartbeats 4000000 in
set_option maxRecDepth 100000 in
theorem c_X7_toldAs {l : Launch} {D : va_G} {cA : Nat → ClassId} {ad : Nat → Nat} {E : Nat → va_E} {a : Int32}   : CtL l D cA yX7_toldAs cX7_toldAs 1 rm_X7_toldAs 243 ad E [.int a] (fun x E' => E = E' ∧ toldAs a = x) := by
  refine CtL.of (by decide +kernel) (Nat.le_of_ble_eq_true rfl) (fun X F hret => ?_)
  have F : Fr "ThumpEarsModel" cX7_toldAs 1 D cA X := F
  refine (show GG rm_X7_toldAs 1 l D X 0 0 243 ad E 0 [(0, .int a)] [] from ?_)
  refine g_ldc2 F (v := (-9223372036854775808)) (dk dX7_toldAs 0 rfl) rfl tq_846 ?_
  refine g_iload_n F (dk dX7_toldAs 1 rfl) rfl rfl 0 rfl ?_
  refine g_i2l F (dk dX7_toldAs 2 rfl) rfl ?_
  refine g_lsub F (dk dX7_toldAs 3 rfl) rfl ?_
  refine hret ((-9223372036854775808) - a.toInt64) E _ _ (dk dX7_toldAs 4 rfl) ?_
  exact ⟨rfl, rfl⟩
theorem ks_X7_toldAs : KS yX7_toldAs "ThumpEarsModel" cX7_toldAs 1 (some .long) 1 := ⟨tq_844, tq_47, tq_845, by decide +kernel⟩
abbrev rm_X7_of : Room := { frames := 0, cells := 0, slots := 0, locals := 0 }
set_option maxHeartbeats 4000000 in
set_option maxRecDepth 100000 in
theorem c_X7_of {l : Launch} {D : va_G} {cA : Nat → ClassId} {ad : Nat → Nat} {E : Nat → va_E} {s : Nat → Int32} {lo mo : Int64} {r : Nat → Int32} {e w : Nat} (h233 : E 233 = .inr (7, [.ref (ad 234), .ref (ad 235), .ref (ad 236), .ref (ad 237), .int (s 0), .int (s 1), .ref (ad 238), .int (s 2), .int (s 3), .int (s 4), .int (s 5), .ref (ad 239), .ref (ad 240), .ref (ad 241), .long lo, .long mo, .ref (ad 242)])) (h234 : E 234 = .inl (cA 0, 346, .inl r)) (hw : 6 + 4 * e + w < 346) : CtI l D cA yX7_of cX7_of 3 .int rm_X7_of 243 ad E [.ref (ad 233), .int (nI e), .int (nI w)] (fun x E' => E = E' ∧ r (6 + 4 * e + w) = x) := by
  refine CtI.of (by decide +kernel) (Nat.le_of_ble_eq_true rfl) (fun X F hret => ?_)
  have F : Fr "ThumpEarsModel" cX7_of 3 D cA X := F
  refine (show GG rm_X7_of 3 l D X 0 0 243 ad E 0 [(0, .ref (ad 233)), (1, .int (nI e)), (2, .int (nI w))] [] from ?_)
  refine g_aload_n F (dk dX7_of 0 rfl) rfl rfl 0 rfl ?_
  refine g_getf F h233 rfl inX7 (by omega) (j := 0) (by decide) tq_623 rfl rfl (dk dX7_of 1 rfl) rfl ?_
  refine g_bipush F (v := 6) (dk dX7_of 2 rfl) rfl (by decide) ?_
  refine g_iconst F (v := 4) (dk dX7_of 3 rfl) rfl (by decide) ?_
  refine g_iload_n F (dk dX7_of 4 rfl) rfl rfl 1 rfl ?_
  refine g_imul F (dk dX7_of 5 rfl) rfl ?_
  refine g_iadd F (dk dX7_of 6 rfl) rfl ?_
  refine g_iload_n F (dk dX7_of 7 rfl) rfl rfl 2 rfl ?_
  refine g_iadd F (dk dX7_of 8 rfl) rfl ?_
  refine g_iald F (((6 + (4 * e)) + w)) h234 (by omega) (nA (nA rfl (nM rfl rfl)) rfl) (by omega) (by decide) (dk dX7_of 9 rfl) rfl ?_
  refine hret (r (((6 + (4 * e)) + w))) E _ _ (dk dX7_of 10 rfl) (nint _) ?_
  exact ⟨rfl, rfl⟩
theorem kv_X7_of : KV yX7_of "ThumpEarsModel" cX7_of 3 (some .int) 2 := ⟨tq_720, tq_13, tq_47, tq_721, by decide +kernel⟩
abbrev rm_X7_come : Room := { frames := 0, cells := 0, slots := 0, locals := 0 }
set_option maxHeartbeats 4000000 in
set_option maxRecDepth 100000 in
theorem c_X7_come {l : Launch} {D : va_G} {cA : Nat → ClassId} {ad : Nat → Nat} {E : Nat → va_E} {s : Nat → Int32} {lo mo : Int64} {r : Nat → Int32} {k m w : Nat} (h233 : E 233 = .inr (7, [.ref (ad 234), .ref (ad 235), .ref (ad 236), .ref (ad 237), .int (s 0), .int (s 1), .ref (ad 238), .int (s 2), .int (s 3), .int (s 4), .int (s 5), .ref (ad 239), .ref (ad 240), .ref (ad 241), .long lo, .long mo, .ref (ad 242)])) (h234 : E 234 = .inl (cA 0, 346, .inl r)) (hw : 46 + 50 * k + 5 * m + w < 346) : CtI l D cA yX7_come cX7_come 4 .int rm_X7_come 243 ad E [.ref (ad 233), .int (nI k), .int (nI m), .int (nI w)] (fun x E' => E = E' ∧ r (46 + 50 * k + 5 * m + w) = x) := by
  refine CtI.of (by decide +kernel) (Nat.le_of_ble_eq_true rfl) (fun X F hret => ?_)
  have F : Fr "ThumpEarsModel" cX7_come 4 D cA X := F
  refine (show GG rm_X7_come 4 l D X 0 0 243 ad E 0 [(0, .ref (ad 233)), (1, .int (nI k)), (2, .int (nI m)), (3, .int (nI w))] [] from ?_)
  refine g_aload_n F (dk dX7_come 0 rfl) rfl rfl 0 rfl ?_
  refine g_getf F h233 rfl inX7 (by omega) (j := 0) (by decide) tq_623 rfl rfl (dk dX7_come 1 rfl) rfl ?_
  refine g_bipush F (v := 46) (dk dX7_come 2 rfl) rfl (by decide) ?_
  refine g_bipush F (v := 50) (dk dX7_come 3 rfl) rfl (by decide) ?_
  refine g_iload_n F (dk dX7_come 4 rfl) rfl rfl 1 rfl ?_
  refine g_imul F (dk dX7_come 5 rfl) rfl ?_
  refine g_iadd F (dk dX7_come 6 rfl) rfl ?_
  refine g_iconst F (v := 5) (dk dX7_come 7 rfl) rfl (by decide) ?_
  refine g_iload_n F (dk dX7_come 8 rfl) rfl rfl 2 rfl ?_
  refine g_imul F (dk dX7_come 9 rfl) rfl ?_
  refine g_iadd F (dk dX7_come 10 rfl) rfl ?_
  refine g_iload_n F (dk dX7_come 11 rfl) rfl rfl 3 rfl ?_
  refine g_iadd F (dk dX7_come 12 rfl) rfl ?_
  refine g_iald F ((((46 + (50 * k)) + (5 * m)) + w)) h234 (by omega) (nA (nA (nA rfl (nM rfl rfl)) (nM rfl rfl)) rfl) (by omega) (by decide) (dk dX7_come 13 rfl) rfl ?_
  refine hret (r ((((46 + (50 * k)) + (5 * m)) + w))) E _ _ (dk dX7_come 14 rfl) (nint _) ?_
  exact ⟨rfl, rfl⟩
theorem kv_X7_come : KV yX7_come "ThumpEarsModel" cX7_come 4 (some .int) 3 := ⟨tq_772, tq_19, tq_47, tq_773, by decide +kernel⟩
abbrev rm_X7_heardOf : Room := { frames := 0, cells := 0, slots := 0, locals := 0 }
set_option maxHeartbeats 4000000 in
set_option maxRecDepth 100000 in
theorem c_X7_heardOf {l : Launch} {D : va_G} {cA : Nat → ClassId} {ad : Nat → Nat} {E : Nat → va_E} {s : Nat → Int32} {lo mo : Int64} {r : Nat → Int32} {k m e : Nat} (h233 : E 233 = .inr (7, [.ref (ad 234), .ref (ad 235), .ref (ad 236), .ref (ad 237), .int (s 0), .int (s 1), .ref (ad 238), .int (s 2), .int (s 3), .int (s 4), .int (s 5), .ref (ad 239), .ref (ad 240), .ref (ad 241), .long lo, .long mo, .ref (ad 242)])) (h234 : E 234 = .inl (cA 0, 346, .inl r)) (hw : 146 + 100 * k + 10 * m + e < 346) : CtI l D cA yX7_heardOf cX7_heardOf 4 .int rm_X7_heardOf 243 ad E [.ref (ad 233), .int (nI k), .int (nI m), .int (nI e)] (fun x E' => E = E' ∧ r (146 + 100 * k + 10 * m + e) = x) := by
  refine CtI.of (by decide +kernel) (Nat.le_of_ble_eq_true rfl) (fun X F hret => ?_)
  have F : Fr "ThumpEarsModel" cX7_heardOf 4 D cA X := F
  refine (show GG rm_X7_heardOf 4 l D X 0 0 243 ad E 0 [(0, .ref (ad 233)), (1, .int (nI k)), (2, .int (nI m)), (3, .int (nI e))] [] from ?_)
  refine g_aload_n F (dk dX7_heardOf 0 rfl) rfl rfl 0 rfl ?_
  refine g_getf F h233 rfl inX7 (by omega) (j := 0) (by decide) tq_623 rfl rfl (dk dX7_heardOf 1 rfl) rfl ?_
  refine g_sipush F (v := 146) (dk dX7_heardOf 2 rfl) rfl (by decide) ?_
  refine g_bipush F (v := 100) (dk dX7_heardOf 3 rfl) rfl (by decide) ?_
  refine g_iload_n F (dk dX7_heardOf 4 rfl) rfl rfl 1 rfl ?_
  refine g_imul F (dk dX7_heardOf 5 rfl) rfl ?_
  refine g_iadd F (dk dX7_heardOf 6 rfl) rfl ?_
  refine g_bipush F (v := 10) (dk dX7_heardOf 7 rfl) rfl (by decide) ?_
  refine g_iload_n F (dk dX7_heardOf 8 rfl) rfl rfl 2 rfl ?_
  refine g_imul F (dk dX7_heardOf 9 rfl) rfl ?_
  refine g_iadd F (dk dX7_heardOf 10 rfl) rfl ?_
  refine g_iload_n F (dk dX7_heardOf 11 rfl) rfl rfl 3 rfl ?_
  refine g_iadd F (dk dX7_heardOf 12 rfl) rfl ?_
  refine g_iald F ((((146 + (100 * k)) + (10 * m)) + e)) h234 (by omega) (nA (nA (nA rfl (nM rfl rfl)) (nM rfl rfl)) rfl) (by omega) (by decide) (dk dX7_heardOf 13 rfl) rfl ?_
  refine hret (r ((((146 + (100 * k)) + (10 * m)) + e))) E _ _ (dk dX7_heardOf 14 rfl) (nint _) ?_
  exact ⟨rfl, rfl⟩
theorem kv_X7_heardOf : KV yX7_heardOf "ThumpEarsModel" cX7_heardOf 4 (some .int) 3 := ⟨tq_824, tq_28, tq_47, tq_825, by decide +kernel⟩
