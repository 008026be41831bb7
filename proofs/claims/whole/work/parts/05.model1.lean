abbrev rm_X7_in : Room := { frames := 0, cells := 0, slots := 0, locals := 0 }
set_option maxHeartbeats 4000000 in
set_option maxRecDepth 100000 in
theorem c_X7_in {l : Launch} {D : va_G} {cA : Nat → ClassId} {ad : Nat → Nat} {E : Nat → va_E} {v a b : Int32}    : CtI l D cA yX7_in cX7_in 3 .boolean rm_X7_in 243 ad E [.int v, .int a, .int b] (fun x E' => (E = E' ∧ 1 = x ∧ (a ≤ v ∧ v ≤ b)) ∨ (E = E' ∧ 0 = x ∧ ¬ (a ≤ v ∧ v ≤ b))) := by
  refine CtI.of (by decide +kernel) (Nat.le_of_ble_eq_true rfl) (fun X F hret => ?_)
  have F : Fr "ThumpEarsModel" cX7_in 3 D cA X := F
  refine (show GG rm_X7_in 3 l D X 0 0 243 ad E 0 [(0, .int v), (1, .int a), (2, .int b)] [] from ?_)
  refine g_iload_n F (q := 1) (dk dX7_in 0 rfl) rfl rfl 0 rfl ?_
  refine g_iload_n F (q := 2) (dk dX7_in 1 rfl) rfl rfl 1 rfl ?_
  refine g_icmp_lt F (q := 5) (tgt := 14) (dk dX7_in 2 rfl) (by decide) rfl (fun c2 => ?_) (fun c2 => ?_)
  · refine g_iconst F (q := 15) (v := 0) (dk dX7_in 8 rfl) rfl (by decide) ?_
    refine hret 0 E _ _ (dk dX7_in 9 rfl) rfl ?_
    exact Or.inr ⟨rfl, rfl, (fun h => absurd h.1 (Int32.not_le.mpr c2))⟩
  · refine g_iload_n F (q := 6) (dk dX7_in 3 rfl) rfl rfl 0 rfl ?_
    refine g_iload_n F (q := 7) (dk dX7_in 4 rfl) rfl rfl 2 rfl ?_
    refine g_icmp_gt F (q := 10) (tgt := 14) (dk dX7_in 5 rfl) (by decide) rfl (fun c7 => ?_) (fun c7 => ?_)
    · refine g_iconst F (q := 15) (v := 0) (dk dX7_in 8 rfl) rfl (by decide) ?_
      refine hret 0 E _ _ (dk dX7_in 9 rfl) rfl ?_
      exact Or.inr ⟨rfl, rfl, (fun h => absurd h.2 (Int32.not_le.mpr c7))⟩
    · refine g_iconst F (q := 11) (v := 1) (dk dX7_in 6 rfl) rfl (by decide) ?_
      refine g_goto F (tgt := 15) (dk dX7_in 7 rfl) (by decide) ?_
      refine hret 1 E _ _ (dk dX7_in 9 rfl) rfl ?_
      exact Or.inl ⟨rfl, rfl, ⟨Int32.not_lt.mp c2, Int32.not_lt.mp c7⟩⟩
theorem ks_X7_in : KS yX7_in "ThumpEarsModel" cX7_in 3 (some .boolean) 3 := ⟨tq_708, tq_47, tq_709, by decide +kernel⟩
abbrev rm_X7_far : Room := { frames := 0, cells := 0, slots := 0, locals := 0 }
set_option maxHeartbeats 4000000 in
set_option maxRecDepth 100000 in
theorem c_X7_far {l : Launch} {D : va_G} {cA : Nat → ClassId} {ad : Nat → Nat} {E : Nat → va_E} {a b : Int32}    : CtI l D cA yX7_far cX7_far 2 .int rm_X7_far 243 ad E [.int a, .int b] (fun x E' => (far a b) = x ∧ E = E') := by
  refine CtI.of (by decide +kernel) (Nat.le_of_ble_eq_true rfl) (fun X F hret => ?_)
  have F : Fr "ThumpEarsModel" cX7_far 2 D cA X := F
  refine (show GG rm_X7_far 2 l D X 0 0 243 ad E 0 [(0, .int a), (1, .int b)] [] from ?_)
  refine g_iload_n F (q := 1) (dk dX7_far 0 rfl) rfl rfl 0 rfl ?_
  refine g_iload_n F (q := 2) (dk dX7_far 1 rfl) rfl rfl 1 rfl ?_
  refine g_icmp_ge F (q := 5) (tgt := 11) (dk dX7_far 2 rfl) (by decide) rfl (fun c2 => ?_) (fun c2 => ?_)
  · refine g_iload_n F (q := 12) (dk dX7_far 7 rfl) rfl rfl 0 rfl ?_
    refine g_iload_n F (q := 13) (dk dX7_far 8 rfl) rfl rfl 1 rfl ?_
    refine g_isub F (q := 14) (dk dX7_far 9 rfl) rfl ?_
    refine hret (a - b) E _ _ (dk dX7_far 10 rfl) (nint _) ?_
    exact ⟨if_neg (Int32.not_lt.mpr c2), rfl⟩
  · refine g_iload_n F (q := 6) (dk dX7_far 3 rfl) rfl rfl 1 rfl ?_
    refine g_iload_n F (q := 7) (dk dX7_far 4 rfl) rfl rfl 0 rfl ?_
    refine g_isub F (q := 8) (dk dX7_far 5 rfl) rfl ?_
    refine g_goto F (tgt := 14) (dk dX7_far 6 rfl) (by decide) ?_
    refine hret (b - a) E _ _ (dk dX7_far 10 rfl) (nint _) ?_
    exact ⟨if_pos (Int32.not_le.mp c2), rfl⟩
theorem ks_X7_far : KS yX7_far "ThumpEarsModel" cX7_far 2 (some .int) 2 := ⟨tq_748, tq_47, tq_749, by decide +kernel⟩
abbrev rm_X7_down : Room := { frames := 0, cells := 0, slots := 0, locals := 0 }
set_option maxHeartbeats 4000000 in
set_option maxRecDepth 100000 in
theorem c_X7_down {l : Launch} {D : va_G} {cA : Nat → ClassId} {ad : Nat → Nat} {E : Nat → va_E} {a b : Int64}   (hb0 : ¬ b = 0) : CtL l D cA yX7_down cX7_down 6 rm_X7_down 243 ad E [.long a, .long b] (fun x E' => (dn a b) = x ∧ E = E') := by
  refine CtL.of (by decide +kernel) (Nat.le_of_ble_eq_true rfl) (fun X F hret => ?_)
  have F : Fr "ThumpEarsModel" cX7_down 6 D cA X := F
  refine (show GG rm_X7_down 6 l D X 0 0 243 ad E 0 [(0, .long a), (2, .long b)] [] from ?_)
  refine g_lload_n F (q := 1) (dk dX7_down 0 rfl) rfl rfl 0 rfl ?_
  refine g_lload_n F (q := 2) (dk dX7_down 1 rfl) rfl rfl 1 rfl ?_
  refine g_ldiv F (q := 3) (dk dX7_down 2 rfl) rfl hb0 ?_
  refine g_lstore F (q := 5) (lv' := [(4, .long (a / b)), (0, .long a), (2, .long b)]) (dk dX7_down 3 rfl) rfl (Nat.le_of_ble_eq_true rfl) rfl ?_
  refine g_lload F (q := 7) (dk dX7_down 4 rfl) rfl 0 rfl ?_
  refine g_lload_n F (q := 8) (dk dX7_down 5 rfl) rfl rfl 2 rfl ?_
  refine g_lmul F (q := 9) (dk dX7_down 6 rfl) rfl ?_
  refine g_lload_n F (q := 10) (dk dX7_down 7 rfl) rfl rfl 1 rfl ?_
  refine g_lcmp_le F (q := 14) (tgt := 21) (dk dX7_down 8 rfl) (dk dX7_down 9 rfl) (by decide) rfl (fun c10 => ?_) (fun c10 => ?_)
  · refine g_lload F (q := 23) (dk dX7_down 14 rfl) rfl 0 rfl ?_
    refine hret (a / b) E _ _ (dk dX7_down 15 rfl) ?_
    exact ⟨if_neg (Int64.not_lt.mpr c10), rfl⟩
  · refine g_lload F (q := 16) (dk dX7_down 10 rfl) rfl 0 rfl ?_
    refine g_lconst F (q := 17) (v := 1) (dk dX7_down 11 rfl) rfl (by decide) ?_
    refine g_lsub F (q := 18) (dk dX7_down 12 rfl) rfl ?_
    refine g_goto F (tgt := 23) (dk dX7_down 13 rfl) (by decide) ?_
    refine hret ((a / b) - 1) E _ _ (dk dX7_down 15 rfl) ?_
    exact ⟨if_pos (Int64.not_le.mp c10), rfl⟩
theorem ks_X7_down : KS yX7_down "ThumpEarsModel" cX7_down 6 (some .long) 2 := ⟨tq_756, tq_47, tq_757, by decide +kernel⟩
abbrev rm_X7_toldAs : Room := { frames := 0, cells := 0, slots := 0, locals := 0 }
set_option maxHeartbeats 4000000 in
set_option maxRecDepth 100000 in
theorem c_X7_toldAs {l : Launch} {D : va_G} {cA : Nat → ClassId} {ad : Nat → Nat} {E : Nat → va_E} {a : Int32}    : CtL l D cA yX7_toldAs cX7_toldAs 1 rm_X7_toldAs 243 ad E [.int a] (fun x E' => (toldAs a) = x ∧ E = E') := by
  refine CtL.of (by decide +kernel) (Nat.le_of_ble_eq_true rfl) (fun X F hret => ?_)
  have F : Fr "ThumpEarsModel" cX7_toldAs 1 D cA X := F
  refine (show GG rm_X7_toldAs 1 l D X 0 0 243 ad E 0 [(0, .int a)] [] from ?_)
  refine g_ldc2 F (q := 3) (v := (-9223372036854775808)) (dk dX7_toldAs 0 rfl) rfl tq_846 ?_
  refine g_iload_n F (q := 4) (dk dX7_toldAs 1 rfl) rfl rfl 0 rfl ?_
  refine g_i2l F (q := 5) (dk dX7_toldAs 2 rfl) rfl ?_
  refine g_lsub F (q := 6) (dk dX7_toldAs 3 rfl) rfl ?_
  refine hret ((-9223372036854775808) - a.toInt64) E _ _ (dk dX7_toldAs 4 rfl) ?_
  exact ⟨rfl, rfl⟩
theorem ks_X7_toldAs : KS yX7_toldAs "ThumpEarsModel" cX7_toldAs 1 (some .long) 1 := ⟨tq_844, tq_47, tq_845, by decide +kernel⟩
abbrev rm_X7_of : Room := { frames := 0, cells := 0, slots := 0, locals := 0 }
set_option maxHeartbeats 4000000 in
set_option maxRecDepth 100000 in
theorem c_X7_of {l : Launch} {D : va_G} {cA : Nat → ClassId} {ad : Nat → Nat} {E : Nat → va_E} {s0 s1 s2 s3 s4 s5 : Int32} {lo mo : Int64} {r : Nat → Int32} {e w : Nat} (h233 : E 233 = .inr (7, [.ref (ad 234), .ref (ad 235), .ref (ad 236), .ref (ad 237), .int s0, .int s1, .ref (ad 238), .int s2, .int s3, .int s4, .int s5, .ref (ad 239), .ref (ad 240), .ref (ad 241), .long lo, .long mo, .ref (ad 242)])) (h234 : E 234 = .inl (cA 0, 346, .inl r))  (hw : 6 + 4 * e + w < 346) : CtI l D cA yX7_of cX7_of 3 .int rm_X7_of 243 ad E [.ref (ad 233), .int (nI e), .int (nI w)] (fun x E' => (r (6 + 4 * e + w)) = x ∧ E = E') := by
  refine CtI.of (by decide +kernel) (Nat.le_of_ble_eq_true rfl) (fun X F hret => ?_)
  have F : Fr "ThumpEarsModel" cX7_of 3 D cA X := F
  refine (show GG rm_X7_of 3 l D X 0 0 243 ad E 0 [(0, .ref (ad 233)), (1, .int (nI e)), (2, .int (nI w))] [] from ?_)
  refine g_aload_n F (q := 1) (dk dX7_of 0 rfl) rfl rfl 0 rfl ?_
  refine g_getf F (q := 4) h233 rfl inX7 (by omega) (j := 0) (by decide) tq_623 rfl rfl (dk dX7_of 1 rfl) rfl ?_
  refine g_bipush F (q := 6) (v := 6) (dk dX7_of 2 rfl) rfl (by decide) ?_
  refine g_iconst F (q := 7) (v := 4) (dk dX7_of 3 rfl) rfl (by decide) ?_
  refine g_iload_n F (q := 8) (dk dX7_of 4 rfl) rfl rfl 1 rfl ?_
  refine g_imul F (q := 9) (dk dX7_of 5 rfl) rfl ?_
  refine g_iadd F (q := 10) (dk dX7_of 6 rfl) rfl ?_
  refine g_iload_n F (q := 11) (dk dX7_of 7 rfl) rfl rfl 2 rfl ?_
  refine g_iadd F (q := 12) (dk dX7_of 8 rfl) rfl ?_
  refine g_iald F (q := 13) (((6 + (4 * e)) + w)) h234 (by omega) (nA (nA rfl (nM rfl rfl)) rfl) (by omega) (by decide) (dk dX7_of 9 rfl) rfl ?_
  refine hret (r (((6 + (4 * e)) + w))) E _ _ (dk dX7_of 10 rfl) (nint _) ?_
  exact ⟨rfl, rfl⟩
theorem kv_X7_of : KV yX7_of "ThumpEarsModel" cX7_of 3 (some .int) 2 := ⟨tq_720, tq_13, tq_47, tq_721, by decide +kernel⟩
abbrev rm_X7_come : Room := { frames := 0, cells := 0, slots := 0, locals := 0 }
set_option maxHeartbeats 4000000 in
set_option maxRecDepth 100000 in
theorem c_X7_come {l : Launch} {D : va_G} {cA : Nat → ClassId} {ad : Nat → Nat} {E : Nat → va_E} {s0 s1 s2 s3 s4 s5 : Int32} {lo mo : Int64} {r : Nat → Int32} {k m w : Nat} (h233 : E 233 = .inr (7, [.ref (ad 234), .ref (ad 235), .ref (ad 236), .ref (ad 237), .int s0, .int s1, .ref (ad 238), .int s2, .int s3, .int s4, .int s5, .ref (ad 239), .ref (ad 240), .ref (ad 241), .long lo, .long mo, .ref (ad 242)])) (h234 : E 234 = .inl (cA 0, 346, .inl r))  (hw : 46 + 50 * k + 5 * m + w < 346) : CtI l D cA yX7_come cX7_come 4 .int rm_X7_come 243 ad E [.ref (ad 233), .int (nI k), .int (nI m), .int (nI w)] (fun x E' => (r (46 + 50 * k + 5 * m + w)) = x ∧ E = E') := by
  refine CtI.of (by decide +kernel) (Nat.le_of_ble_eq_true rfl) (fun X F hret => ?_)
  have F : Fr "ThumpEarsModel" cX7_come 4 D cA X := F
  refine (show GG rm_X7_come 4 l D X 0 0 243 ad E 0 [(0, .ref (ad 233)), (1, .int (nI k)), (2, .int (nI m)), (3, .int (nI w))] [] from ?_)
  refine g_aload_n F (q := 1) (dk dX7_come 0 rfl) rfl rfl 0 rfl ?_
  refine g_getf F (q := 4) h233 rfl inX7 (by omega) (j := 0) (by decide) tq_623 rfl rfl (dk dX7_come 1 rfl) rfl ?_
  refine g_bipush F (q := 6) (v := 46) (dk dX7_come 2 rfl) rfl (by decide) ?_
  refine g_bipush F (q := 8) (v := 50) (dk dX7_come 3 rfl) rfl (by decide) ?_
  refine g_iload_n F (q := 9) (dk dX7_come 4 rfl) rfl rfl 1 rfl ?_
  refine g_imul F (q := 10) (dk dX7_come 5 rfl) rfl ?_
  refine g_iadd F (q := 11) (dk dX7_come 6 rfl) rfl ?_
  refine g_iconst F (q := 12) (v := 5) (dk dX7_come 7 rfl) rfl (by decide) ?_
  refine g_iload_n F (q := 13) (dk dX7_come 8 rfl) rfl rfl 2 rfl ?_
  refine g_imul F (q := 14) (dk dX7_come 9 rfl) rfl ?_
  refine g_iadd F (q := 15) (dk dX7_come 10 rfl) rfl ?_
  refine g_iload_n F (q := 16) (dk dX7_come 11 rfl) rfl rfl 3 rfl ?_
  refine g_iadd F (q := 17) (dk dX7_come 12 rfl) rfl ?_
  refine g_iald F (q := 18) ((((46 + (50 * k)) + (5 * m)) + w)) h234 (by omega) (nA (nA (nA rfl (nM rfl rfl)) (nM rfl rfl)) rfl) (by omega) (by decide) (dk dX7_come 13 rfl) rfl ?_
  refine hret (r ((((46 + (50 * k)) + (5 * m)) + w))) E _ _ (dk dX7_come 14 rfl) (nint _) ?_
  exact ⟨rfl, rfl⟩
theorem kv_X7_come : KV yX7_come "ThumpEarsModel" cX7_come 4 (some .int) 3 := ⟨tq_772, tq_19, tq_47, tq_773, by decide +kernel⟩
abbrev rm_X7_heardOf : Room := { frames := 0, cells := 0, slots := 0, locals := 0 }
set_option maxHeartbeats 4000000 in
set_option maxRecDepth 100000 in
theorem c_X7_heardOf {l : Launch} {D : va_G} {cA : Nat → ClassId} {ad : Nat → Nat} {E : Nat → va_E} {s0 s1 s2 s3 s4 s5 : Int32} {lo mo : Int64} {r : Nat → Int32} {k m e : Nat} (h233 : E 233 = .inr (7, [.ref (ad 234), .ref (ad 235), .ref (ad 236), .ref (ad 237), .int s0, .int s1, .ref (ad 238), .int s2, .int s3, .int s4, .int s5, .ref (ad 239), .ref (ad 240), .ref (ad 241), .long lo, .long mo, .ref (ad 242)])) (h234 : E 234 = .inl (cA 0, 346, .inl r))  (hw : 146 + 100 * k + 10 * m + e < 346) : CtI l D cA yX7_heardOf cX7_heardOf 4 .int rm_X7_heardOf 243 ad E [.ref (ad 233), .int (nI k), .int (nI m), .int (nI e)] (fun x E' => (r (146 + 100 * k + 10 * m + e)) = x ∧ E = E') := by
  refine CtI.of (by decide +kernel) (Nat.le_of_ble_eq_true rfl) (fun X F hret => ?_)
  have F : Fr "ThumpEarsModel" cX7_heardOf 4 D cA X := F
  refine (show GG rm_X7_heardOf 4 l D X 0 0 243 ad E 0 [(0, .ref (ad 233)), (1, .int (nI k)), (2, .int (nI m)), (3, .int (nI e))] [] from ?_)
  refine g_aload_n F (q := 1) (dk dX7_heardOf 0 rfl) rfl rfl 0 rfl ?_
  refine g_getf F (q := 4) h233 rfl inX7 (by omega) (j := 0) (by decide) tq_623 rfl rfl (dk dX7_heardOf 1 rfl) rfl ?_
  refine g_sipush F (q := 7) (v := 146) (dk dX7_heardOf 2 rfl) rfl (by decide) ?_
  refine g_bipush F (q := 9) (v := 100) (dk dX7_heardOf 3 rfl) rfl (by decide) ?_
  refine g_iload_n F (q := 10) (dk dX7_heardOf 4 rfl) rfl rfl 1 rfl ?_
  refine g_imul F (q := 11) (dk dX7_heardOf 5 rfl) rfl ?_
  refine g_iadd F (q := 12) (dk dX7_heardOf 6 rfl) rfl ?_
  refine g_bipush F (q := 14) (v := 10) (dk dX7_heardOf 7 rfl) rfl (by decide) ?_
  refine g_iload_n F (q := 15) (dk dX7_heardOf 8 rfl) rfl rfl 2 rfl ?_
  refine g_imul F (q := 16) (dk dX7_heardOf 9 rfl) rfl ?_
  refine g_iadd F (q := 17) (dk dX7_heardOf 10 rfl) rfl ?_
  refine g_iload_n F (q := 18) (dk dX7_heardOf 11 rfl) rfl rfl 3 rfl ?_
  refine g_iadd F (q := 19) (dk dX7_heardOf 12 rfl) rfl ?_
  refine g_iald F (q := 20) ((((146 + (100 * k)) + (10 * m)) + e)) h234 (by omega) (nA (nA (nA rfl (nM rfl rfl)) (nM rfl rfl)) rfl) (by omega) (by decide) (dk dX7_heardOf 13 rfl) rfl ?_
  refine hret (r ((((146 + (100 * k)) + (10 * m)) + e))) E _ _ (dk dX7_heardOf 14 rfl) (nint _) ?_
  exact ⟨rfl, rfl⟩
theorem kv_X7_heardOf : KV yX7_heardOf "ThumpEarsModel" cX7_heardOf 4 (some .int) 3 := ⟨tq_824, tq_28, tq_47, tq_825, by decide +kernel⟩
abbrev rm_X7_came : Room := { frames := 0, cells := 0, slots := 0, locals := 0 }
set_option maxHeartbeats 4000000 in
set_option maxRecDepth 100000 in
theorem c_X7_came {l : Launch} {D : va_G} {cA : Nat → ClassId} {ad : Nat → Nat} {E : Nat → va_E} {s0 s1 s2 s3 s4 s5 : Int32} {lo mo : Int64} {r : Nat → Int32}  (h233 : E 233 = .inr (7, [.ref (ad 234), .ref (ad 235), .ref (ad 236), .ref (ad 237), .int s0, .int s1, .ref (ad 238), .int s2, .int s3, .int s4, .int s5, .ref (ad 239), .ref (ad 240), .ref (ad 241), .long lo, .long mo, .ref (ad 242)])) (h234 : E 234 = .inl (cA 0, 346, .inl r))   : CtI l D cA yX7_came cX7_came 1 .int rm_X7_came 243 ad E [.ref (ad 233)] (fun x E' => (r 1 + r 2) = x ∧ E = E') := by
  refine CtI.of (by decide +kernel) (Nat.le_of_ble_eq_true rfl) (fun X F hret => ?_)
  have F : Fr "ThumpEarsModel" cX7_came 1 D cA X := F
  refine (show GG rm_X7_came 1 l D X 0 0 243 ad E 0 [(0, .ref (ad 233))] [] from ?_)
  refine g_aload_n F (q := 1) (dk dX7_came 0 rfl) rfl rfl 0 rfl ?_
  refine g_getf F (q := 4) h233 rfl inX7 (by omega) (j := 0) (by decide) tq_623 rfl rfl (dk dX7_came 1 rfl) rfl ?_
  refine g_iconst F (q := 5) (v := 1) (dk dX7_came 2 rfl) rfl (by decide) ?_
  refine g_iald F (q := 6) 1 h234 (by omega) rfl (by omega) (by decide) (dk dX7_came 3 rfl) rfl ?_
  refine g_aload_n F (q := 7) (dk dX7_came 4 rfl) rfl rfl 0 rfl ?_
  refine g_getf F (q := 10) h233 rfl inX7 (by omega) (j := 0) (by decide) tq_623 rfl rfl (dk dX7_came 5 rfl) rfl ?_
  refine g_iconst F (q := 11) (v := 2) (dk dX7_came 6 rfl) rfl (by decide) ?_
  refine g_iald F (q := 12) 2 h234 (by omega) rfl (by omega) (by decide) (dk dX7_came 7 rfl) rfl ?_
  refine g_iadd F (q := 13) (dk dX7_came 8 rfl) rfl ?_
  refine hret ((r 1) + (r 2)) E _ _ (dk dX7_came 9 rfl) (nint _) ?_
  exact ⟨rfl, rfl⟩
theorem kv_X7_came : KV yX7_came "ThumpEarsModel" cX7_came 1 (some .int) 0 := ⟨tq_685, tq_8, tq_47, tq_686, by decide +kernel⟩
abbrev rm_X7_remember : Room := { frames := 0, cells := 0, slots := 0, locals := 0 }
set_option maxHeartbeats 4000000 in
set_option maxRecDepth 100000 in
theorem c_X7_remember {l : Launch} {D : va_G} {cA : Nat → ClassId} {ad : Nat → Nat} {E : Nat → va_E} {s0 s1 s2 s3 s4 s5 : Int32} {lo mo : Int64} {r bef : Nat → Int32}  (h233 : E 233 = .inr (7, [.ref (ad 234), .ref (ad 235), .ref (ad 236), .ref (ad 237), .int s0, .int s1, .ref (ad 238), .int s2, .int s3, .int s4, .int s5, .ref (ad 239), .ref (ad 240), .ref (ad 241), .long lo, .long mo, .ref (ad 242)])) (h234 : E 234 = .inl (cA 0, 346, .inl r)) (h237 : E 237 = .inl (cA 0, 346, .inl bef))   : CtV l D cA yX7_remember cX7_remember 2 rm_X7_remember 243 ad E [.ref (ad 233)] (fun E' => ∃ (g : Nat → Int32), E' 237 = .inl (cA 0, 346, .inl g) ∧ (eqN 346 g r) ∧ ∀ j, (j ≠ 237) → E' j = E j) := by
  refine CtV.of (by decide +kernel) (Nat.le_of_ble_eq_true rfl) (fun X F hret => ?_)
  have F : Fr "ThumpEarsModel" cX7_remember 2 D cA X := F
  refine (show GG rm_X7_remember 2 l D X 0 0 243 ad E 0 [(0, .ref (ad 233))] [] from ?_)
  refine g_iconst F (q := 1) (v := 0) (dk dX7_remember 0 rfl) rfl (by decide) ?_
  refine g_istore_n F (q := 2) (lv' := [(1, .int 0), (0, .ref (ad 233))]) (dk dX7_remember 1 rfl) rfl rfl (Nat.le_of_ble_eq_true rfl) rfl ?_
  have K2 : ∀ (fu : Nat) (i : Nat) (g : Nat → Int32) (E1 : Nat → va_E), 346 - i < fu → (hg : E1 237 = .inl (cA 0, 346, .inl g)) → (hfr2 : ∀ j, (j ≠ 237) → E1 j = E j) → (hi : i ≤ 346) → (hg2 : eqN i g r) → GG rm_X7_remember 2 l D X 0 0 243 ad E1 2 [(0, .ref (ad 233)), (1, .int (nI i))] [] := by
    intro fu
    induction fu with
    | zero => intro i g E1 hfu_; exact absurd hfu_ (Nat.not_lt_zero _)
    | succ fu ih =>
      intro i g E1 hfu_ hg hfr2 hi hg2
      refine g_iload_n F (q := 3) (dk dX7_remember 2 rfl) rfl rfl 1 rfl ?_
      refine g_sipush F (q := 6) (v := 346) (dk dX7_remember 3 rfl) rfl (by decide) ?_
      refine g_icmp_ge F (q := 9) (tgt := 27) (dk dX7_remember 4 rfl) (by decide) rfl (fun c6 => ?_) (fun c6 => ?_)
      · have nc6 : 346 ≤ i := (nI_leI (a := 346) (b := i) (by omega) (by omega)).mp c6
        refine hret E1 _ _ (dk dX7_remember 15 rfl) ?_
        exact ⟨g, hg, (fun k hk => hg2 k (by omega)), (fun j hj => (hfr2 j (by omega)))⟩
      · have nc6 : ¬ 346 ≤ i := fun h => c6 ((nI_leI (a := 346) (b := i) (by omega) (by omega)).mpr h)
        refine g_aload_n F (q := 10) (dk dX7_remember 5 rfl) rfl rfl 0 rfl ?_
        have hc1 := (hfr2 233 (by omega)).trans h233
        refine g_getf F (q := 13) hc1 rfl inX7 (by omega) (j := 3) (by decide) tq_626 rfl rfl (dk dX7_remember 6 rfl) rfl ?_
        refine g_iload_n F (q := 14) (dk dX7_remember 7 rfl) rfl rfl 1 rfl ?_
        refine g_aload_n F (q := 15) (dk dX7_remember 8 rfl) rfl rfl 0 rfl ?_
        refine g_getf F (q := 18) hc1 rfl inX7 (by omega) (j := 0) (by decide) tq_623 rfl rfl (dk dX7_remember 9 rfl) rfl ?_
        refine g_iload_n F (q := 19) (dk dX7_remember 10 rfl) rfl rfl 1 rfl ?_
        have hc2 := (hfr2 234 (by omega)).trans h234
        refine g_iald F (q := 20) i hc2 (by omega) rfl (by omega) (by decide) (dk dX7_remember 11 rfl) rfl ?_
        refine g_iast F (q := 21) i hg (by omega) rfl (by omega) (by decide) (dk dX7_remember 12 rfl) rfl (fun E20 hE20 hO20 => ?_)
        refine g_iinc F (q := 24) (v := (nI ((i + 1)))) (lv' := [(1, .int (nI ((i + 1)))), (0, .ref (ad 233))]) (dk dX7_remember 13 rfl) rfl 1 rfl (nI_1 _) (Nat.le_of_ble_eq_true rfl) rfl ?_
        refine g_goto F (tgt := 2) (dk dX7_remember 14 rfl) (by decide) ?_
        refine g_lv (lv' := [(0, .ref (ad 233)), (1, .int (nI ((i + 1))))]) [1, 0] rfl ?_
        exact ih (i + 1) (upd g i (r i)) E20 (by omega) hE20 (fun j hj => ((hO20 j (by omega)).trans (hfr2 j (by omega)))) (by omega) (eqN_cpy hg2)
  refine g_lv (lv' := [(0, .ref (ad 233)), (1, .int 0)]) [1, 0] rfl ?_
  exact K2 _ 0 bef E (Nat.lt_succ_self _) h237 (fun j _ => rfl) (by omega) (fun k hk => absurd hk (Nat.not_lt_zero k))
theorem kv_X7_remember : KV yX7_remember "ThumpEarsModel" cX7_remember 2 (none) 0 := ⟨tq_697, tq_10, tq_47, tq_698, by decide +kernel⟩
abbrev rm_X7_goBack : Room := { frames := 0, cells := 0, slots := 0, locals := 0 }
set_option maxHeartbeats 4000000 in
set_option maxRecDepth 100000 in
theorem c_X7_goBack {l : Launch} {D : va_G} {cA : Nat → ClassId} {ad : Nat → Nat} {E : Nat → va_E} {s0 s1 s2 s3 s4 s5 : Int32} {lo mo : Int64} {bef r : Nat → Int32}  (h233 : E 233 = .inr (7, [.ref (ad 234), .ref (ad 235), .ref (ad 236), .ref (ad 237), .int s0, .int s1, .ref (ad 238), .int s2, .int s3, .int s4, .int s5, .ref (ad 239), .ref (ad 240), .ref (ad 241), .long lo, .long mo, .ref (ad 242)])) (h237 : E 237 = .inl (cA 0, 346, .inl bef)) (h234 : E 234 = .inl (cA 0, 346, .inl r))   : CtV l D cA yX7_goBack cX7_goBack 2 rm_X7_goBack 243 ad E [.ref (ad 233)] (fun E' => ∃ (g : Nat → Int32), E' 234 = .inl (cA 0, 346, .inl g) ∧ (eqN 346 g bef) ∧ ∀ j, (j ≠ 234) → E' j = E j) := by
  refine CtV.of (by decide +kernel) (Nat.le_of_ble_eq_true rfl) (fun X F hret => ?_)
  have F : Fr "ThumpEarsModel" cX7_goBack 2 D cA X := F
  refine (show GG rm_X7_goBack 2 l D X 0 0 243 ad E 0 [(0, .ref (ad 233))] [] from ?_)
  refine g_iconst F (q := 1) (v := 0) (dk dX7_goBack 0 rfl) rfl (by decide) ?_
  refine g_istore_n F (q := 2) (lv' := [(1, .int 0), (0, .ref (ad 233))]) (dk dX7_goBack 1 rfl) rfl rfl (Nat.le_of_ble_eq_true rfl) rfl ?_
  have K2 : ∀ (fu : Nat) (i : Nat) (g : Nat → Int32) (E1 : Nat → va_E), 346 - i < fu → (hg : E1 234 = .inl (cA 0, 346, .inl g)) → (hfr2 : ∀ j, (j ≠ 234) → E1 j = E j) → (hi : i ≤ 346) → (hg2 : eqN i g bef) → GG rm_X7_goBack 2 l D X 0 0 243 ad E1 2 [(0, .ref (ad 233)), (1, .int (nI i))] [] := by
    intro fu
    induction fu with
    | zero => intro i g E1 hfu_; exact absurd hfu_ (Nat.not_lt_zero _)
    | succ fu ih =>
      intro i g E1 hfu_ hg hfr2 hi hg2
      refine g_iload_n F (q := 3) (dk dX7_goBack 2 rfl) rfl rfl 1 rfl ?_
      refine g_sipush F (q := 6) (v := 346) (dk dX7_goBack 3 rfl) rfl (by decide) ?_
      refine g_icmp_ge F (q := 9) (tgt := 27) (dk dX7_goBack 4 rfl) (by decide) rfl (fun c6 => ?_) (fun c6 => ?_)
      · have nc6 : 346 ≤ i := (nI_leI (a := 346) (b := i) (by omega) (by omega)).mp c6
        refine hret E1 _ _ (dk dX7_goBack 15 rfl) ?_
        exact ⟨g, hg, (fun k hk => hg2 k (by omega)), (fun j hj => (hfr2 j (by omega)))⟩
      · have nc6 : ¬ 346 ≤ i := fun h => c6 ((nI_leI (a := 346) (b := i) (by omega) (by omega)).mpr h)
        refine g_aload_n F (q := 10) (dk dX7_goBack 5 rfl) rfl rfl 0 rfl ?_
        have hc1 := (hfr2 233 (by omega)).trans h233
        refine g_getf F (q := 13) hc1 rfl inX7 (by omega) (j := 0) (by decide) tq_623 rfl rfl (dk dX7_goBack 6 rfl) rfl ?_
        refine g_iload_n F (q := 14) (dk dX7_goBack 7 rfl) rfl rfl 1 rfl ?_
        refine g_aload_n F (q := 15) (dk dX7_goBack 8 rfl) rfl rfl 0 rfl ?_
        refine g_getf F (q := 18) hc1 rfl inX7 (by omega) (j := 3) (by decide) tq_626 rfl rfl (dk dX7_goBack 9 rfl) rfl ?_
        refine g_iload_n F (q := 19) (dk dX7_goBack 10 rfl) rfl rfl 1 rfl ?_
        have hc2 := (hfr2 237 (by omega)).trans h237
        refine g_iald F (q := 20) i hc2 (by omega) rfl (by omega) (by decide) (dk dX7_goBack 11 rfl) rfl ?_
        refine g_iast F (q := 21) i hg (by omega) rfl (by omega) (by decide) (dk dX7_goBack 12 rfl) rfl (fun E20 hE20 hO20 => ?_)
        refine g_iinc F (q := 24) (v := (nI ((i + 1)))) (lv' := [(1, .int (nI ((i + 1)))), (0, .ref (ad 233))]) (dk dX7_goBack 13 rfl) rfl 1 rfl (nI_1 _) (Nat.le_of_ble_eq_true rfl) rfl ?_
        refine g_goto F (tgt := 2) (dk dX7_goBack 14 rfl) (by decide) ?_
        refine g_lv (lv' := [(0, .ref (ad 233)), (1, .int (nI ((i + 1))))]) [1, 0] rfl ?_
        exact ih (i + 1) (upd g i (bef i)) E20 (by omega) hE20 (fun j hj => ((hO20 j (by omega)).trans (hfr2 j (by omega)))) (by omega) (eqN_cpy hg2)
  refine g_lv (lv' := [(0, .ref (ad 233)), (1, .int 0)]) [1, 0] rfl ?_
  exact K2 _ 0 r E (Nat.lt_succ_self _) h234 (fun j _ => rfl) (by omega) (fun k hk => absurd hk (Nat.not_lt_zero k))
theorem kv_X7_goBack : KV yX7_goBack "ThumpEarsModel" cX7_goBack 2 (none) 0 := ⟨tq_812, tq_26, tq_47, tq_813, by decide +kernel⟩
abbrev rm_X7_record : Room := { frames := 0, cells := 0, slots := 0, locals := 0 }
set_option maxHeartbeats 4000000 in
set_option maxRecDepth 100000 in
theorem c_X7_record {l : Launch} {D : va_G} {cA : Nat → ClassId} {ad : Nat → Nat} {E : Nat → va_E} {nh : Nat} {s1 s2 s3 s4 s5 : Int32} {lo mo : Int64} {past bef : Nat → Int32}  (h233 : E 233 = .inr (7, [.ref (ad 234), .ref (ad 235), .ref (ad 236), .ref (ad 237), .int (nI nh), .int s1, .ref (ad 238), .int s2, .int s3, .int s4, .int s5, .ref (ad 239), .ref (ad 240), .ref (ad 241), .long lo, .long mo, .ref (ad 242)])) (h235 : E 235 = .inl (cA 0, 1384, .inl past)) (h237 : E 237 = .inl (cA 0, 346, .inl bef))  (hnh : nh ≤ 4) : CtV l D cA yX7_record cX7_record 2 rm_X7_record 243 ad E [.ref (ad 233)] (fun E' => ∃ (q : Nat → Int32), E' 233 = .inr (7, [.ref (ad 234), .ref (ad 235), .ref (ad 236), .ref (ad 237), .int (nI ((nup nh))), .int s1, .ref (ad 238), .int s2, .int s3, .int s4, .int s5, .ref (ad 239), .ref (ad 240), .ref (ad 241), .long lo, .long mo, .ref (ad 242)]) ∧ E' 235 = .inl (cA 0, 1384, .inl q) ∧ (eqH (nup nh) (hof q) (hpush nh (hof past) bef)) ∧ ∀ j, (j ≠ 233 ∧ j ≠ 235) → E' j = E j) := by
  refine CtV.of (by decide +kernel) (Nat.le_of_ble_eq_true rfl) (fun X F hret => ?_)
  have F : Fr "ThumpEarsModel" cX7_record 2 D cA X := F
  refine (show GG rm_X7_record 2 l D X 0 0 243 ad E 0 [(0, .ref (ad 233))] [] from ?_)
  refine g_aload_n F (q := 1) (dk dX7_record 0 rfl) rfl rfl 0 rfl ?_
  refine g_getf F (q := 4) h233 rfl inX7 (by omega) (j := 4) (by decide) tq_627 rfl rfl (dk dX7_record 1 rfl) rfl ?_
  refine g_iconst F (q := 5) (v := 4) (dk dX7_record 2 rfl) rfl (by decide) ?_
  refine g_icmp_ne F (q := 8) (tgt := 49) (dk dX7_record 3 rfl) (by decide) rfl (fun c5 => ?_) (fun c5 => ?_)
  · have nc5 : ¬ nh = 4 := fun h => c5 ((nI_eq (a := nh) (b := 4) (by omega) (by omega)).mpr h)
    refine g_iconst F (q := 50) (v := 0) (dk dX7_record 27 rfl) rfl (by decide) ?_
    refine g_istore_n F (q := 51) (lv' := [(1, .int 0), (0, .ref (ad 233))]) (dk dX7_record 28 rfl) rfl rfl (Nat.le_of_ble_eq_true rfl) rfl ?_
    have K51 : ∀ (fu : Nat) (i : Nat) (q : Nat → Int32) (E2 : Nat → va_E), 346 - i < fu → (hq : E2 235 = .inl (cA 0, 1384, .inl q)) → (hfr51 : ∀ j, (j ≠ 235) → E2 j = E j) → (hi : i ≤ 346) → (hq1 : ∀ j, j < i → q (346 * nh + j) = bef j) → (hq2 : ∀ j, j < 346 * nh → q j = past j) → GG rm_X7_record 2 l D X 0 0 243 ad E2 51 [(0, .ref (ad 233)), (1, .int (nI i))] [] := by
      intro fu
      induction fu with
      | zero => intro i q E2 hfu_; exact absurd hfu_ (Nat.not_lt_zero _)
      | succ fu ih =>
        intro i q E2 hfu_ hq hfr51 hi hq1 hq2
        refine g_iload_n F (q := 52) (dk dX7_record 29 rfl) rfl rfl 1 rfl ?_
        refine g_sipush F (q := 55) (v := 346) (dk dX7_record 30 rfl) rfl (by decide) ?_
        refine g_icmp_ge F (q := 58) (tgt := 85) (dk dX7_record 31 rfl) (by decide) rfl (fun c55 => ?_) (fun c55 => ?_)
        · have nc55 : 346 ≤ i := (nI_leI (a := 346) (b := i) (by omega) (by omega)).mp c55
          refine g_aload_n F (q := 86) (dk dX7_record 47 rfl) rfl rfl 0 rfl ?_
          refine g_dup F (q := 87) (dk dX7_record 48 rfl) rfl rfl ?_
          have hc1 := (hfr51 233 (by omega)).trans h233
          refine g_getf F (q := 90) hc1 rfl inX7 (by omega) (j := 4) (by decide) tq_627 rfl rfl (dk dX7_record 49 rfl) rfl ?_
          refine g_iconst F (q := 91) (v := 1) (dk dX7_record 50 rfl) rfl (by decide) ?_
          refine g_iadd F (q := 92) (dk dX7_record 51 rfl) rfl ?_
          refine g_sti (nA rfl rfl) ?_
          refine g_putf F (q := 95) (ty := .int) hc1 rfl inX7 tyX7 tyX7_ok nmX7 (by omega) (j := 4) (by decide) tq_627 rfl rfl (by decide +kernel) rfl rfl (Nat.le_of_ble_eq_true rfl) (dk dX7_record 52 rfl) rfl (fun E92 hE92 hO92 => ?_)
          have hE92 : E92 233 = .inr (7, [.ref (ad 234), .ref (ad 235), .ref (ad 236), .ref (ad 237), .int (nI ((nh + 1))), .int s1, .ref (ad 238), .int s2, .int s3, .int s4, .int s5, .ref (ad 239), .ref (ad 240), .ref (ad 241), .long lo, .long mo, .ref (ad 242)]) := hE92
          have hc2 := (hO92 235 (by omega)).trans hq
          refine hret E92 _ _ (dk dX7_record 53 rfl) ?_
          have h4 : nup nh = nh + 1 := if_neg nc5
          exact ⟨_, (by rw [h4]; exact hE92), hc2, (recB nc5 nc55 hq1 hq2), (fun j hj => ((hO92 j (by omega)).trans (hfr51 j (by omega))))⟩
        · have nc55 : ¬ 346 ≤ i := fun h => c55 ((nI_leI (a := 346) (b := i) (by omega) (by omega)).mpr h)
          refine g_aload_n F (q := 59) (dk dX7_record 32 rfl) rfl rfl 0 rfl ?_
          have hc3 := (hfr51 233 (by omega)).trans h233
          refine g_getf F (q := 62) hc3 rfl inX7 (by omega) (j := 1) (by decide) tq_624 rfl rfl (dk dX7_record 33 rfl) rfl ?_
          refine g_sipush F (q := 65) (v := 346) (dk dX7_record 34 rfl) rfl (by decide) ?_
          refine g_aload_n F (q := 66) (dk dX7_record 35 rfl) rfl rfl 0 rfl ?_
          refine g_getf F (q := 69) hc3 rfl inX7 (by omega) (j := 4) (by decide) tq_627 rfl rfl (dk dX7_record 36 rfl) rfl ?_
          refine g_imul F (q := 70) (dk dX7_record 37 rfl) rfl ?_
          refine g_iload_n F (q := 71) (dk dX7_record 38 rfl) rfl rfl 1 rfl ?_
          refine g_iadd F (q := 72) (dk dX7_record 39 rfl) rfl ?_
          refine g_aload_n F (q := 73) (dk dX7_record 40 rfl) rfl rfl 0 rfl ?_
          refine g_getf F (q := 76) hc3 rfl inX7 (by omega) (j := 3) (by decide) tq_626 rfl rfl (dk dX7_record 41 rfl) rfl ?_
          refine g_iload_n F (q := 77) (dk dX7_record 42 rfl) rfl rfl 1 rfl ?_
          have hc4 := (hfr51 237 (by omega)).trans h237
          refine g_iald F (q := 78) i hc4 (by omega) rfl (by omega) (by decide) (dk dX7_record 43 rfl) rfl ?_
          refine g_iast F (q := 79) (((346 * nh) + i)) hq (by omega) (nA (nM rfl rfl) rfl) (by omega) (by decide) (dk dX7_record 44 rfl) rfl (fun E78 hE78 hO78 => ?_)
          refine g_iinc F (q := 82) (v := (nI ((i + 1)))) (lv' := [(1, .int (nI ((i + 1)))), (0, .ref (ad 233))]) (dk dX7_record 45 rfl) rfl 1 rfl (nI_1 _) (Nat.le_of_ble_eq_true rfl) rfl ?_
          refine g_goto F (tgt := 51) (dk dX7_record 46 rfl) (by decide) ?_
          refine g_lv (lv' := [(0, .ref (ad 233)), (1, .int (nI ((i + 1))))]) [1, 0] rfl ?_
          exact ih (i + 1) (upd q (((346 * nh) + i)) (bef i)) E78 (by omega) hE78 (fun j hj => ((hO78 j (by omega)).trans (hfr51 j (by omega)))) (by omega) (cpP1 hq1) (cpP2 hq2)
    refine g_lv (lv' := [(0, .ref (ad 233)), (1, .int 0)]) [1, 0] rfl ?_
    exact K51 _ 0 past E (Nat.lt_succ_self _) h235 (fun j _ => rfl) (by omega) (fun j hj => absurd hj (Nat.not_lt_zero j)) (fun j _ => rfl)
  · have nc5 : nh = 4 := (nI_eq (a := nh) (b := 4) (by omega) (by omega)).mp c5
    subst nc5
    refine g_iconst F (q := 9) (v := 0) (dk dX7_record 4 rfl) rfl (by decide) ?_
    refine g_istore_n F (q := 10) (lv' := [(1, .int 0), (0, .ref (ad 233))]) (dk dX7_record 5 rfl) rfl rfl (Nat.le_of_ble_eq_true rfl) rfl ?_
    have K10 : ∀ (fu : Nat) (i : Nat) (p1 : Nat → Int32) (E1 : Nat → va_E), 1038 - i < fu → (hp : E1 235 = .inl (cA 0, 1384, .inl p1)) → (hfr10 : ∀ j, (j ≠ 235) → E1 j = E j) → (hi : i ≤ 1038) → (hp1 : ∀ j, j < i → p1 j = past (346 + j)) → (hp2 : ∀ j, i ≤ j → j < 1384 → p1 j = past j) → GG rm_X7_record 2 l D X 0 0 243 ad E1 10 [(0, .ref (ad 233)), (1, .int (nI i))] [] := by
      intro fu
      induction fu with
      | zero => intro i p1 E1 hfu_; exact absurd hfu_ (Nat.not_lt_zero _)
      | succ fu ih =>
        intro i p1 E1 hfu_ hp hfr10 hi hp1 hp2
        refine g_iload_n F (q := 11) (dk dX7_record 6 rfl) rfl rfl 1 rfl ?_
        refine g_sipush F (q := 14) (v := 1038) (dk dX7_record 7 rfl) rfl (by decide) ?_
        refine g_icmp_ge F (q := 17) (tgt := 39) (dk dX7_record 8 rfl) (by decide) rfl (fun c14 => ?_) (fun c14 => ?_)
        · have nc14 : 1038 ≤ i := (nI_leI (a := 1038) (b := i) (by omega) (by omega)).mp c14
          refine g_aload_n F (q := 40) (dk dX7_record 21 rfl) rfl rfl 0 rfl ?_
          refine g_dup F (q := 41) (dk dX7_record 22 rfl) rfl rfl ?_
          have hc5 := (hfr10 233 (by omega)).trans h233
          refine g_getf F (q := 44) hc5 rfl inX7 (by omega) (j := 4) (by decide) tq_627 rfl rfl (dk dX7_record 23 rfl) rfl ?_
          refine g_iconst F (q := 45) (v := 1) (dk dX7_record 24 rfl) rfl (by decide) ?_
          refine g_isub F (q := 46) (dk dX7_record 25 rfl) rfl ?_
          refine g_sti (y := (nI 3)) (by decide) ?_
          refine g_putf F (q := 49) (ty := .int) hc5 rfl inX7 tyX7 tyX7_ok nmX7 (by omega) (j := 4) (by decide) tq_627 rfl rfl (by decide +kernel) rfl rfl (Nat.le_of_ble_eq_true rfl) (dk dX7_record 26 rfl) rfl (fun E46 hE46 hO46 => ?_)
          have hE46 : E46 233 = .inr (7, [.ref (ad 234), .ref (ad 235), .ref (ad 236), .ref (ad 237), .int (nI 3), .int s1, .ref (ad 238), .int s2, .int s3, .int s4, .int s5, .ref (ad 239), .ref (ad 240), .ref (ad 241), .long lo, .long mo, .ref (ad 242)]) := hE46
          refine g_iconst F (q := 50) (v := 0) (dk dX7_record 27 rfl) rfl (by decide) ?_
          refine g_istore_n F (q := 51) (lv' := [(1, .int 0), (0, .ref (ad 233))]) (dk dX7_record 28 rfl) rfl rfl (Nat.le_of_ble_eq_true rfl) rfl ?_
          have hc6 := (hO46 235 (by omega)).trans hp
          have K51 : ∀ (fu : Nat) (i : Nat) (q : Nat → Int32) (E2 : Nat → va_E), 346 - i < fu → (hq : E2 235 = .inl (cA 0, 1384, .inl q)) → (hfr51 : ∀ j, (j ≠ 235) → E2 j = E46 j) → (hi : i ≤ 346) → (hq1 : ∀ j, j < i → q (346 * 3 + j) = bef j) → (hq2 : ∀ j, j < 346 * 3 → q j = p1 j) → GG rm_X7_record 2 l D X 0 0 243 ad E2 51 [(0, .ref (ad 233)), (1, .int (nI i))] [] := by
            intro fu
            induction fu with
            | zero => intro i q E2 hfu_; exact absurd hfu_ (Nat.not_lt_zero _)
            | succ fu ih =>
              intro i q E2 hfu_ hq hfr51 hi hq1 hq2
              refine g_iload_n F (q := 52) (dk dX7_record 29 rfl) rfl rfl 1 rfl ?_
              refine g_sipush F (q := 55) (v := 346) (dk dX7_record 30 rfl) rfl (by decide) ?_
              refine g_icmp_ge F (q := 58) (tgt := 85) (dk dX7_record 31 rfl) (by decide) rfl (fun c55 => ?_) (fun c55 => ?_)
              · have nc55 : 346 ≤ i := (nI_leI (a := 346) (b := i) (by omega) (by omega)).mp c55
                refine g_aload_n F (q := 86) (dk dX7_record 47 rfl) rfl rfl 0 rfl ?_
                refine g_dup F (q := 87) (dk dX7_record 48 rfl) rfl rfl ?_
                have hc7 := (hfr51 233 (by omega)).trans hE46
                refine g_getf F (q := 90) hc7 rfl inX7 (by omega) (j := 4) (by decide) tq_627 rfl rfl (dk dX7_record 49 rfl) rfl ?_
                refine g_iconst F (q := 91) (v := 1) (dk dX7_record 50 rfl) rfl (by decide) ?_
                refine g_iadd F (q := 92) (dk dX7_record 51 rfl) rfl ?_
                refine g_sti (nA rfl rfl) ?_
                refine g_putf F (q := 95) (ty := .int) hc7 rfl inX7 tyX7 tyX7_ok nmX7 (by omega) (j := 4) (by decide) tq_627 rfl rfl (by decide +kernel) rfl rfl (Nat.le_of_ble_eq_true rfl) (dk dX7_record 52 rfl) rfl (fun E92 hE92 hO92 => ?_)
                have hE92 : E92 233 = .inr (7, [.ref (ad 234), .ref (ad 235), .ref (ad 236), .ref (ad 237), .int (nI ((3 + 1))), .int s1, .ref (ad 238), .int s2, .int s3, .int s4, .int s5, .ref (ad 239), .ref (ad 240), .ref (ad 241), .long lo, .long mo, .ref (ad 242)]) := hE92
                have hc8 := (hO92 235 (by omega)).trans hq
                refine hret E92 _ _ (dk dX7_record 53 rfl) ?_
                exact ⟨_, hE92, hc8, (recA nc14 hp1 nc55 hq1 hq2), (fun j hj => ((((hO92 j (by omega)).trans (hfr51 j (by omega))).trans (hO46 j (by omega))).trans (hfr10 j (by omega))))⟩
              · have nc55 : ¬ 346 ≤ i := fun h => c55 ((nI_leI (a := 346) (b := i) (by omega) (by omega)).mpr h)
                refine g_aload_n F (q := 59) (dk dX7_record 32 rfl) rfl rfl 0 rfl ?_
                have hc9 := (hfr51 233 (by omega)).trans hE46
                refine g_getf F (q := 62) hc9 rfl inX7 (by omega) (j := 1) (by decide) tq_624 rfl rfl (dk dX7_record 33 rfl) rfl ?_
                refine g_sipush F (q := 65) (v := 346) (dk dX7_record 34 rfl) rfl (by decide) ?_
                refine g_aload_n F (q := 66) (dk dX7_record 35 rfl) rfl rfl 0 rfl ?_
                refine g_getf F (q := 69) hc9 rfl inX7 (by omega) (j := 4) (by decide) tq_627 rfl rfl (dk dX7_record 36 rfl) rfl ?_
                refine g_imul F (q := 70) (dk dX7_record 37 rfl) rfl ?_
                refine g_iload_n F (q := 71) (dk dX7_record 38 rfl) rfl rfl 1 rfl ?_
                refine g_iadd F (q := 72) (dk dX7_record 39 rfl) rfl ?_
                refine g_aload_n F (q := 73) (dk dX7_record 40 rfl) rfl rfl 0 rfl ?_
                refine g_getf F (q := 76) hc9 rfl inX7 (by omega) (j := 3) (by decide) tq_626 rfl rfl (dk dX7_record 41 rfl) rfl ?_
                refine g_iload_n F (q := 77) (dk dX7_record 42 rfl) rfl rfl 1 rfl ?_
                have hc10 := (hfr10 237 (by omega)).trans h237
                have hc11 := (hO46 237 (by omega)).trans hc10
                have hc12 := (hfr51 237 (by omega)).trans hc11
                refine g_iald F (q := 78) i hc12 (by omega) rfl (by omega) (by decide) (dk dX7_record 43 rfl) rfl ?_
                refine g_iast F (q := 79) (((346 * 3) + i)) hq (by omega) (nA (nM rfl rfl) rfl) (by omega) (by decide) (dk dX7_record 44 rfl) rfl (fun E78 hE78 hO78 => ?_)
                refine g_iinc F (q := 82) (v := (nI ((i + 1)))) (lv' := [(1, .int (nI ((i + 1)))), (0, .ref (ad 233))]) (dk dX7_record 45 rfl) rfl 1 rfl (nI_1 _) (Nat.le_of_ble_eq_true rfl) rfl ?_
                refine g_goto F (tgt := 51) (dk dX7_record 46 rfl) (by decide) ?_
                refine g_lv (lv' := [(0, .ref (ad 233)), (1, .int (nI ((i + 1))))]) [1, 0] rfl ?_
                exact ih (i + 1) (upd q (((346 * 3) + i)) (bef i)) E78 (by omega) hE78 (fun j hj => ((hO78 j (by omega)).trans (hfr51 j (by omega)))) (by omega) (cpP1 hq1) (cpP2 hq2)
          refine g_lv (lv' := [(0, .ref (ad 233)), (1, .int 0)]) [1, 0] rfl ?_
          exact K51 _ 0 p1 E46 (Nat.lt_succ_self _) hc6 (fun j _ => rfl) (by omega) (fun j hj => absurd hj (Nat.not_lt_zero j)) (fun j _ => rfl)
        · have nc14 : ¬ 1038 ≤ i := fun h => c14 ((nI_leI (a := 1038) (b := i) (by omega) (by omega)).mpr h)
          refine g_aload_n F (q := 18) (dk dX7_record 9 rfl) rfl rfl 0 rfl ?_
          have hc13 := (hfr10 233 (by omega)).trans h233
          refine g_getf F (q := 21) hc13 rfl inX7 (by omega) (j := 1) (by decide) tq_624 rfl rfl (dk dX7_record 10 rfl) rfl ?_
          refine g_iload_n F (q := 22) (dk dX7_record 11 rfl) rfl rfl 1 rfl ?_
          refine g_aload_n F (q := 23) (dk dX7_record 12 rfl) rfl rfl 0 rfl ?_
          refine g_getf F (q := 26) hc13 rfl inX7 (by omega) (j := 1) (by decide) tq_624 rfl rfl (dk dX7_record 13 rfl) rfl ?_
          refine g_sipush F (q := 29) (v := 346) (dk dX7_record 14 rfl) rfl (by decide) ?_
          refine g_iload_n F (q := 30) (dk dX7_record 15 rfl) rfl rfl 1 rfl ?_
          refine g_iadd F (q := 31) (dk dX7_record 16 rfl) rfl ?_
          refine g_iald F (q := 32) ((346 + i)) hp (by omega) (nA rfl rfl) (by omega) (by decide) (dk dX7_record 17 rfl) rfl ?_
          refine g_iast F (q := 33) i hp (by omega) rfl (by omega) (by decide) (dk dX7_record 18 rfl) rfl (fun E32 hE32 hO32 => ?_)
          refine g_iinc F (q := 36) (v := (nI ((i + 1)))) (lv' := [(1, .int (nI ((i + 1)))), (0, .ref (ad 233))]) (dk dX7_record 19 rfl) rfl 1 rfl (nI_1 _) (Nat.le_of_ble_eq_true rfl) rfl ?_
          refine g_goto F (tgt := 10) (dk dX7_record 20 rfl) (by decide) ?_
          refine g_lv (lv' := [(0, .ref (ad 233)), (1, .int (nI ((i + 1))))]) [1, 0] rfl ?_
          exact ih (i + 1) (upd p1 i (p1 ((346 + i)))) E32 (by omega) hE32 (fun j hj => ((hO32 j (by omega)).trans (hfr10 j (by omega)))) (by omega) (cpS1 hp1 hp2 (by omega)) (cpS2 hp2)
    refine g_lv (lv' := [(0, .ref (ad 233)), (1, .int 0)]) [1, 0] rfl ?_
    exact K10 _ 0 past E (Nat.lt_succ_self _) h235 (fun j _ => rfl) (by omega) (fun j hj => absurd hj (Nat.not_lt_zero j)) (fun j _ _ => rfl)
theorem kv_X7_record : KV yX7_record "ThumpEarsModel" cX7_record 2 (none) 0 := ⟨tq_701, tq_11, tq_47, tq_702, by decide +kernel⟩
abbrev rm_X7_open : Room := { frames := 1, cells := 0, slots := 0, locals := 21 }
set_option maxHeartbeats 4000000 in
set_option maxRecDepth 100000 in
theorem c_X7_open {l : Launch} {D : va_G} {cA : Nat → ClassId} {ad : Nat → Nat} {E : Nat → va_E} {nh : Nat} {s1 s2 s3 s4 s5 : Int32} {lo mo : Int64} {r past bef : Nat → Int32}  (h233 : E 233 = .inr (7, [.ref (ad 234), .ref (ad 235), .ref (ad 236), .ref (ad 237), .int (nI nh), .int s1, .ref (ad 238), .int s2, .int s3, .int s4, .int s5, .ref (ad 239), .ref (ad 240), .ref (ad 241), .long lo, .long mo, .ref (ad 242)])) (h234 : E 234 = .inl (cA 0, 346, .inl r)) (h235 : E 235 = .inl (cA 0, 1384, .inl past)) (h237 : E 237 = .inl (cA 0, 346, .inl bef))  (hnh : nh ≤ 4) : CtV l D cA yX7_open cX7_open 1 rm_X7_open 243 ad E [.ref (ad 233)] (fun E' => ∃ (q : Nat → Int32) (g : Nat → Int32), E' 233 = .inr (7, [.ref (ad 234), .ref (ad 235), .ref (ad 236), .ref (ad 237), .int (nI ((nup nh))), .int s1, .ref (ad 238), .int s2, .int s3, .int s4, .int s5, .ref (ad 239), .ref (ad 240), .ref (ad 241), .long lo, .long mo, .ref (ad 242)]) ∧ E' 235 = .inl (cA 0, 1384, .inl q) ∧ E' 237 = .inl (cA 0, 346, .inl g) ∧ (eqH (nup nh) (hof q) (hpush nh (hof past) r)) ∧ ∀ j, (j ≠ 233 ∧ j ≠ 235 ∧ j ≠ 237) → E' j = E j) := by
  refine CtV.of (by decide +kernel) (Nat.le_of_ble_eq_true rfl) (fun X F hret => ?_)
  have F : Fr "ThumpEarsModel" cX7_open 1 D cA X := F
  refine (show GG rm_X7_open 1 l D X 0 0 243 ad E 0 [(0, .ref (ad 233))] [] from ?_)
  refine g_aload_n F (q := 1) (dk dX7_open 0 rfl) rfl rfl 0 rfl ?_
  refine g_callVV F (q := 4) (av := []) (st := []) (c_X7_remember h233 h234 h237) kv_X7_remember tq_695 h233 rfl (by omega) ⟨rfl, rfl⟩ (by decide) ⟨Nat.le_refl _, Nat.le_refl _⟩ rfl rfl (Nat.le_of_ble_eq_true rfl) (dk dX7_open 1 rfl) rfl (fun E1 hp1 => ?_)
  obtain ⟨g_1, hK237_1, hg2_1, hF1⟩ := hp1
  refine g_aload_n F (q := 5) (dk dX7_open 2 rfl) rfl rfl 0 rfl ?_
  have hc1 := (hF1 233 (by omega)).trans h233
  have hc2 := (hF1 235 (by omega)).trans h235
  refine g_callVV F (q := 8) (av := []) (st := []) (c_X7_record hc1 hc2 hK237_1 (by first | assumption | decide | omega)) kv_X7_record tq_699 hc1 rfl (by omega) ⟨rfl, rfl⟩ (by decide) ⟨Nat.le_refl _, Nat.le_refl _⟩ rfl rfl (Nat.le_of_ble_eq_true rfl) (dk dX7_open 3 rfl) rfl (fun E5 hp5 => ?_)
  obtain ⟨q_5, hK233_5, hK235_5, hp_5, hF5⟩ := hp5
  have hc3 := (hF5 237 (by omega)).trans hK237_1
  refine hret E5 _ _ (dk dX7_open 4 rfl) ?_
  exact ⟨q_5, g_1, hK233_5, hK235_5, hc3, (hpush_cg hg2_1 hp_5), (fun j hj => ((hF5 j (by omega)).trans (hF1 j (by omega))))⟩
theorem kv_X7_open : KV yX7_open "ThumpEarsModel" cX7_open 1 (none) 0 := ⟨tq_693, tq_9, tq_47, tq_694, by decide +kernel⟩
abbrev rm_X7_undo : Room := { frames := 0, cells := 0, slots := 0, locals := 0 }
set_option maxHeartbeats 4000000 in
set_option maxRecDepth 100000 in
theorem c_X7_undo {l : Launch} {D : va_G} {cA : Nat → ClassId} {ad : Nat → Nat} {E : Nat → va_E} {nh : Nat} {s1 s2 s3 s4 s5 : Int32} {lo mo : Int64} {r past : Nat → Int32}  (h233 : E 233 = .inr (7, [.ref (ad 234), .ref (ad 235), .ref (ad 236), .ref (ad 237), .int (nI nh), .int s1, .ref (ad 238), .int s2, .int s3, .int s4, .int s5, .ref (ad 239), .ref (ad 240), .ref (ad 241), .long lo, .long mo, .ref (ad 242)])) (h234 : E 234 = .inl (cA 0, 346, .inl r)) (h235 : E 235 = .inl (cA 0, 1384, .inl past))  (hnh : nh ≤ 4) : CtI l D cA yX7_undo cX7_undo 2 .int rm_X7_undo 243 ad E [.ref (ad 233)] (fun x E' => ∃ (f : Nat → Int32) (n2 : Nat), (if nh = 0 then (-5 : Int32) else nI (nh - 1)) = x ∧ E' 233 = .inr (7, [.ref (ad 234), .ref (ad 235), .ref (ad 236), .ref (ad 237), .int (nI n2), .int s1, .ref (ad 238), .int s2, .int s3, .int s4, .int s5, .ref (ad 239), .ref (ad 240), .ref (ad 241), .long lo, .long mo, .ref (ad 242)]) ∧ E' 234 = .inl (cA 0, 346, .inl f) ∧ (n2 = nh - 1) ∧ (eqN 346 f (if nh = 0 then r else hof past (nh - 1))) ∧ ∀ j, (j ≠ 233 ∧ j ≠ 234) → E' j = E j) := by
  refine CtI.of (by decide +kernel) (Nat.le_of_ble_eq_true rfl) (fun X F hret => ?_)
  have F : Fr "ThumpEarsModel" cX7_undo 2 D cA X := F
  refine (show GG rm_X7_undo 2 l D X 0 0 243 ad E 0 [(0, .ref (ad 233))] [] from ?_)
  refine g_aload_n F (q := 1) (dk dX7_undo 0 rfl) rfl rfl 0 rfl ?_
  refine g_getf F (q := 4) h233 rfl inX7 (by omega) (j := 4) (by decide) tq_627 rfl rfl (dk dX7_undo 1 rfl) rfl ?_
  refine g_if_ne F (q := 7) (tgt := 10) (dk dX7_undo 2 rfl) (by decide) rfl (fun c4 => ?_) (fun c4 => ?_)
  · have nc4 : ¬ nh = 0 := fun h => c4 ((nI_eq (a := nh) (b := 0) (by omega) (by omega)).mpr h)
    refine g_aload_n F (q := 11) (dk dX7_undo 5 rfl) rfl rfl 0 rfl ?_
    refine g_dup F (q := 12) (dk dX7_undo 6 rfl) rfl rfl ?_
    refine g_getf F (q := 15) h233 rfl inX7 (by omega) (j := 4) (by decide) tq_627 rfl rfl (dk dX7_undo 7 rfl) rfl ?_
    refine g_iconst F (q := 16) (v := 1) (dk dX7_undo 8 rfl) rfl (by decide) ?_
    refine g_isub F (q := 17) (dk dX7_undo 9 rfl) rfl ?_
    refine g_sti (y := (nI ((nh - 1)))) (nI_sub1 (by omega)) ?_
    refine g_putf F (q := 20) (ty := .int) h233 rfl inX7 tyX7 tyX7_ok nmX7 (by omega) (j := 4) (by decide) tq_627 rfl rfl (by decide +kernel) rfl rfl (Nat.le_of_ble_eq_true rfl) (dk dX7_undo 10 rfl) rfl (fun E17 hE17 hO17 => ?_)
    have hE17 : E17 233 = .inr (7, [.ref (ad 234), .ref (ad 235), .ref (ad 236), .ref (ad 237), .int (nI ((nh - 1))), .int s1, .ref (ad 238), .int s2, .int s3, .int s4, .int s5, .ref (ad 239), .ref (ad 240), .ref (ad 241), .long lo, .long mo, .ref (ad 242)]) := hE17
    refine g_iconst F (q := 21) (v := 0) (dk dX7_undo 11 rfl) rfl (by decide) ?_
    refine g_istore_n F (q := 22) (lv' := [(1, .int 0), (0, .ref (ad 233))]) (dk dX7_undo 12 rfl) rfl rfl (Nat.le_of_ble_eq_true rfl) rfl ?_
    have K22 : ∀ (fu : Nat) (i : Nat) (g : Nat → Int32) (E1 : Nat → va_E), 346 - i < fu → (hg : E1 234 = .inl (cA 0, 346, .inl g)) → (hfr22 : ∀ j, (j ≠ 234) → E1 j = E17 j) → (hi : i ≤ 346) → (hg2 : ∀ j, j < i → g j = past (346 * (nh - 1) + j)) → GG rm_X7_undo 2 l D X 0 0 243 ad E1 22 [(0, .ref (ad 233)), (1, .int (nI i))] [] := by
      intro fu
      induction fu with
      | zero => intro i g E1 hfu_; exact absurd hfu_ (Nat.not_lt_zero _)
      | succ fu ih =>
        intro i g E1 hfu_ hg hfr22 hi hg2
        refine g_iload_n F (q := 23) (dk dX7_undo 13 rfl) rfl rfl 1 rfl ?_
        refine g_sipush F (q := 26) (v := 346) (dk dX7_undo 14 rfl) rfl (by decide) ?_
        refine g_icmp_ge F (q := 29) (tgt := 56) (dk dX7_undo 15 rfl) (by decide) rfl (fun c26 => ?_) (fun c26 => ?_)
        · have nc26 : 346 ≤ i := (nI_leI (a := 346) (b := i) (by omega) (by omega)).mp c26
          refine g_aload_n F (q := 57) (dk dX7_undo 31 rfl) rfl rfl 0 rfl ?_
          have hc1 := (hfr22 233 (by omega)).trans hE17
          refine g_getf F (q := 60) hc1 rfl inX7 (by omega) (j := 4) (by decide) tq_627 rfl rfl (dk dX7_undo 32 rfl) rfl ?_
          refine hret (nI ((nh - 1))) E1 _ _ (dk dX7_undo 33 rfl) (nint _) ?_
          exact ⟨g, (nh - 1), (if_neg (by omega)), hc1, hg, (by omega), (by rw [if_neg (by omega)]; exact cpyH (nh := nh) hg2 (by omega)), (fun j hj => ((hfr22 j (by omega)).trans (hO17 j (by omega))))⟩
        · have nc26 : ¬ 346 ≤ i := fun h => c26 ((nI_leI (a := 346) (b := i) (by omega) (by omega)).mpr h)
          refine g_aload_n F (q := 30) (dk dX7_undo 16 rfl) rfl rfl 0 rfl ?_
          have hc2 := (hfr22 233 (by omega)).trans hE17
          refine g_getf F (q := 33) hc2 rfl inX7 (by omega) (j := 0) (by decide) tq_623 rfl rfl (dk dX7_undo 17 rfl) rfl ?_
          refine g_iload_n F (q := 34) (dk dX7_undo 18 rfl) rfl rfl 1 rfl ?_
          refine g_aload_n F (q := 35) (dk dX7_undo 19 rfl) rfl rfl 0 rfl ?_
          refine g_getf F (q := 38) hc2 rfl inX7 (by omega) (j := 1) (by decide) tq_624 rfl rfl (dk dX7_undo 20 rfl) rfl ?_
          refine g_sipush F (q := 41) (v := 346) (dk dX7_undo 21 rfl) rfl (by decide) ?_
          refine g_aload_n F (q := 42) (dk dX7_undo 22 rfl) rfl rfl 0 rfl ?_
          refine g_getf F (q := 45) hc2 rfl inX7 (by omega) (j := 4) (by decide) tq_627 rfl rfl (dk dX7_undo 23 rfl) rfl ?_
          refine g_imul F (q := 46) (dk dX7_undo 24 rfl) rfl ?_
          refine g_iload_n F (q := 47) (dk dX7_undo 25 rfl) rfl rfl 1 rfl ?_
          refine g_iadd F (q := 48) (dk dX7_undo 26 rfl) rfl ?_
          have hc3 := (hO17 235 (by omega)).trans h235
          have hc4 := (hfr22 235 (by omega)).trans hc3
          refine g_iald F (q := 49) (((346 * (nh - 1)) + i)) hc4 (by omega) (nA (nM rfl rfl) rfl) (by omega) (by decide) (dk dX7_undo 27 rfl) rfl ?_
          refine g_iast F (q := 50) i hg (by omega) rfl (by omega) (by decide) (dk dX7_undo 28 rfl) rfl (fun E49 hE49 hO49 => ?_)
          refine g_iinc F (q := 53) (v := (nI ((i + 1)))) (lv' := [(1, .int (nI ((i + 1)))), (0, .ref (ad 233))]) (dk dX7_undo 29 rfl) rfl 1 rfl (nI_1 _) (Nat.le_of_ble_eq_true rfl) rfl ?_
          refine g_goto F (tgt := 22) (dk dX7_undo 30 rfl) (by decide) ?_
          refine g_lv (lv' := [(0, .ref (ad 233)), (1, .int (nI ((i + 1))))]) [1, 0] rfl ?_
          exact ih (i + 1) (upd g i (past (((346 * (nh - 1)) + i)))) E49 (by omega) hE49 (fun j hj => ((hO49 j (by omega)).trans (hfr22 j (by omega)))) (by omega) (cpyS hg2)
    refine g_lv (lv' := [(0, .ref (ad 233)), (1, .int 0)]) [1, 0] rfl ?_
    have hc5 := (hO17 234 (by omega)).trans h234
    exact K22 _ 0 r E17 (Nat.lt_succ_self _) hc5 (fun j _ => rfl) (by omega) (fun k hk => absurd hk (Nat.not_lt_zero k))
  · have nc4 : nh = 0 := (nI_eq (a := nh) (b := 0) (by omega) (by omega)).mp c4
    refine g_bipush F (q := 9) (v := (-5)) (dk dX7_undo 3 rfl) rfl (by decide) ?_
    refine hret (-5) E _ _ (dk dX7_undo 4 rfl) (nint _) ?_
    exact ⟨r, nh, (if_pos (Nat.le_zero.mp (by omega))), h233, h234, (by omega), (by rw [if_pos (Nat.le_zero.mp (by omega))]; exact eqN.rf), (fun j _ => rfl)⟩
theorem kv_X7_undo : KV yX7_undo "ThumpEarsModel" cX7_undo 2 (some .int) 0 := ⟨tq_676, tq_677, tq_47, tq_678, by decide +kernel⟩
abbrev rm_X7_keep : Room := { frames := 1, cells := 0, slots := 0, locals := 20 }
set_option maxHeartbeats 4000000 in
set_option maxRecDepth 100000 in
theorem c_X7_keep {l : Launch} {D : va_G} {cA : Nat → ClassId} {ad : Nat → Nat} {E : Nat → va_E} {s0 s1 s2 s3 s4 s5 : Int32} {lo mo : Int64} {r asd : Nat → Int32}  (h233 : E 233 = .inr (7, [.ref (ad 234), .ref (ad 235), .ref (ad 236), .ref (ad 237), .int s0, .int s1, .ref (ad 238), .int s2, .int s3, .int s4, .int s5, .ref (ad 239), .ref (ad 240), .ref (ad 241), .long lo, .long mo, .ref (ad 242)])) (h234 : E 234 = .inl (cA 0, 346, .inl r)) (h236 : E 236 = .inl (cA 0, 346, .inl asd))   : CtI l D cA yX7_keep cX7_keep 2 .int rm_X7_keep 243 ad E [.ref (ad 233)] (fun x E' => ∃ (g : Nat → Int32), (r 1 + r 2) = x ∧ E' 233 = .inr (7, [.ref (ad 234), .ref (ad 235), .ref (ad 236), .ref (ad 237), .int s0, .int 1, .ref (ad 238), .int s2, .int s3, .int s4, .int s5, .ref (ad 239), .ref (ad 240), .ref (ad 241), .long lo, .long mo, .ref (ad 242)]) ∧ E' 236 = .inl (cA 0, 346, .inl g) ∧ (eqN 346 g r) ∧ ∀ j, (j ≠ 233 ∧ j ≠ 236) → E' j = E j) := by
  refine CtI.of (by decide +kernel) (Nat.le_of_ble_eq_true rfl) (fun X F hret => ?_)
  have F : Fr "ThumpEarsModel" cX7_keep 2 D cA X := F
  refine (show GG rm_X7_keep 2 l D X 0 0 243 ad E 0 [(0, .ref (ad 233))] [] from ?_)
  refine g_iconst F (q := 1) (v := 0) (dk dX7_keep 0 rfl) rfl (by decide) ?_
  refine g_istore_n F (q := 2) (lv' := [(1, .int 0), (0, .ref (ad 233))]) (dk dX7_keep 1 rfl) rfl rfl (Nat.le_of_ble_eq_true rfl) rfl ?_
  have K2 : ∀ (fu : Nat) (i : Nat) (g : Nat → Int32) (E1 : Nat → va_E), 346 - i < fu → (hg : E1 236 = .inl (cA 0, 346, .inl g)) → (hfr2 : ∀ j, (j ≠ 236) → E1 j = E j) → (hi : i ≤ 346) → (hg2 : eqN i g r) → GG rm_X7_keep 2 l D X 0 0 243 ad E1 2 [(0, .ref (ad 233)), (1, .int (nI i))] [] := by
    intro fu
    induction fu with
    | zero => intro i g E1 hfu_; exact absurd hfu_ (Nat.not_lt_zero _)
    | succ fu ih =>
      intro i g E1 hfu_ hg hfr2 hi hg2
      refine g_iload_n F (q := 3) (dk dX7_keep 2 rfl) rfl rfl 1 rfl ?_
      refine g_sipush F (q := 6) (v := 346) (dk dX7_keep 3 rfl) rfl (by decide) ?_
      refine g_icmp_ge F (q := 9) (tgt := 27) (dk dX7_keep 4 rfl) (by decide) rfl (fun c6 => ?_) (fun c6 => ?_)
      · have nc6 : 346 ≤ i := (nI_leI (a := 346) (b := i) (by omega) (by omega)).mp c6
        refine g_aload_n F (q := 28) (dk dX7_keep 15 rfl) rfl rfl 0 rfl ?_
        refine g_iconst F (q := 29) (v := 1) (dk dX7_keep 16 rfl) rfl (by decide) ?_
        have hc1 := (hfr2 233 (by omega)).trans h233
        refine g_putf F (q := 32) (ty := .boolean) hc1 rfl inX7 tyX7 tyX7_ok nmX7 (by omega) (j := 5) (by decide) tq_628 rfl rfl (by decide +kernel) rfl rfl (Nat.le_of_ble_eq_true rfl) (dk dX7_keep 17 rfl) rfl (fun E29 hE29 hO29 => ?_)
        have hE29 : E29 233 = .inr (7, [.ref (ad 234), .ref (ad 235), .ref (ad 236), .ref (ad 237), .int s0, .int 1, .ref (ad 238), .int s2, .int s3, .int s4, .int s5, .ref (ad 239), .ref (ad 240), .ref (ad 241), .long lo, .long mo, .ref (ad 242)]) := hE29
        refine g_aload_n F (q := 33) (dk dX7_keep 18 rfl) rfl rfl 0 rfl ?_
        have hc2 := (hfr2 234 (by omega)).trans h234
        have hc3 := (hO29 234 (by omega)).trans hc2
        refine g_callVI F (q := 36) (av := []) (st := []) (c_X7_came hE29 hc3) kv_X7_came tq_683 hE29 rfl (by omega) ⟨rfl, rfl⟩ (by decide) ⟨Nat.le_refl _, Nat.le_refl _⟩ rfl rfl (Nat.le_of_ble_eq_true rfl) (dk dX7_keep 19 rfl) rfl (fun r33 E33 hp33 => ?_)
        obtain ⟨rfl, rfl⟩ := hp33
        have hc4 := (hO29 236 (by omega)).trans hg
        refine hret (r 1 + r 2) E29 _ _ (dk dX7_keep 20 rfl) (nint _) ?_
        exact ⟨g, rfl, hE29, hc4, (fun k hk => hg2 k (by omega)), (fun j hj => ((hO29 j (by omega)).trans (hfr2 j (by omega))))⟩
      · have nc6 : ¬ 346 ≤ i := fun h => c6 ((nI_leI (a := 346) (b := i) (by omega) (by omega)).mpr h)
        refine g_aload_n F (q := 10) (dk dX7_keep 5 rfl) rfl rfl 0 rfl ?_
        have hc5 := (hfr2 233 (by omega)).trans h233
        refine g_getf F (q := 13) hc5 rfl inX7 (by omega) (j := 2) (by decide) tq_625 rfl rfl (dk dX7_keep 6 rfl) rfl ?_
        refine g_iload_n F (q := 14) (dk dX7_keep 7 rfl) rfl rfl 1 rfl ?_
        refine g_aload_n F (q := 15) (dk dX7_keep 8 rfl) rfl rfl 0 rfl ?_
        refine g_getf F (q := 18) hc5 rfl inX7 (by omega) (j := 0) (by decide) tq_623 rfl rfl (dk dX7_keep 9 rfl) rfl ?_
        refine g_iload_n F (q := 19) (dk dX7_keep 10 rfl) rfl rfl 1 rfl ?_
        have hc6 := (hfr2 234 (by omega)).trans h234
        refine g_iald F (q := 20) i hc6 (by omega) rfl (by omega) (by decide) (dk dX7_keep 11 rfl) rfl ?_
        refine g_iast F (q := 21) i hg (by omega) rfl (by omega) (by decide) (dk dX7_keep 12 rfl) rfl (fun E20 hE20 hO20 => ?_)
        refine g_iinc F (q := 24) (v := (nI ((i + 1)))) (lv' := [(1, .int (nI ((i + 1)))), (0, .ref (ad 233))]) (dk dX7_keep 13 rfl) rfl 1 rfl (nI_1 _) (Nat.le_of_ble_eq_true rfl) rfl ?_
        refine g_goto F (tgt := 2) (dk dX7_keep 14 rfl) (by decide) ?_
        refine g_lv (lv' := [(0, .ref (ad 233)), (1, .int (nI ((i + 1))))]) [1, 0] rfl ?_
        exact ih (i + 1) (upd g i (r i)) E20 (by omega) hE20 (fun j hj => ((hO20 j (by omega)).trans (hfr2 j (by omega)))) (by omega) (eqN_cpy hg2)
  refine g_lv (lv' := [(0, .ref (ad 233)), (1, .int 0)]) [1, 0] rfl ?_
  exact K2 _ 0 asd E (Nat.lt_succ_self _) h236 (fun j _ => rfl) (by omega) (fun k hk => absurd hk (Nat.not_lt_zero k))
theorem kv_X7_keep : KV yX7_keep "ThumpEarsModel" cX7_keep 2 (some .int) 0 := ⟨tq_680, tq_681, tq_47, tq_682, by decide +kernel⟩
abbrev rm_X7_restore : Room := { frames := 2, cells := 0, slots := 0, locals := 41 }
set_option maxHeartbeats 4000000 in
set_option maxRecDepth 100000 in
theorem c_X7_restore {l : Launch} {D : va_G} {cA : Nat → ClassId} {ad : Nat → Nat} {E : Nat → va_E} {nh : Nat} {s1 s2 s3 s4 s5 : Int32} {lo mo : Int64} {r past bef asd : Nat → Int32}  (h233 : E 233 = .inr (7, [.ref (ad 234), .ref (ad 235), .ref (ad 236), .ref (ad 237), .int (nI nh), .int s1, .ref (ad 238), .int s2, .int s3, .int s4, .int s5, .ref (ad 239), .ref (ad 240), .ref (ad 241), .long lo, .long mo, .ref (ad 242)])) (h234 : E 234 = .inl (cA 0, 346, .inl r)) (h235 : E 235 = .inl (cA 0, 1384, .inl past)) (h237 : E 237 = .inl (cA 0, 346, .inl bef)) (h236 : E 236 = .inl (cA 0, 346, .inl asd))  (hnh : nh ≤ 4) : CtI l D cA yX7_restore cX7_restore 2 .int rm_X7_restore 243 ad E [.ref (ad 233)] (fun x E' => ∃ (f : Nat → Int32) (q : Nat → Int32) (g : Nat → Int32) (n2 : Nat), (if s1 = 0 then (-5 : Int32) else asd 1 + asd 2) = x ∧ E' 233 = .inr (7, [.ref (ad 234), .ref (ad 235), .ref (ad 236), .ref (ad 237), .int (nI n2), .int s1, .ref (ad 238), .int s2, .int s3, .int s4, .int s5, .ref (ad 239), .ref (ad 240), .ref (ad 241), .long lo, .long mo, .ref (ad 242)]) ∧ E' 234 = .inl (cA 0, 346, .inl f) ∧ E' 235 = .inl (cA 0, 1384, .inl q) ∧ E' 237 = .inl (cA 0, 346, .inl g) ∧ (NX (if s1 = 0 then none else some asd) r past nh f q n2) ∧ ∀ j, (j ≠ 233 ∧ j ≠ 234 ∧ j ≠ 235 ∧ j ≠ 237) → E' j = E j) := by
  refine CtI.of (by decide +kernel) (Nat.le_of_ble_eq_true rfl) (fun X F hret => ?_)
  have F : Fr "ThumpEarsModel" cX7_restore 2 D cA X := F
  refine (show GG rm_X7_restore 2 l D X 0 0 243 ad E 0 [(0, .ref (ad 233))] [] from ?_)
  refine g_aload_n F (q := 1) (dk dX7_restore 0 rfl) rfl rfl 0 rfl ?_
  refine g_getf F (q := 4) h233 rfl inX7 (by omega) (j := 5) (by decide) tq_628 rfl rfl (dk dX7_restore 1 rfl) rfl ?_
  refine g_if_ne F (q := 7) (tgt := 10) (dk dX7_restore 2 rfl) (by decide) rfl (fun c4 => ?_) (fun c4 => ?_)
  · refine g_aload_n F (q := 11) (dk dX7_restore 5 rfl) rfl rfl 0 rfl ?_
    refine g_callVV F (q := 14) (av := []) (st := []) (c_X7_open h233 h234 h235 h237 (by first | assumption | decide | omega)) kv_X7_open tq_691 h233 rfl (by omega) ⟨rfl, rfl⟩ (by decide) ⟨Nat.le_refl _, Nat.le_refl _⟩ rfl rfl (Nat.le_of_ble_eq_true rfl) (dk dX7_restore 6 rfl) rfl (fun E11 hp11 => ?_)
    obtain ⟨q_11, g_11, hK233_11, hK235_11, hK237_11, hp_11, hF11⟩ := hp11
    refine g_iconst F (q := 15) (v := 0) (dk dX7_restore 7 rfl) rfl (by decide) ?_
    refine g_istore_n F (q := 16) (lv' := [(1, .int 0), (0, .ref (ad 233))]) (dk dX7_restore 8 rfl) rfl rfl (Nat.le_of_ble_eq_true rfl) rfl ?_
    have K16 : ∀ (fu : Nat) (i : Nat) (f : Nat → Int32) (E1 : Nat → va_E), 346 - i < fu → (hf : E1 234 = .inl (cA 0, 346, .inl f)) → (hfr16 : ∀ j, (j ≠ 234) → E1 j = E11 j) → (hi : i ≤ 346) → (hf2 : eqN i f asd) → GG rm_X7_restore 2 l D X 0 0 243 ad E1 16 [(0, .ref (ad 233)), (1, .int (nI i))] [] := by
      intro fu
      induction fu with
      | zero => intro i f E1 hfu_; exact absurd hfu_ (Nat.not_lt_zero _)
      | succ fu ih =>
        intro i f E1 hfu_ hf hfr16 hi hf2
        refine g_iload_n F (q := 17) (dk dX7_restore 9 rfl) rfl rfl 1 rfl ?_
        refine g_sipush F (q := 20) (v := 346) (dk dX7_restore 10 rfl) rfl (by decide) ?_
        refine g_icmp_ge F (q := 23) (tgt := 41) (dk dX7_restore 11 rfl) (by decide) rfl (fun c20 => ?_) (fun c20 => ?_)
        · have nc20 : 346 ≤ i := (nI_leI (a := 346) (b := i) (by omega) (by omega)).mp c20
          refine g_aload_n F (q := 42) (dk dX7_restore 22 rfl) rfl rfl 0 rfl ?_
          have hc1 := (hfr16 233 (by omega)).trans hK233_11
          refine g_callVI F (q := 45) (av := []) (st := []) (c_X7_came hc1 hf) kv_X7_came tq_683 hc1 rfl (by omega) ⟨rfl, rfl⟩ (by decide) ⟨Nat.le_refl _, Nat.le_refl _⟩ rfl rfl (Nat.le_of_ble_eq_true rfl) (dk dX7_restore 23 rfl) rfl (fun r42 E42 hp42 => ?_)
          obtain ⟨rfl, rfl⟩ := hp42
          have hc2 := (hfr16 235 (by omega)).trans hK235_11
          have hc3 := (hfr16 237 (by omega)).trans hK237_11
          refine hret (f 1 + f 2) E1 _ _ (dk dX7_restore 24 rfl) (nint _) ?_
          exact ⟨f, q_11, g_11, (nup nh), (by rw [if_neg c4, hf2 1 (by omega), hf2 2 (by omega)]), hc1, hf, hc2, hc3, (by rw [if_neg c4]; exact ⟨rfl, fun k hk => hf2 k (by omega), hp_11⟩), (fun j hj => ((hfr16 j (by omega)).trans (hF11 j (by omega))))⟩
        · have nc20 : ¬ 346 ≤ i := fun h => c20 ((nI_leI (a := 346) (b := i) (by omega) (by omega)).mpr h)
          refine g_aload_n F (q := 24) (dk dX7_restore 12 rfl) rfl rfl 0 rfl ?_
          have hc4 := (hfr16 233 (by omega)).trans hK233_11
          refine g_getf F (q := 27) hc4 rfl inX7 (by omega) (j := 0) (by decide) tq_623 rfl rfl (dk dX7_restore 13 rfl) rfl ?_
          refine g_iload_n F (q := 28) (dk dX7_restore 14 rfl) rfl rfl 1 rfl ?_
          refine g_aload_n F (q := 29) (dk dX7_restore 15 rfl) rfl rfl 0 rfl ?_
          refine g_getf F (q := 32) hc4 rfl inX7 (by omega) (j := 2) (by decide) tq_625 rfl rfl (dk dX7_restore 16 rfl) rfl ?_
          refine g_iload_n F (q := 33) (dk dX7_restore 17 rfl) rfl rfl 1 rfl ?_
          have hc5 := (hF11 236 (by omega)).trans h236
          have hc6 := (hfr16 236 (by omega)).trans hc5
          refine g_iald F (q := 34) i hc6 (by omega) rfl (by omega) (by decide) (dk dX7_restore 18 rfl) rfl ?_
          refine g_iast F (q := 35) i hf (by omega) rfl (by omega) (by decide) (dk dX7_restore 19 rfl) rfl (fun E34 hE34 hO34 => ?_)
          refine g_iinc F (q := 38) (v := (nI ((i + 1)))) (lv' := [(1, .int (nI ((i + 1)))), (0, .ref (ad 233))]) (dk dX7_restore 20 rfl) rfl 1 rfl (nI_1 _) (Nat.le_of_ble_eq_true rfl) rfl ?_
          refine g_goto F (tgt := 16) (dk dX7_restore 21 rfl) (by decide) ?_
          refine g_lv (lv' := [(0, .ref (ad 233)), (1, .int (nI ((i + 1))))]) [1, 0] rfl ?_
          exact ih (i + 1) (upd f i (asd i)) E34 (by omega) hE34 (fun j hj => ((hO34 j (by omega)).trans (hfr16 j (by omega)))) (by omega) (eqN_cpy hf2)
    refine g_lv (lv' := [(0, .ref (ad 233)), (1, .int 0)]) [1, 0] rfl ?_
    have hc7 := (hF11 234 (by omega)).trans h234
    exact K16 _ 0 r E11 (Nat.lt_succ_self _) hc7 (fun j _ => rfl) (by omega) (fun k hk => absurd hk (Nat.not_lt_zero k))
  · refine g_bipush F (q := 9) (v := (-5)) (dk dX7_restore 3 rfl) rfl (by decide) ?_
    refine hret (-5) E _ _ (dk dX7_restore 4 rfl) (nint _) ?_
    exact ⟨r, past, bef, nh, (if_pos c4), h233, h234, h235, h237, (by rw [if_pos c4]; exact NX.nil), (fun j _ => rfl)⟩
theorem kv_X7_restore : KV yX7_restore "ThumpEarsModel" cX7_restore 2 (some .int) 0 := ⟨tq_688, tq_689, tq_47, tq_690, by decide +kernel⟩
abbrev rm_X7_noEar : Room := { frames := 1, cells := 0, slots := 0, locals := 22 }
set_option maxHeartbeats 4000000 in
set_option maxRecDepth 100000 in
theorem c_X7_noEar {l : Launch} {D : va_G} {cA : Nat → ClassId} {ad : Nat → Nat} {E : Nat → va_E} {s0 s1 s2 s3 s4 s5 : Int32} {lo mo : Int64} {r : Nat → Int32} {ne : Nat} {ear : Int32} (h233 : E 233 = .inr (7, [.ref (ad 234), .ref (ad 235), .ref (ad 236), .ref (ad 237), .int s0, .int s1, .ref (ad 238), .int s2, .int s3, .int s4, .int s5, .ref (ad 239), .ref (ad 240), .ref (ad 241), .long lo, .long mo, .ref (ad 242)])) (h234 : E 234 = .inl (cA 0, 346, .inl r))  (h0 : r 0 = nI ne) (hne : ne ≤ 10) : CtI l D cA yX7_noEar cX7_noEar 2 .boolean rm_X7_noEar 243 ad E [.ref (ad 233), .int ear] (fun x E' => (E = E' ∧ 1 = x ∧ (ear < 0 ∨ ne ≤ ear.toNatClampNeg)) ∨ (E = E' ∧ 0 = x ∧ (∃ e : Nat, e < ne ∧ ear = nI e))) := by
  refine CtI.of (by decide +kernel) (Nat.le_of_ble_eq_true rfl) (fun X F hret => ?_)
  have F : Fr "ThumpEarsModel" cX7_noEar 2 D cA X := F
  refine (show GG rm_X7_noEar 2 l D X 0 0 243 ad E 0 [(0, .ref (ad 233)), (1, .int ear)] [] from ?_)
  refine g_iload_n F (q := 1) (dk dX7_noEar 0 rfl) rfl rfl 1 rfl ?_
  refine g_iconst F (q := 2) (v := 0) (dk dX7_noEar 1 rfl) rfl (by decide) ?_
  refine g_aload_n F (q := 3) (dk dX7_noEar 2 rfl) rfl rfl 0 rfl ?_
  refine g_getf F (q := 6) h233 rfl inX7 (by omega) (j := 0) (by decide) tq_623 rfl rfl (dk dX7_noEar 3 rfl) rfl ?_
  refine g_iconst F (q := 7) (v := 0) (dk dX7_noEar 4 rfl) rfl (by decide) ?_
  refine g_iald F (q := 8) 0 h234 (by omega) rfl (by omega) (by decide) (dk dX7_noEar 5 rfl) rfl ?_
  refine g_sti (y := (nI ne)) h0 ?_
  refine g_iconst F (q := 9) (v := 1) (dk dX7_noEar 6 rfl) rfl (by decide) ?_
  refine g_isub F (q := 10) (dk dX7_noEar 7 rfl) rfl ?_
  refine g_callSI F (q := 13) (av := [.int ear, .int 0, .int ((nI ne) - 1)]) (st := []) (c_X7_in (v := ear) (a := 0) (b := ((nI ne) - 1))) ks_X7_in tq_707 ⟨rfl, rfl⟩ (by decide) ⟨Nat.le_refl _, Nat.le_refl _⟩ rfl rfl (Nat.le_of_ble_eq_true rfl) (dk dX7_noEar 8 rfl) rfl (fun r10 E10 hp10 => ?_)
  rcases hp10 with ⟨rfl, rfl, b10⟩ | ⟨rfl, rfl, b10⟩
  · refine g_if_ne F (q := 16) (tgt := 20) (dk dX7_noEar 9 rfl) (by decide) rfl (fun _ => ?_) (fun h => absurd h (by decide))
    refine g_iconst F (q := 21) (v := 0) (dk dX7_noEar 12 rfl) rfl (by decide) ?_
    refine hret 0 E _ _ (dk dX7_noEar 13 rfl) rfl ?_
    exact Or.inr ⟨rfl, rfl, ixQ (by omega) b10⟩
  · refine g_if_ne F (q := 16) (tgt := 20) (dk dX7_noEar 9 rfl) (by decide) rfl (fun h => absurd h (by decide)) (fun _ => ?_)
    refine g_iconst F (q := 17) (v := 1) (dk dX7_noEar 10 rfl) rfl (by decide) ?_
    refine g_goto F (tgt := 21) (dk dX7_noEar 11 rfl) (by decide) ?_
    refine hret 1 E _ _ (dk dX7_noEar 13 rfl) rfl ?_
    exact Or.inl ⟨rfl, rfl, ixR (by omega) b10⟩
theorem kv_X7_noEar : KV yX7_noEar "ThumpEarsModel" cX7_noEar 2 (some .boolean) 1 := ⟨tq_716, tq_12, tq_47, tq_717, by decide +kernel⟩
abbrev rm_X7_none : Room := { frames := 1, cells := 0, slots := 0, locals := 22 }
set_option maxHeartbeats 4000000 in
set_option maxRecDepth 100000 in
theorem c_X7_none {l : Launch} {D : va_G} {cA : Nat → ClassId} {ad : Nat → Nat} {E : Nat → va_E} {s0 s1 s2 s3 s4 s5 : Int32} {lo mo : Int64} {r : Nat → Int32} {n k : Nat} {a : Int32} (h233 : E 233 = .inr (7, [.ref (ad 234), .ref (ad 235), .ref (ad 236), .ref (ad 237), .int s0, .int s1, .ref (ad 238), .int s2, .int s3, .int s4, .int s5, .ref (ad 239), .ref (ad 240), .ref (ad 241), .long lo, .long mo, .ref (ad 242)])) (h234 : E 234 = .inl (cA 0, 346, .inl r))  (hk : k < 2) (h0 : r (1 + k) = nI n) (hn : n ≤ 10) : CtI l D cA yX7_none cX7_none 3 .boolean rm_X7_none 243 ad E [.ref (ad 233), .int (nI k), .int a] (fun x E' => (E = E' ∧ 1 = x ∧ (a < 0 ∨ n ≤ a.toNatClampNeg)) ∨ (E = E' ∧ 0 = x ∧ (∃ e : Nat, e < n ∧ a = nI e))) := by
  refine CtI.of (by decide +kernel) (Nat.le_of_ble_eq_true rfl) (fun X F hret => ?_)
  have F : Fr "ThumpEarsModel" cX7_none 3 D cA X := F
  refine (show GG rm_X7_none 3 l D X 0 0 243 ad E 0 [(0, .ref (ad 233)), (1, .int (nI k)), (2, .int a)] [] from ?_)
  refine g_iload_n F (q := 1) (dk dX7_none 0 rfl) rfl rfl 2 rfl ?_
  refine g_iconst F (q := 2) (v := 0) (dk dX7_none 1 rfl) rfl (by decide) ?_
  refine g_aload_n F (q := 3) (dk dX7_none 2 rfl) rfl rfl 0 rfl ?_
  refine g_getf F (q := 6) h233 rfl inX7 (by omega) (j := 0) (by decide) tq_623 rfl rfl (dk dX7_none 3 rfl) rfl ?_
  refine g_iconst F (q := 7) (v := 1) (dk dX7_none 4 rfl) rfl (by decide) ?_
  refine g_iload_n F (q := 8) (dk dX7_none 5 rfl) rfl rfl 1 rfl ?_
  refine g_iadd F (q := 9) (dk dX7_none 6 rfl) rfl ?_
  refine g_iald F (q := 10) ((1 + k)) h234 (by omega) (nA rfl rfl) (by omega) (by decide) (dk dX7_none 7 rfl) rfl ?_
  refine g_sti (y := (nI n)) h0 ?_
  refine g_iconst F (q := 11) (v := 1) (dk dX7_none 8 rfl) rfl (by decide) ?_
  refine g_isub F (q := 12) (dk dX7_none 9 rfl) rfl ?_
  refine g_callSI F (q := 15) (av := [.int a, .int 0, .int ((nI n) - 1)]) (st := []) (c_X7_in (v := a) (a := 0) (b := ((nI n) - 1))) ks_X7_in tq_707 ⟨rfl, rfl⟩ (by decide) ⟨Nat.le_refl _, Nat.le_refl _⟩ rfl rfl (Nat.le_of_ble_eq_true rfl) (dk dX7_none 10 rfl) rfl (fun r12 E12 hp12 => ?_)
  rcases hp12 with ⟨rfl, rfl, b12⟩ | ⟨rfl, rfl, b12⟩
  · refine g_if_ne F (q := 18) (tgt := 22) (dk dX7_none 11 rfl) (by decide) rfl (fun _ => ?_) (fun h => absurd h (by decide))
    refine g_iconst F (q := 23) (v := 0) (dk dX7_none 14 rfl) rfl (by decide) ?_
    refine hret 0 E _ _ (dk dX7_none 15 rfl) rfl ?_
    exact Or.inr ⟨rfl, rfl, ixQ (by omega) b12⟩
  · refine g_if_ne F (q := 18) (tgt := 22) (dk dX7_none 11 rfl) (by decide) rfl (fun h => absurd h (by decide)) (fun _ => ?_)
    refine g_iconst F (q := 19) (v := 1) (dk dX7_none 12 rfl) rfl (by decide) ?_
    refine g_goto F (tgt := 23) (dk dX7_none 13 rfl) (by decide) ?_
    refine hret 1 E _ _ (dk dX7_none 15 rfl) rfl ?_
    exact Or.inl ⟨rfl, rfl, ixR (by omega) b12⟩
theorem kv_X7_none : KV yX7_none "ThumpEarsModel" cX7_none 3 (some .boolean) 2 := ⟨tq_768, tq_18, tq_47, tq_769, by decide +kernel⟩
abbrev rm_X7_bury : Room := { frames := 2, cells := 0, slots := 0, locals := 41 }
set_option maxHeartbeats 4000000 in
set_option maxRecDepth 100000 in
theorem c_X7_bury {l : Launch} {D : va_G} {cA : Nat → ClassId} {ad : Nat → Nat} {E : Nat → va_E} {nh : Nat} {s1 s2 s3 s4 s5 : Int32} {lo mo : Int64} {r past bef : Nat → Int32} {ne : Nat} {place : Int32} (h233 : E 233 = .inr (7, [.ref (ad 234), .ref (ad 235), .ref (ad 236), .ref (ad 237), .int (nI nh), .int s1, .ref (ad 238), .int s2, .int s3, .int s4, .int s5, .ref (ad 239), .ref (ad 240), .ref (ad 241), .long lo, .long mo, .ref (ad 242)])) (h234 : E 234 = .inl (cA 0, 346, .inl r)) (h235 : E 235 = .inl (cA 0, 1384, .inl past)) (h237 : E 237 = .inl (cA 0, 346, .inl bef))  (hnh : nh ≤ 4) (h0 : r 0 = nI ne) (hne : ne ≤ 10) : CtI l D cA yX7_bury cX7_bury 4 .int rm_X7_bury 243 ad E [.ref (ad 233), .int place] (fun x E' => ∃ (f : Nat → Int32) (q : Nat → Int32) (g : Nat → Int32) (n2 : Nat), (sBury r ne place).1 = x ∧ E' 233 = .inr (7, [.ref (ad 234), .ref (ad 235), .ref (ad 236), .ref (ad 237), .int (nI n2), .int s1, .ref (ad 238), .int s2, .int s3, .int s4, .int s5, .ref (ad 239), .ref (ad 240), .ref (ad 241), .long lo, .long mo, .ref (ad 242)]) ∧ E' 234 = .inl (cA 0, 346, .inl f) ∧ E' 235 = .inl (cA 0, 1384, .inl q) ∧ E' 237 = .inl (cA 0, 346, .inl g) ∧ (NX ((sBury r ne place).2) r past nh f q n2) ∧ ∀ j, (j ≠ 233 ∧ j ≠ 234 ∧ j ≠ 235 ∧ j ≠ 237) → E' j = E j) := by
  refine CtI.of (by decide +kernel) (Nat.le_of_ble_eq_true rfl) (fun X F hret => ?_)
  have F : Fr "ThumpEarsModel" cX7_bury 4 D cA X := F
  refine (show GG rm_X7_bury 4 l D X 0 0 243 ad E 0 [(0, .ref (ad 233)), (1, .int place)] [] from ?_)
  refine g_iload_n F (q := 1) (dk dX7_bury 0 rfl) rfl rfl 1 rfl ?_
  refine g_iconst F (q := 2) (v := 0) (dk dX7_bury 1 rfl) rfl (by decide) ?_
  refine g_sipush F (q := 5) (v := 1000) (dk dX7_bury 2 rfl) rfl (by decide) ?_
  refine g_callSI F (q := 8) (av := [.int place, .int 0, .int 1000]) (st := []) (c_X7_in (v := place) (a := 0) (b := 1000)) ks_X7_in tq_707 ⟨rfl, rfl⟩ (by decide) ⟨Nat.le_refl _, Nat.le_refl _⟩ rfl rfl (Nat.le_of_ble_eq_true rfl) (dk dX7_bury 3 rfl) rfl (fun r5 E5 hp5 => ?_)
  rcases hp5 with ⟨rfl, rfl, b5⟩ | ⟨rfl, rfl, b5⟩
  · refine g_if_ne F (q := 11) (tgt := 14) (dk dX7_bury 4 rfl) (by decide) rfl (fun _ => ?_) (fun h => absurd h (by decide))
    refine g_aload_n F (q := 15) (dk dX7_bury 7 rfl) rfl rfl 0 rfl ?_
    refine g_getf F (q := 18) h233 rfl inX7 (by omega) (j := 0) (by decide) tq_623 rfl rfl (dk dX7_bury 8 rfl) rfl ?_
    refine g_iconst F (q := 19) (v := 0) (dk dX7_bury 9 rfl) rfl (by decide) ?_
    refine g_iald F (q := 20) 0 h234 (by omega) rfl (by omega) (by decide) (dk dX7_bury 10 rfl) rfl ?_
    refine g_sti (y := (nI ne)) h0 ?_
    refine g_istore_n F (q := 21) (lv' := [(2, .int (nI ne)), (0, .ref (ad 233)), (1, .int place)]) (dk dX7_bury 11 rfl) rfl rfl (Nat.le_of_ble_eq_true rfl) rfl ?_
    refine g_iload_n F (q := 22) (dk dX7_bury 12 rfl) rfl rfl 0 rfl ?_
    refine g_bipush F (q := 24) (v := 10) (dk dX7_bury 13 rfl) rfl (by decide) ?_
    refine g_icmp_ne F (q := 27) (tgt := 30) (dk dX7_bury 14 rfl) (by decide) rfl (fun c24 => ?_) (fun c24 => ?_)
    · have nc24 : ¬ ne = 10 := fun h => c24 ((nI_eq (a := ne) (b := 10) (by omega) (by omega)).mpr h)
      refine g_aload_n F (q := 31) (dk dX7_bury 17 rfl) rfl rfl 1 rfl ?_
      refine g_callVV F (q := 34) (av := []) (st := []) (c_X7_open h233 h234 h235 h237 (by first | assumption | decide | omega)) kv_X7_open tq_691 h233 rfl (by omega) ⟨rfl, rfl⟩ (by decide) ⟨Nat.le_refl _, Nat.le_refl _⟩ rfl rfl (Nat.le_of_ble_eq_true rfl) (dk dX7_bury 18 rfl) rfl (fun E31 hp31 => ?_)
      obtain ⟨q_31, g_31, hK233_31, hK235_31, hK237_31, hp_31, hF31⟩ := hp31
      refine g_aload_n F (q := 35) (dk dX7_bury 19 rfl) rfl rfl 1 rfl ?_
      refine g_getf F (q := 38) hK233_31 rfl inX7 (by omega) (j := 0) (by decide) tq_623 rfl rfl (dk dX7_bury 20 rfl) rfl ?_
      refine g_bipush F (q := 40) (v := 6) (dk dX7_bury 21 rfl) rfl (by decide) ?_
      refine g_iconst F (q := 41) (v := 4) (dk dX7_bury 22 rfl) rfl (by decide) ?_
      refine g_iload_n F (q := 42) (dk dX7_bury 23 rfl) rfl rfl 0 rfl ?_
      refine g_imul F (q := 43) (dk dX7_bury 24 rfl) rfl ?_
      refine g_iadd F (q := 44) (dk dX7_bury 25 rfl) rfl ?_
      refine g_iload_n F (q := 45) (dk dX7_bury 26 rfl) rfl rfl 2 rfl ?_
      have hc1 := (hF31 234 (by omega)).trans h234
      refine g_iast F (q := 46) ((6 + (4 * ne))) hc1 (by omega) (nA rfl (nM rfl rfl)) (by omega) (by decide) (dk dX7_bury 27 rfl) rfl (fun E45 hE45 hO45 => ?_)
      refine g_iconst F (q := 47) (v := 1) (dk dX7_bury 28 rfl) rfl (by decide) ?_
      refine g_istore_n F (q := 48) (lv' := [(3, .int 1), (2, .int (nI ne)), (0, .ref (ad 233)), (1, .int place)]) (dk dX7_bury 29 rfl) rfl rfl (Nat.le_of_ble_eq_true rfl) rfl ?_
      refine g_iload_n F (q := 49) (dk dX7_bury 30 rfl) rfl rfl 0 rfl ?_
      refine g_iconst F (q := 50) (v := 4) (dk dX7_bury 31 rfl) rfl (by decide) ?_
      refine g_icmp_ge F (q := 53) (tgt := 73) (dk dX7_bury 32 rfl) (by decide) rfl (fun h => absurd h (by decide)) (fun _ => ?_)
      refine g_aload_n F (q := 54) (dk dX7_bury 33 rfl) rfl rfl 2 rfl ?_
      have hc2 := (hO45 233 (by omega)).trans hK233_31
      refine g_getf F (q := 57) hc2 rfl inX7 (by omega) (j := 0) (by decide) tq_623 rfl rfl (dk dX7_bury 34 rfl) rfl ?_
      refine g_bipush F (q := 59) (v := 6) (dk dX7_bury 35 rfl) rfl (by decide) ?_
      refine g_iconst F (q := 60) (v := 4) (dk dX7_bury 36 rfl) rfl (by decide) ?_
      refine g_iload_n F (q := 61) (dk dX7_bury 37 rfl) rfl rfl 1 rfl ?_
      refine g_imul F (q := 62) (dk dX7_bury 38 rfl) rfl ?_
      refine g_iadd F (q := 63) (dk dX7_bury 39 rfl) rfl ?_
      refine g_iload_n F (q := 64) (dk dX7_bury 40 rfl) rfl rfl 0 rfl ?_
      refine g_iadd F (q := 65) (dk dX7_bury 41 rfl) rfl ?_
      refine g_iconst F (q := 66) (v := 0) (dk dX7_bury 42 rfl) rfl (by decide) ?_
      refine g_iast F (q := 67) (((6 + (4 * ne)) + 1)) hE45 (by omega) (nA (nA rfl (nM rfl rfl)) rfl) (by omega) (by decide) (dk dX7_bury 43 rfl) rfl (fun E66 hE66 hO66 => ?_)
      refine g_iinc F (q := 70) (v := 2) (lv' := [(3, .int 2), (2, .int (nI ne)), (0, .ref (ad 233)), (1, .int place)]) (dk dX7_bury 44 rfl) rfl 0 rfl (by decide) (Nat.le_of_ble_eq_true rfl) rfl ?_
      refine g_goto F (tgt := 48) (dk dX7_bury 45 rfl) (by decide) ?_
      refine g_iload_n F (q := 49) (dk dX7_bury 30 rfl) rfl rfl 0 rfl ?_
      refine g_iconst F (q := 50) (v := 4) (dk dX7_bury 31 rfl) rfl (by decide) ?_
      refine g_icmp_ge F (q := 53) (tgt := 73) (dk dX7_bury 32 rfl) (by decide) rfl (fun h => absurd h (by decide)) (fun _ => ?_)
      refine g_aload_n F (q := 54) (dk dX7_bury 33 rfl) rfl rfl 2 rfl ?_
      have hc3 := (hO66 233 (by omega)).trans hc2
      refine g_getf F (q := 57) hc3 rfl inX7 (by omega) (j := 0) (by decide) tq_623 rfl rfl (dk dX7_bury 34 rfl) rfl ?_
      refine g_bipush F (q := 59) (v := 6) (dk dX7_bury 35 rfl) rfl (by decide) ?_
      refine g_iconst F (q := 60) (v := 4) (dk dX7_bury 36 rfl) rfl (by decide) ?_
      refine g_iload_n F (q := 61) (dk dX7_bury 37 rfl) rfl rfl 1 rfl ?_
      refine g_imul F (q := 62) (dk dX7_bury 38 rfl) rfl ?_
      refine g_iadd F (q := 63) (dk dX7_bury 39 rfl) rfl ?_
      refine g_iload_n F (q := 64) (dk dX7_bury 40 rfl) rfl rfl 0 rfl ?_
      refine g_iadd F (q := 65) (dk dX7_bury 41 rfl) rfl ?_
      refine g_iconst F (q := 66) (v := 0) (dk dX7_bury 42 rfl) rfl (by decide) ?_
      refine g_iast F (q := 67) (((6 + (4 * ne)) + 2)) hE66 (by omega) (nA (nA rfl (nM rfl rfl)) rfl) (by omega) (by decide) (dk dX7_bury 43 rfl) rfl (fun E66x hE66x hO66x => ?_)
      refine g_iinc F (q := 70) (v := 3) (lv' := [(3, .int 3), (2, .int (nI ne)), (0, .ref (ad 233)), (1, .int place)]) (dk dX7_bury 44 rfl) rfl 0 rfl (by decide) (Nat.le_of_ble_eq_true rfl) rfl ?_
      refine g_goto F (tgt := 48) (dk dX7_bury 45 rfl) (by decide) ?_
      refine g_iload_n F (q := 49) (dk dX7_bury 30 rfl) rfl rfl 0 rfl ?_
      refine g_iconst F (q := 50) (v := 4) (dk dX7_bury 31 rfl) rfl (by decide) ?_
      refine g_icmp_ge F (q := 53) (tgt := 73) (dk dX7_bury 32 rfl) (by decide) rfl (fun h => absurd h (by decide)) (fun _ => ?_)
      refine g_aload_n F (q := 54) (dk dX7_bury 33 rfl) rfl rfl 2 rfl ?_
      have hc4 := (hO66x 233 (by omega)).trans hc3
      refine g_getf F (q := 57) hc4 rfl inX7 (by omega) (j := 0) (by decide) tq_623 rfl rfl (dk dX7_bury 34 rfl) rfl ?_
      refine g_bipush F (q := 59) (v := 6) (dk dX7_bury 35 rfl) rfl (by decide) ?_
      refine g_iconst F (q := 60) (v := 4) (dk dX7_bury 36 rfl) rfl (by decide) ?_
      refine g_iload_n F (q := 61) (dk dX7_bury 37 rfl) rfl rfl 1 rfl ?_
      refine g_imul F (q := 62) (dk dX7_bury 38 rfl) rfl ?_
      refine g_iadd F (q := 63) (dk dX7_bury 39 rfl) rfl ?_
      refine g_iload_n F (q := 64) (dk dX7_bury 40 rfl) rfl rfl 0 rfl ?_
      refine g_iadd F (q := 65) (dk dX7_bury 41 rfl) rfl ?_
      refine g_iconst F (q := 66) (v := 0) (dk dX7_bury 42 rfl) rfl (by decide) ?_
      refine g_iast F (q := 67) (((6 + (4 * ne)) + 3)) hE66x (by omega) (nA (nA rfl (nM rfl rfl)) rfl) (by omega) (by decide) (dk dX7_bury 43 rfl) rfl (fun E66xx hE66xx hO66xx => ?_)
      refine g_iinc F (q := 70) (v := 4) (lv' := [(3, .int 4), (2, .int (nI ne)), (0, .ref (ad 233)), (1, .int place)]) (dk dX7_bury 44 rfl) rfl 0 rfl (by decide) (Nat.le_of_ble_eq_true rfl) rfl ?_
      refine g_goto F (tgt := 48) (dk dX7_bury 45 rfl) (by decide) ?_
      refine g_iload_n F (q := 49) (dk dX7_bury 30 rfl) rfl rfl 0 rfl ?_
      refine g_iconst F (q := 50) (v := 4) (dk dX7_bury 31 rfl) rfl (by decide) ?_
      refine g_icmp_ge F (q := 53) (tgt := 73) (dk dX7_bury 32 rfl) (by decide) rfl (fun _ => ?_) (fun h => absurd h (by decide))
      refine g_aload_n F (q := 74) (dk dX7_bury 46 rfl) rfl rfl 2 rfl ?_
      have hc5 := (hO66xx 233 (by omega)).trans hc4
      refine g_getf F (q := 77) hc5 rfl inX7 (by omega) (j := 0) (by decide) tq_623 rfl rfl (dk dX7_bury 47 rfl) rfl ?_
      refine g_iconst F (q := 78) (v := 0) (dk dX7_bury 48 rfl) rfl (by decide) ?_
      refine g_dup2 F (q := 79) (dk dX7_bury 49 rfl) rfl rfl rfl ?_
      refine g_iald F (q := 80) 0 hE66xx (by omega) rfl (by omega) (by decide) (dk dX7_bury 50 rfl) rfl ?_
      refine g_sti (y := (nI ne)) (by rw [upd_n (by omega), upd_n (by omega), upd_n (by omega), upd_n (by omega)]; exact h0) ?_
      refine g_iconst F (q := 81) (v := 1) (dk dX7_bury 51 rfl) rfl (by decide) ?_
      refine g_iadd F (q := 82) (dk dX7_bury 52 rfl) rfl ?_
      refine g_sti (nA rfl rfl) ?_
      refine g_iast F (q := 83) 0 hE66xx (by omega) rfl (by omega) (by decide) (dk dX7_bury 53 rfl) rfl (fun E82 hE82 hO82 => ?_)
      refine g_iload_n F (q := 84) (dk dX7_bury 54 rfl) rfl rfl 1 rfl ?_
      have hs : sBury r ne place = (nI ne, some (upd (upd (upd (upd (upd r ((6 + (4 * ne))) place) (((6 + (4 * ne)) + 1)) 0) (((6 + (4 * ne)) + 2)) 0) (((6 + (4 * ne)) + 3)) 0) 0 (nI ((ne + 1))))) := by unfold sBury; rw [if_pos b5, if_neg nc24]
      have hc6 := (hO82 233 (by omega)).trans hc5
      have hc7 := (hO45 235 (by omega)).trans hK235_31
      have hc8 := (hO66 235 (by omega)).trans hc7
      have hc9 := (hO66x 235 (by omega)).trans hc8
      have hc10 := (hO66xx 235 (by omega)).trans hc9
      have hc11 := (hO82 235 (by omega)).trans hc10
      have hc12 := (hO45 237 (by omega)).trans hK237_31
      have hc13 := (hO66 237 (by omega)).trans hc12
      have hc14 := (hO66x 237 (by omega)).trans hc13
      have hc15 := (hO66xx 237 (by omega)).trans hc14
      have hc16 := (hO82 237 (by omega)).trans hc15
      refine hret (nI ne) E82 _ _ (dk dX7_bury 55 rfl) (nint _) ?_
      exact ⟨(upd (upd (upd (upd (upd r ((6 + (4 * ne))) place) (((6 + (4 * ne)) + 1)) 0) (((6 + (4 * ne)) + 2)) 0) (((6 + (4 * ne)) + 3)) 0) 0 (nI ((ne + 1)))), q_31, g_31, (nup nh), (by rw [hs]), hc6, hE82, hc11, hc16, (by rw [hs]; exact ⟨rfl, eqN.rf, hp_31⟩), (fun j hj => ((((((hO82 j (by omega)).trans (hO66xx j (by omega))).trans (hO66x j (by omega))).trans (hO66 j (by omega))).trans (hO45 j (by omega))).trans (hF31 j (by omega))))⟩
    · have nc24 : ne = 10 := (nI_eq (a := ne) (b := 10) (by omega) (by omega)).mp c24
      refine g_bipush F (q := 29) (v := (-3)) (dk dX7_bury 15 rfl) rfl (by decide) ?_
      have hs : sBury r ne place = (-3, none) := by unfold sBury; rw [if_pos b5, if_pos nc24]
      refine hret (-3) E _ _ (dk dX7_bury 16 rfl) (nint _) ?_
      exact ⟨r, past, bef, nh, (by rw [hs]), h233, h234, h235, h237, (by rw [hs]; exact NX.nil), (fun j _ => rfl)⟩
  · refine g_if_ne F (q := 11) (tgt := 14) (dk dX7_bury 4 rfl) (by decide) rfl (fun h => absurd h (by decide)) (fun _ => ?_)
    refine g_bipush F (q := 13) (v := (-2)) (dk dX7_bury 5 rfl) rfl (by decide) ?_
    have hs : sBury r ne place = (-2, none) := if_neg b5
    refine hret (-2) E _ _ (dk dX7_bury 6 rfl) (nint _) ?_
    exact ⟨r, past, bef, nh, (by rw [hs]), h233, h234, h235, h237, (by rw [hs]; exact NX.nil), (fun j _ => rfl)⟩
theorem kv_X7_bury : KV yX7_bury "ThumpEarsModel" cX7_bury 4 (some .int) 1 := ⟨tq_704, tq_705, tq_47, tq_706, by decide +kernel⟩
abbrev rm_X7_setClock : Room := { frames := 2, cells := 0, slots := 0, locals := 43 }
set_option maxHeartbeats 4000000 in
set_option maxRecDepth 100000 in
theorem c_X7_setClock {l : Launch} {D : va_G} {cA : Nat → ClassId} {ad : Nat → Nat} {E : Nat → va_E} {nh : Nat} {s1 s2 s3 s4 s5 : Int32} {lo mo : Int64} {r past bef : Nat → Int32} {ne : Nat} {ear off dr : Int32} (h233 : E 233 = .inr (7, [.ref (ad 234), .ref (ad 235), .ref (ad 236), .ref (ad 237), .int (nI nh), .int s1, .ref (ad 238), .int s2, .int s3, .int s4, .int s5, .ref (ad 239), .ref (ad 240), .ref (ad 241), .long lo, .long mo, .ref (ad 242)])) (h234 : E 234 = .inl (cA 0, 346, .inl r)) (h235 : E 235 = .inl (cA 0, 1384, .inl past)) (h237 : E 237 = .inl (cA 0, 346, .inl bef))  (hnh : nh ≤ 4) (h0 : r 0 = nI ne) (hne : ne ≤ 10) : CtI l D cA yX7_setClock cX7_setClock 4 .int rm_X7_setClock 243 ad E [.ref (ad 233), .int ear, .int off, .int dr] (fun x E' => ∃ (f : Nat → Int32) (q : Nat → Int32) (g : Nat → Int32) (n2 : Nat), (sClock r ne ear off dr).1 = x ∧ E' 233 = .inr (7, [.ref (ad 234), .ref (ad 235), .ref (ad 236), .ref (ad 237), .int (nI n2), .int s1, .ref (ad 238), .int s2, .int s3, .int s4, .int s5, .ref (ad 239), .ref (ad 240), .ref (ad 241), .long lo, .long mo, .ref (ad 242)]) ∧ E' 234 = .inl (cA 0, 346, .inl f) ∧ E' 235 = .inl (cA 0, 1384, .inl q) ∧ E' 237 = .inl (cA 0, 346, .inl g) ∧ (NX ((sClock r ne ear off dr).2) r past nh f q n2) ∧ ∀ j, (j ≠ 233 ∧ j ≠ 234 ∧ j ≠ 235 ∧ j ≠ 237) → E' j = E j) := by
  refine CtI.of (by decide +kernel) (Nat.le_of_ble_eq_true rfl) (fun X F hret => ?_)
  have F : Fr "ThumpEarsModel" cX7_setClock 4 D cA X := F
  refine (show GG rm_X7_setClock 4 l D X 0 0 243 ad E 0 [(0, .ref (ad 233)), (1, .int ear), (2, .int off), (3, .int dr)] [] from ?_)
  refine g_aload_n F (q := 1) (dk dX7_setClock 0 rfl) rfl rfl 0 rfl ?_
  refine g_iload_n F (q := 2) (dk dX7_setClock 1 rfl) rfl rfl 1 rfl ?_
  refine g_callVI F (q := 5) (av := [.int ear]) (st := []) (c_X7_noEar (ear := ear) h233 h234 (by first | assumption | decide | omega) (by first | assumption | decide | omega)) kv_X7_noEar tq_714 h233 rfl (by omega) ⟨rfl, rfl⟩ (by decide) ⟨Nat.le_refl _, Nat.le_refl _⟩ rfl rfl (Nat.le_of_ble_eq_true rfl) (dk dX7_setClock 2 rfl) rfl (fun r2 E2 hp2 => ?_)
  rcases hp2 with ⟨rfl, rfl, b2⟩ | ⟨rfl, rfl, b2⟩
  · refine g_if_eq F (q := 8) (tgt := 10) (dk dX7_setClock 3 rfl) (by decide) rfl (fun h => absurd h (by decide)) (fun _ => ?_)
    refine g_iconst F (q := 9) (v := (-1)) (dk dX7_setClock 4 rfl) rfl (by decide) ?_
    have hs : sClock r ne ear off dr = (-1, none) := if_pos b2
    refine hret (-1) E _ _ (dk dX7_setClock 5 rfl) (nint _) ?_
    exact ⟨r, past, bef, nh, (by rw [hs]), h233, h234, h235, h237, (by rw [hs]; exact NX.nil), (fun j _ => rfl)⟩
  · obtain ⟨e, he, rfl⟩ := b2
    refine g_if_eq F (q := 8) (tgt := 10) (dk dX7_setClock 3 rfl) (by decide) rfl (fun _ => ?_) (fun h => absurd h (by decide))
    refine g_iload_n F (q := 11) (dk dX7_setClock 6 rfl) rfl rfl 2 rfl ?_
    refine g_sipush F (q := 14) (v := (-500)) (dk dX7_setClock 7 rfl) rfl (by decide) ?_
    refine g_sipush F (q := 17) (v := 500) (dk dX7_setClock 8 rfl) rfl (by decide) ?_
    refine g_callSI F (q := 20) (av := [.int off, .int (-500), .int 500]) (st := []) (c_X7_in (v := off) (a := (-500)) (b := 500)) ks_X7_in tq_707 ⟨rfl, rfl⟩ (by decide) ⟨Nat.le_refl _, Nat.le_refl _⟩ rfl rfl (Nat.le_of_ble_eq_true rfl) (dk dX7_setClock 9 rfl) rfl (fun r17 E17 hp17 => ?_)
    rcases hp17 with ⟨rfl, rfl, b17⟩ | ⟨rfl, rfl, b17⟩
    · refine g_if_eq F (q := 23) (tgt := 34) (dk dX7_setClock 10 rfl) (by decide) rfl (fun h => absurd h (by decide)) (fun _ => ?_)
      refine g_iload_n F (q := 24) (dk dX7_setClock 11 rfl) rfl rfl 3 rfl ?_
      refine g_bipush F (q := 26) (v := (-50)) (dk dX7_setClock 12 rfl) rfl (by decide) ?_
      refine g_bipush F (q := 28) (v := 50) (dk dX7_setClock 13 rfl) rfl (by decide) ?_
      refine g_callSI F (q := 31) (av := [.int dr, .int (-50), .int 50]) (st := []) (c_X7_in (v := dr) (a := (-50)) (b := 50)) ks_X7_in tq_707 ⟨rfl, rfl⟩ (by decide) ⟨Nat.le_refl _, Nat.le_refl _⟩ rfl rfl (Nat.le_of_ble_eq_true rfl) (dk dX7_setClock 14 rfl) rfl (fun r28 E28 hp28 => ?_)
      rcases hp28 with ⟨rfl, rfl, b28⟩ | ⟨rfl, rfl, b28⟩
      · refine g_if_ne F (q := 34) (tgt := 37) (dk dX7_setClock 15 rfl) (by decide) rfl (fun _ => ?_) (fun h => absurd h (by decide))
        refine g_aload_n F (q := 38) (dk dX7_setClock 18 rfl) rfl rfl 0 rfl ?_
        refine g_iload_n F (q := 39) (dk dX7_setClock 19 rfl) rfl rfl 1 rfl ?_
        refine g_iconst F (q := 40) (v := 2) (dk dX7_setClock 20 rfl) rfl (by decide) ?_
        refine g_callVI F (q := 43) (av := [.int (nI e), .int 2]) (st := []) (c_X7_of (e := e) (w := 2) h233 h234 (by first | assumption | decide | omega)) kv_X7_of tq_718 h233 rfl (by omega) ⟨rfl, rfl⟩ (by decide) ⟨Nat.le_refl _, Nat.le_refl _⟩ rfl rfl (Nat.le_of_ble_eq_true rfl) (dk dX7_setClock 21 rfl) rfl (fun r40 E40 hp40 => ?_)
        obtain ⟨rfl, rfl⟩ := hp40
        refine g_iload_n F (q := 44) (dk dX7_setClock 22 rfl) rfl rfl 2 rfl ?_
        refine g_icmp_ne F (q := 47) (tgt := 60) (dk dX7_setClock 23 rfl) (by decide) rfl (fun c44 => ?_) (fun c44 => ?_)
        · refine g_aload_n F (q := 61) (dk dX7_setClock 32 rfl) rfl rfl 0 rfl ?_
          refine g_callVV F (q := 64) (av := []) (st := []) (c_X7_open h233 h234 h235 h237 (by first | assumption | decide | omega)) kv_X7_open tq_691 h233 rfl (by omega) ⟨rfl, rfl⟩ (by decide) ⟨Nat.le_refl _, Nat.le_refl _⟩ rfl rfl (Nat.le_of_ble_eq_true rfl) (dk dX7_setClock 33 rfl) rfl (fun E61 hp61 => ?_)
          obtain ⟨q_61, g_61, hK233_61, hK235_61, hK237_61, hp_61, hF61⟩ := hp61
          refine g_aload_n F (q := 65) (dk dX7_setClock 34 rfl) rfl rfl 0 rfl ?_
          refine g_getf F (q := 68) hK233_61 rfl inX7 (by omega) (j := 0) (by decide) tq_623 rfl rfl (dk dX7_setClock 35 rfl) rfl ?_
          refine g_bipush F (q := 70) (v := 6) (dk dX7_setClock 36 rfl) rfl (by decide) ?_
          refine g_iconst F (q := 71) (v := 4) (dk dX7_setClock 37 rfl) rfl (by decide) ?_
          refine g_iload_n F (q := 72) (dk dX7_setClock 38 rfl) rfl rfl 1 rfl ?_
          refine g_imul F (q := 73) (dk dX7_setClock 39 rfl) rfl ?_
          refine g_iadd F (q := 74) (dk dX7_setClock 40 rfl) rfl ?_
          refine g_iconst F (q := 75) (v := 2) (dk dX7_setClock 41 rfl) rfl (by decide) ?_
          refine g_iadd F (q := 76) (dk dX7_setClock 42 rfl) rfl ?_
          refine g_iload_n F (q := 77) (dk dX7_setClock 43 rfl) rfl rfl 2 rfl ?_
          have hc1 := (hF61 234 (by omega)).trans h234
          refine g_iast F (q := 78) (((6 + (4 * e)) + 2)) hc1 (by omega) (nA (nA rfl (nM rfl rfl)) rfl) (by omega) (by decide) (dk dX7_setClock 44 rfl) rfl (fun E77 hE77 hO77 => ?_)
          refine g_aload_n F (q := 79) (dk dX7_setClock 45 rfl) rfl rfl 0 rfl ?_
          have hc2 := (hO77 233 (by omega)).trans hK233_61
          refine g_getf F (q := 82) hc2 rfl inX7 (by omega) (j := 0) (by decide) tq_623 rfl rfl (dk dX7_setClock 46 rfl) rfl ?_
          refine g_bipush F (q := 84) (v := 6) (dk dX7_setClock 47 rfl) rfl (by decide) ?_
          refine g_iconst F (q := 85) (v := 4) (dk dX7_setClock 48 rfl) rfl (by decide) ?_
          refine g_iload_n F (q := 86) (dk dX7_setClock 49 rfl) rfl rfl 1 rfl ?_
          refine g_imul F (q := 87) (dk dX7_setClock 50 rfl) rfl ?_
          refine g_iadd F (q := 88) (dk dX7_setClock 51 rfl) rfl ?_
          refine g_iconst F (q := 89) (v := 3) (dk dX7_setClock 52 rfl) rfl (by decide) ?_
          refine g_iadd F (q := 90) (dk dX7_setClock 53 rfl) rfl ?_
          refine g_iload_n F (q := 91) (dk dX7_setClock 54 rfl) rfl rfl 3 rfl ?_
          refine g_iast F (q := 92) (((6 + (4 * e)) + 3)) hE77 (by omega) (nA (nA rfl (nM rfl rfl)) rfl) (by omega) (by decide) (dk dX7_setClock 55 rfl) rfl (fun E91 hE91 hO91 => ?_)
          refine g_iconst F (q := 93) (v := 1) (dk dX7_setClock 56 rfl) rfl (by decide) ?_
          have hs : sClock r ne (nI e) off dr = (1, some (upd (upd r (((6 + (4 * e)) + 2)) off) (((6 + (4 * e)) + 3)) dr)) := by unfold sClock; rw [if_neg (ixN he (by omega)), if_neg (fun h => h ⟨b17, b28⟩), nI_c (by omega), if_neg (fun h => c44 h.1)]
          have hc3 := (hO91 233 (by omega)).trans hc2
          have hc4 := (hO77 235 (by omega)).trans hK235_61
          have hc5 := (hO91 235 (by omega)).trans hc4
          have hc6 := (hO77 237 (by omega)).trans hK237_61
          have hc7 := (hO91 237 (by omega)).trans hc6
          refine hret 1 E91 _ _ (dk dX7_setClock 57 rfl) (nint _) ?_
          exact ⟨(upd (upd r (((6 + (4 * e)) + 2)) off) (((6 + (4 * e)) + 3)) dr), q_61, g_61, (nup nh), (by rw [hs]), hc3, hE91, hc5, hc7, (by rw [hs]; exact ⟨rfl, eqN.rf, hp_61⟩), (fun j hj => (((hO91 j (by omega)).trans (hO77 j (by omega))).trans (hF61 j (by omega))))⟩
        · refine g_aload_n F (q := 48) (dk dX7_setClock 24 rfl) rfl rfl 0 rfl ?_
          refine g_iload_n F (q := 49) (dk dX7_setClock 25 rfl) rfl rfl 1 rfl ?_
          refine g_iconst F (q := 50) (v := 3) (dk dX7_setClock 26 rfl) rfl (by decide) ?_
          refine g_callVI F (q := 53) (av := [.int (nI e), .int 3]) (st := []) (c_X7_of (e := e) (w := 3) h233 h234 (by first | assumption | decide | omega)) kv_X7_of tq_718 h233 rfl (by omega) ⟨rfl, rfl⟩ (by decide) ⟨Nat.le_refl _, Nat.le_refl _⟩ rfl rfl (Nat.le_of_ble_eq_true rfl) (dk dX7_setClock 27 rfl) rfl (fun r50 E50 hp50 => ?_)
          obtain ⟨rfl, rfl⟩ := hp50
          refine g_iload_n F (q := 54) (dk dX7_setClock 28 rfl) rfl rfl 3 rfl ?_
          refine g_icmp_ne F (q := 57) (tgt := 60) (dk dX7_setClock 29 rfl) (by decide) rfl (fun c54 => ?_) (fun c54 => ?_)
          · refine g_aload_n F (q := 61) (dk dX7_setClock 32 rfl) rfl rfl 0 rfl ?_
            refine g_callVV F (q := 64) (av := []) (st := []) (c_X7_open h233 h234 h235 h237 (by first | assumption | decide | omega)) kv_X7_open tq_691 h233 rfl (by omega) ⟨rfl, rfl⟩ (by decide) ⟨Nat.le_refl _, Nat.le_refl _⟩ rfl rfl (Nat.le_of_ble_eq_true rfl) (dk dX7_setClock 33 rfl) rfl (fun E61 hp61 => ?_)
            obtain ⟨q_61, g_61, hK233_61, hK235_61, hK237_61, hp_61, hF61⟩ := hp61
            refine g_aload_n F (q := 65) (dk dX7_setClock 34 rfl) rfl rfl 0 rfl ?_
            refine g_getf F (q := 68) hK233_61 rfl inX7 (by omega) (j := 0) (by decide) tq_623 rfl rfl (dk dX7_setClock 35 rfl) rfl ?_
            refine g_bipush F (q := 70) (v := 6) (dk dX7_setClock 36 rfl) rfl (by decide) ?_
            refine g_iconst F (q := 71) (v := 4) (dk dX7_setClock 37 rfl) rfl (by decide) ?_
            refine g_iload_n F (q := 72) (dk dX7_setClock 38 rfl) rfl rfl 1 rfl ?_
            refine g_imul F (q := 73) (dk dX7_setClock 39 rfl) rfl ?_
            refine g_iadd F (q := 74) (dk dX7_setClock 40 rfl) rfl ?_
            refine g_iconst F (q := 75) (v := 2) (dk dX7_setClock 41 rfl) rfl (by decide) ?_
            refine g_iadd F (q := 76) (dk dX7_setClock 42 rfl) rfl ?_
            refine g_iload_n F (q := 77) (dk dX7_setClock 43 rfl) rfl rfl 2 rfl ?_
            have hc8 := (hF61 234 (by omega)).trans h234
            refine g_iast F (q := 78) (((6 + (4 * e)) + 2)) hc8 (by omega) (nA (nA rfl (nM rfl rfl)) rfl) (by omega) (by decide) (dk dX7_setClock 44 rfl) rfl (fun E77 hE77 hO77 => ?_)
            refine g_aload_n F (q := 79) (dk dX7_setClock 45 rfl) rfl rfl 0 rfl ?_
            have hc9 := (hO77 233 (by omega)).trans hK233_61
            refine g_getf F (q := 82) hc9 rfl inX7 (by omega) (j := 0) (by decide) tq_623 rfl rfl (dk dX7_setClock 46 rfl) rfl ?_
            refine g_bipush F (q := 84) (v := 6) (dk dX7_setClock 47 rfl) rfl (by decide) ?_
            refine g_iconst F (q := 85) (v := 4) (dk dX7_setClock 48 rfl) rfl (by decide) ?_
            refine g_iload_n F (q := 86) (dk dX7_setClock 49 rfl) rfl rfl 1 rfl ?_
            refine g_imul F (q := 87) (dk dX7_setClock 50 rfl) rfl ?_
            refine g_iadd F (q := 88) (dk dX7_setClock 51 rfl) rfl ?_
            refine g_iconst F (q := 89) (v := 3) (dk dX7_setClock 52 rfl) rfl (by decide) ?_
            refine g_iadd F (q := 90) (dk dX7_setClock 53 rfl) rfl ?_
            refine g_iload_n F (q := 91) (dk dX7_setClock 54 rfl) rfl rfl 3 rfl ?_
            refine g_iast F (q := 92) (((6 + (4 * e)) + 3)) hE77 (by omega) (nA (nA rfl (nM rfl rfl)) rfl) (by omega) (by decide) (dk dX7_setClock 55 rfl) rfl (fun E91 hE91 hO91 => ?_)
            refine g_iconst F (q := 93) (v := 1) (dk dX7_setClock 56 rfl) rfl (by decide) ?_
            have hs : sClock r ne (nI e) off dr = (1, some (upd (upd r (((6 + (4 * e)) + 2)) off) (((6 + (4 * e)) + 3)) dr)) := by unfold sClock; rw [if_neg (ixN he (by omega)), if_neg (fun h => h ⟨b17, b28⟩), nI_c (by omega), if_neg (fun h => c54 h.2)]
            have hc10 := (hO91 233 (by omega)).trans hc9
            have hc11 := (hO77 235 (by omega)).trans hK235_61
            have hc12 := (hO91 235 (by omega)).trans hc11
            have hc13 := (hO77 237 (by omega)).trans hK237_61
            have hc14 := (hO91 237 (by omega)).trans hc13
            refine hret 1 E91 _ _ (dk dX7_setClock 57 rfl) (nint _) ?_
            exact ⟨(upd (upd r (((6 + (4 * e)) + 2)) off) (((6 + (4 * e)) + 3)) dr), q_61, g_61, (nup nh), (by rw [hs]), hc10, hE91, hc12, hc14, (by rw [hs]; exact ⟨rfl, eqN.rf, hp_61⟩), (fun j hj => (((hO91 j (by omega)).trans (hO77 j (by omega))).trans (hF61 j (by omega))))⟩
          · refine g_bipush F (q := 59) (v := (-5)) (dk dX7_setClock 30 rfl) rfl (by decide) ?_
            have hs : sClock r ne (nI e) off dr = (-5, none) := by unfold sClock; rw [if_neg (ixN he (by omega)), if_neg (fun h => h ⟨b17, b28⟩), nI_c (by omega), if_pos ⟨c44, c54⟩]
            refine hret (-5) E _ _ (dk dX7_setClock 31 rfl) (nint _) ?_
            exact ⟨r, past, bef, nh, (by rw [hs]), h233, h234, h235, h237, (by rw [hs]; exact NX.nil), (fun j _ => rfl)⟩
      · refine g_if_ne F (q := 34) (tgt := 37) (dk dX7_setClock 15 rfl) (by decide) rfl (fun h => absurd h (by decide)) (fun _ => ?_)
        refine g_bipush F (q := 36) (v := (-2)) (dk dX7_setClock 16 rfl) rfl (by decide) ?_
        have hs : sClock r ne (nI e) off dr = (-2, none) := by unfold sClock; rw [if_neg (ixN he (by omega)), if_pos (fun h => b28 h.2)]
        refine hret (-2) E _ _ (dk dX7_setClock 17 rfl) (nint _) ?_
        exact ⟨r, past, bef, nh, (by rw [hs]), h233, h234, h235, h237, (by rw [hs]; exact NX.nil), (fun j _ => rfl)⟩
    · refine g_if_eq F (q := 23) (tgt := 34) (dk dX7_setClock 10 rfl) (by decide) rfl (fun _ => ?_) (fun h => absurd h (by decide))
      refine g_bipush F (q := 36) (v := (-2)) (dk dX7_setClock 16 rfl) rfl (by decide) ?_
      have hs : sClock r ne (nI e) off dr = (-2, none) := by unfold sClock; rw [if_neg (ixN he (by omega)), if_pos (fun h => b17 h.1)]
      refine hret (-2) E _ _ (dk dX7_setClock 17 rfl) (nint _) ?_
      exact ⟨r, past, bef, nh, (by rw [hs]), h233, h234, h235, h237, (by rw [hs]; exact NX.nil), (fun j _ => rfl)⟩
theorem kv_X7_setClock : KV yX7_setClock "ThumpEarsModel" cX7_setClock 4 (some .int) 3 := ⟨tq_711, tq_712, tq_47, tq_713, by decide +kernel⟩
abbrev rm_X7_mutes : Room := { frames := 1, cells := 0, slots := 0, locals := 22 }
set_option maxHeartbeats 4000000 in
set_option maxRecDepth 100000 in
theorem c_X7_mutes {l : Launch} {D : va_G} {cA : Nat → ClassId} {ad : Nat → Nat} {E : Nat → va_E} {s0 s1 s2 s3 s4 s5 : Int32} {lo mo : Int64} {r : Nat → Int32} {n : Nat} (h233 : E 233 = .inr (7, [.ref (ad 234), .ref (ad 235), .ref (ad 236), .ref (ad 237), .int s0, .int s1, .ref (ad 238), .int s2, .int s3, .int s4, .int s5, .ref (ad 239), .ref (ad 240), .ref (ad 241), .long lo, .long mo, .ref (ad 242)])) (h234 : E 234 = .inl (cA 0, 346, .inl r))  (h0 : r 0 = nI n) (hn : n ≤ 10) : CtI l D cA yX7_mutes cX7_mutes 3 .int rm_X7_mutes 243 ad E [.ref (ad 233)] (fun x E' => (sumN (fun ee => r (6 + 4 * ee + 1)) n) = x ∧ E = E') := by
  refine CtI.of (by decide +kernel) (Nat.le_of_ble_eq_true rfl) (fun X F hret => ?_)
  have F : Fr "ThumpEarsModel" cX7_mutes 3 D cA X := F
  refine (show GG rm_X7_mutes 3 l D X 0 0 243 ad E 0 [(0, .ref (ad 233))] [] from ?_)
  refine g_iconst F (q := 1) (v := 0) (dk dX7_mutes 0 rfl) rfl (by decide) ?_
  refine g_istore_n F (q := 2) (lv' := [(1, .int 0), (0, .ref (ad 233))]) (dk dX7_mutes 1 rfl) rfl rfl (Nat.le_of_ble_eq_true rfl) rfl ?_
  refine g_iconst F (q := 3) (v := 0) (dk dX7_mutes 2 rfl) rfl (by decide) ?_
  refine g_istore_n F (q := 4) (lv' := [(2, .int 0), (1, .int 0), (0, .ref (ad 233))]) (dk dX7_mutes 3 rfl) rfl rfl (Nat.le_of_ble_eq_true rfl) rfl ?_
  have K4 : ∀ (fu : Nat) (i : Nat), n - i < fu → (hi : i ≤ n) → GG rm_X7_mutes 3 l D X 0 0 243 ad E 4 [(0, .ref (ad 233)), (1, .int (sumN (fun ee => r (6 + 4 * ee + 1)) i)), (2, .int (nI i))] [] := by
    intro fu
    induction fu with
    | zero => intro i hfu_; exact absurd hfu_ (Nat.not_lt_zero _)
    | succ fu ih =>
      intro i hfu_ hi
      refine g_iload_n F (q := 5) (dk dX7_mutes 4 rfl) rfl rfl 2 rfl ?_
      refine g_aload_n F (q := 6) (dk dX7_mutes 5 rfl) rfl rfl 0 rfl ?_
      refine g_getf F (q := 9) h233 rfl inX7 (by omega) (j := 0) (by decide) tq_623 rfl rfl (dk dX7_mutes 6 rfl) rfl ?_
      refine g_iconst F (q := 10) (v := 0) (dk dX7_mutes 7 rfl) rfl (by decide) ?_
      refine g_iald F (q := 11) 0 h234 (by omega) rfl (by omega) (by decide) (dk dX7_mutes 8 rfl) rfl ?_
      refine g_sti (y := (nI n)) h0 ?_
      refine g_icmp_ge F (q := 14) (tgt := 29) (dk dX7_mutes 9 rfl) (by decide) rfl (fun c11 => ?_) (fun c11 => ?_)
      · have nc11 : n ≤ i := (nI_leI (a := n) (b := i) (by omega) (by omega)).mp c11
        refine g_iload_n F (q := 30) (dk dX7_mutes 19 rfl) rfl rfl 1 rfl ?_
        refine hret (sumN (fun ee => r (6 + 4 * ee + 1)) i) E _ _ (dk dX7_mutes 20 rfl) (nint _) ?_
        exact ⟨by rw [show n = i by omega], rfl⟩
      · have nc11 : ¬ n ≤ i := fun h => c11 ((nI_leI (a := n) (b := i) (by omega) (by omega)).mpr h)
        refine g_iload_n F (q := 15) (dk dX7_mutes 10 rfl) rfl rfl 1 rfl ?_
        refine g_aload_n F (q := 16) (dk dX7_mutes 11 rfl) rfl rfl 0 rfl ?_
        refine g_iload_n F (q := 17) (dk dX7_mutes 12 rfl) rfl rfl 2 rfl ?_
        refine g_iconst F (q := 18) (v := 1) (dk dX7_mutes 13 rfl) rfl (by decide) ?_
        refine g_callVI F (q := 21) (av := [.int (nI i), .int 1]) (st := [.int (sumN (fun ee => r (6 + 4 * ee + 1)) i)]) (c_X7_of (e := i) (w := 1) h233 h234 (by first | assumption | decide | omega)) kv_X7_of tq_718 h233 rfl (by omega) ⟨rfl, rfl⟩ (by decide) ⟨Nat.le_refl _, Nat.le_refl _⟩ rfl rfl (Nat.le_of_ble_eq_true rfl) (dk dX7_mutes 14 rfl) rfl (fun r18 E18 hp18 => ?_)
        obtain ⟨rfl, rfl⟩ := hp18
        refine g_iadd F (q := 22) (dk dX7_mutes 15 rfl) rfl ?_
        refine g_istore_n F (q := 23) (lv' := [(1, .int ((sumN (fun ee => r (6 + 4 * ee + 1)) i) + (r (6 + 4 * i + 1)))), (0, .ref (ad 233)), (2, .int (nI i))]) (dk dX7_mutes 16 rfl) rfl rfl (Nat.le_of_ble_eq_true rfl) rfl ?_
        refine g_iinc F (q := 26) (v := (nI ((i + 1)))) (lv' := [(2, .int (nI ((i + 1)))), (1, .int ((sumN (fun ee => r (6 + 4 * ee + 1)) i) + (r (6 + 4 * i + 1)))), (0, .ref (ad 233))]) (dk dX7_mutes 17 rfl) rfl 2 rfl (nI_1 _) (Nat.le_of_ble_eq_true rfl) rfl ?_
        refine g_goto F (tgt := 4) (dk dX7_mutes 18 rfl) (by decide) ?_
        refine g_lv (lv' := [(0, .ref (ad 233)), (1, .int ((sumN (fun ee => r (6 + 4 * ee + 1)) i) + (r (6 + 4 * i + 1)))), (2, .int (nI ((i + 1))))]) [2, 1, 0] rfl ?_
        exact ih (i + 1) (by omega) (by omega)
  refine g_lv (lv' := [(0, .ref (ad 233)), (1, .int 0), (2, .int 0)]) [2, 1, 0] rfl ?_
  exact K4 _ 0 (Nat.lt_succ_self _) (by omega)
theorem kv_X7_mutes : KV yX7_mutes "ThumpEarsModel" cX7_mutes 3 (some .int) 0 := ⟨tq_728, tq_14, tq_47, tq_729, by decide +kernel⟩
abbrev rm_X7_outs : Room := { frames := 1, cells := 0, slots := 0, locals := 23 }
set_option maxHeartbeats 4000000 in
set_option maxRecDepth 100000 in
theorem c_X7_outs {l : Launch} {D : va_G} {cA : Nat → ClassId} {ad : Nat → Nat} {E : Nat → va_E} {s0 s1 s2 s3 s4 s5 : Int32} {lo mo : Int64} {r : Nat → Int32} {n : Nat} (h233 : E 233 = .inr (7, [.ref (ad 234), .ref (ad 235), .ref (ad 236), .ref (ad 237), .int s0, .int s1, .ref (ad 238), .int s2, .int s3, .int s4, .int s5, .ref (ad 239), .ref (ad 240), .ref (ad 241), .long lo, .long mo, .ref (ad 242)])) (h234 : E 234 = .inl (cA 0, 346, .inl r))  (h0 : r 1 = nI n) (hn : n ≤ 10) : CtI l D cA yX7_outs cX7_outs 3 .int rm_X7_outs 243 ad E [.ref (ad 233)] (fun x E' => (sumN (fun ee => r (46 + 5 * ee + 4)) n) = x ∧ E = E') := by
  refine CtI.of (by decide +kernel) (Nat.le_of_ble_eq_true rfl) (fun X F hret => ?_)
  have F : Fr "ThumpEarsModel" cX7_outs 3 D cA X := F
  refine (show GG rm_X7_outs 3 l D X 0 0 243 ad E 0 [(0, .ref (ad 233))] [] from ?_)
  refine g_iconst F (q := 1) (v := 0) (dk dX7_outs 0 rfl) rfl (by decide) ?_
  refine g_istore_n F (q := 2) (lv' := [(1, .int 0), (0, .ref (ad 233))]) (dk dX7_outs 1 rfl) rfl rfl (Nat.le_of_ble_eq_true rfl) rfl ?_
  refine g_iconst F (q := 3) (v := 0) (dk dX7_outs 2 rfl) rfl (by decide) ?_
  refine g_istore_n F (q := 4) (lv' := [(2, .int 0), (1, .int 0), (0, .ref (ad 233))]) (dk dX7_outs 3 rfl) rfl rfl (Nat.le_of_ble_eq_true rfl) rfl ?_
  have K4 : ∀ (fu : Nat) (i : Nat), n - i < fu → (hi : i ≤ n) → GG rm_X7_outs 3 l D X 0 0 243 ad E 4 [(0, .ref (ad 233)), (1, .int (sumN (fun ee => r (46 + 5 * ee + 4)) i)), (2, .int (nI i))] [] := by
    intro fu
    induction fu with
    | zero => intro i hfu_; exact absurd hfu_ (Nat.not_lt_zero _)
    | succ fu ih =>
      intro i hfu_ hi
      refine g_iload_n F (q := 5) (dk dX7_outs 4 rfl) rfl rfl 2 rfl ?_
      refine g_aload_n F (q := 6) (dk dX7_outs 5 rfl) rfl rfl 0 rfl ?_
      refine g_getf F (q := 9) h233 rfl inX7 (by omega) (j := 0) (by decide) tq_623 rfl rfl (dk dX7_outs 6 rfl) rfl ?_
      refine g_iconst F (q := 10) (v := 1) (dk dX7_outs 7 rfl) rfl (by decide) ?_
      refine g_iald F (q := 11) 1 h234 (by omega) rfl (by omega) (by decide) (dk dX7_outs 8 rfl) rfl ?_
      refine g_sti (y := (nI n)) h0 ?_
      refine g_icmp_ge F (q := 14) (tgt := 30) (dk dX7_outs 9 rfl) (by decide) rfl (fun c11 => ?_) (fun c11 => ?_)
      · have nc11 : n ≤ i := (nI_leI (a := n) (b := i) (by omega) (by omega)).mp c11
        refine g_iload_n F (q := 31) (dk dX7_outs 20 rfl) rfl rfl 1 rfl ?_
        refine hret (sumN (fun ee => r (46 + 5 * ee + 4)) i) E _ _ (dk dX7_outs 21 rfl) (nint _) ?_
        exact ⟨by rw [show n = i by omega], rfl⟩
      · have nc11 : ¬ n ≤ i := fun h => c11 ((nI_leI (a := n) (b := i) (by omega) (by omega)).mpr h)
        refine g_iload_n F (q := 15) (dk dX7_outs 10 rfl) rfl rfl 1 rfl ?_
        refine g_aload_n F (q := 16) (dk dX7_outs 11 rfl) rfl rfl 0 rfl ?_
        refine g_iconst F (q := 17) (v := 0) (dk dX7_outs 12 rfl) rfl (by decide) ?_
        refine g_iload_n F (q := 18) (dk dX7_outs 13 rfl) rfl rfl 2 rfl ?_
        refine g_iconst F (q := 19) (v := 4) (dk dX7_outs 14 rfl) rfl (by decide) ?_
        refine g_callVI F (q := 22) (av := [.int 0, .int (nI i), .int 4]) (st := [.int (sumN (fun ee => r (46 + 5 * ee + 4)) i)]) (c_X7_come (k := 0) (m := i) (w := 4) h233 h234 (by first | assumption | decide | omega)) kv_X7_come tq_770 h233 rfl (by omega) ⟨rfl, rfl⟩ (by decide) ⟨Nat.le_refl _, Nat.le_refl _⟩ rfl rfl (Nat.le_of_ble_eq_true rfl) (dk dX7_outs 15 rfl) rfl (fun r19 E19 hp19 => ?_)
        obtain ⟨rfl, rfl⟩ := hp19
        refine g_iadd F (q := 23) (dk dX7_outs 16 rfl) rfl ?_
        refine g_istore_n F (q := 24) (lv' := [(1, .int ((sumN (fun ee => r (46 + 5 * ee + 4)) i) + (r (46 + 50 * 0 + 5 * i + 4)))), (0, .ref (ad 233)), (2, .int (nI i))]) (dk dX7_outs 17 rfl) rfl rfl (Nat.le_of_ble_eq_true rfl) rfl ?_
        refine g_iinc F (q := 27) (v := (nI ((i + 1)))) (lv' := [(2, .int (nI ((i + 1)))), (1, .int ((sumN (fun ee => r (46 + 5 * ee + 4)) i) + (r (46 + 50 * 0 + 5 * i + 4)))), (0, .ref (ad 233))]) (dk dX7_outs 18 rfl) rfl 2 rfl (nI_1 _) (Nat.le_of_ble_eq_true rfl) rfl ?_
        refine g_goto F (tgt := 4) (dk dX7_outs 19 rfl) (by decide) ?_
        refine g_lv (lv' := [(0, .ref (ad 233)), (1, .int ((sumN (fun ee => r (46 + 5 * ee + 4)) i) + (r (46 + 50 * 0 + 5 * i + 4)))), (2, .int (nI ((i + 1))))]) [2, 1, 0] rfl ?_
        exact ih (i + 1) (by omega) (by omega)
  refine g_lv (lv' := [(0, .ref (ad 233)), (1, .int 0), (2, .int 0)]) [2, 1, 0] rfl ?_
  exact K4 _ 0 (Nat.lt_succ_self _) (by omega)
theorem kv_X7_outs : KV yX7_outs "ThumpEarsModel" cX7_outs 3 (some .int) 0 := ⟨tq_776, tq_20, tq_47, tq_777, by decide +kernel⟩
abbrev rm_X7_mute : Room := { frames := 2, cells := 0, slots := 0, locals := 44 }
set_option maxHeartbeats 4000000 in
set_option maxRecDepth 100000 in
theorem c_X7_mute {l : Launch} {D : va_G} {cA : Nat → ClassId} {ad : Nat → Nat} {E : Nat → va_E} {nh : Nat} {s1 s2 s3 s4 s5 : Int32} {lo mo : Int64} {r past bef : Nat → Int32} {ne : Nat} {ear b : Int32} (h233 : E 233 = .inr (7, [.ref (ad 234), .ref (ad 235), .ref (ad 236), .ref (ad 237), .int (nI nh), .int s1, .ref (ad 238), .int s2, .int s3, .int s4, .int s5, .ref (ad 239), .ref (ad 240), .ref (ad 241), .long lo, .long mo, .ref (ad 242)])) (h234 : E 234 = .inl (cA 0, 346, .inl r)) (h235 : E 235 = .inl (cA 0, 1384, .inl past)) (h237 : E 237 = .inl (cA 0, 346, .inl bef))  (hnh : nh ≤ 4) (h0 : r 0 = nI ne) (hne : ne ≤ 10) : CtI l D cA yX7_mute cX7_mute 4 .int rm_X7_mute 243 ad E [.ref (ad 233), .int ear, .int b] (fun x E' => ∃ (f : Nat → Int32) (q : Nat → Int32) (g : Nat → Int32) (n2 : Nat), (sMute r ne ear b).1 = x ∧ E' 233 = .inr (7, [.ref (ad 234), .ref (ad 235), .ref (ad 236), .ref (ad 237), .int (nI n2), .int s1, .ref (ad 238), .int s2, .int s3, .int s4, .int s5, .ref (ad 239), .ref (ad 240), .ref (ad 241), .long lo, .long mo, .ref (ad 242)]) ∧ E' 234 = .inl (cA 0, 346, .inl f) ∧ E' 235 = .inl (cA 0, 1384, .inl q) ∧ E' 237 = .inl (cA 0, 346, .inl g) ∧ (NX ((sMute r ne ear b).2) r past nh f q n2) ∧ ∀ j, (j ≠ 233 ∧ j ≠ 234 ∧ j ≠ 235 ∧ j ≠ 237) → E' j = E j) := by
  refine CtI.of (by decide +kernel) (Nat.le_of_ble_eq_true rfl) (fun X F hret => ?_)
  have F : Fr "ThumpEarsModel" cX7_mute 4 D cA X := F
  refine (show GG rm_X7_mute 4 l D X 0 0 243 ad E 0 [(0, .ref (ad 233)), (1, .int ear), (2, .int b)] [] from ?_)
  refine g_aload_n F (q := 1) (dk dX7_mute 0 rfl) rfl rfl 0 rfl ?_
  refine g_iload_n F (q := 2) (dk dX7_mute 1 rfl) rfl rfl 1 rfl ?_
  refine g_callVI F (q := 5) (av := [.int ear]) (st := []) (c_X7_noEar (ear := ear) h233 h234 (by first | assumption | decide | omega) (by first | assumption | decide | omega)) kv_X7_noEar tq_714 h233 rfl (by omega) ⟨rfl, rfl⟩ (by decide) ⟨Nat.le_refl _, Nat.le_refl _⟩ rfl rfl (Nat.le_of_ble_eq_true rfl) (dk dX7_mute 2 rfl) rfl (fun r2 E2 hp2 => ?_)
  rcases hp2 with ⟨rfl, rfl, b2⟩ | ⟨rfl, rfl, b2⟩
  · refine g_if_eq F (q := 8) (tgt := 10) (dk dX7_mute 3 rfl) (by decide) rfl (fun h => absurd h (by decide)) (fun _ => ?_)
    refine g_iconst F (q := 9) (v := (-1)) (dk dX7_mute 4 rfl) rfl (by decide) ?_
    have hs : sMute r ne ear b = (-1, none) := if_pos b2
    refine hret (-1) E _ _ (dk dX7_mute 5 rfl) (nint _) ?_
    exact ⟨r, past, bef, nh, (by rw [hs]), h233, h234, h235, h237, (by rw [hs]; exact NX.nil), (fun j _ => rfl)⟩
  · obtain ⟨e, he, rfl⟩ := b2
    refine g_if_eq F (q := 8) (tgt := 10) (dk dX7_mute 3 rfl) (by decide) rfl (fun _ => ?_) (fun h => absurd h (by decide))
    refine g_iload_n F (q := 11) (dk dX7_mute 6 rfl) rfl rfl 2 rfl ?_
    refine g_if_eq F (q := 14) (tgt := 18) (dk dX7_mute 7 rfl) (by decide) rfl (fun c11 => ?_) (fun c11 => ?_)
    · refine g_iconst F (q := 19) (v := 0) (dk dX7_mute 10 rfl) rfl (by decide) ?_
      refine g_istore_n F (q := 20) (lv' := [(3, .int 0), (0, .ref (ad 233)), (1, .int (nI e)), (2, .int b)]) (dk dX7_mute 11 rfl) rfl rfl (Nat.le_of_ble_eq_true rfl) rfl ?_
      refine g_aload_n F (q := 21) (dk dX7_mute 12 rfl) rfl rfl 1 rfl ?_
      refine g_iload_n F (q := 22) (dk dX7_mute 13 rfl) rfl rfl 2 rfl ?_
      refine g_iconst F (q := 23) (v := 1) (dk dX7_mute 14 rfl) rfl (by decide) ?_
      refine g_callVI F (q := 26) (av := [.int (nI e), .int 1]) (st := []) (c_X7_of (e := e) (w := 1) h233 h234 (by first | assumption | decide | omega)) kv_X7_of tq_718 h233 rfl (by omega) ⟨rfl, rfl⟩ (by decide) ⟨Nat.le_refl _, Nat.le_refl _⟩ rfl rfl (Nat.le_of_ble_eq_true rfl) (dk dX7_mute 15 rfl) rfl (fun r23 E23 hp23 => ?_)
      obtain ⟨rfl, rfl⟩ := hp23
      refine g_iload_n F (q := 27) (dk dX7_mute 16 rfl) rfl rfl 0 rfl ?_
      refine g_icmp_ne F (q := 30) (tgt := 33) (dk dX7_mute 17 rfl) (by decide) rfl (fun c27 => ?_) (fun c27 => ?_)
      · refine g_aload_n F (q := 34) (dk dX7_mute 20 rfl) rfl rfl 1 rfl ?_
        refine g_callVV F (q := 37) (av := []) (st := []) (c_X7_open h233 h234 h235 h237 (by first | assumption | decide | omega)) kv_X7_open tq_691 h233 rfl (by omega) ⟨rfl, rfl⟩ (by decide) ⟨Nat.le_refl _, Nat.le_refl _⟩ rfl rfl (Nat.le_of_ble_eq_true rfl) (dk dX7_mute 21 rfl) rfl (fun E34 hp34 => ?_)
        obtain ⟨q_34, g_34, hK233_34, hK235_34, hK237_34, hp_34, hF34⟩ := hp34
        refine g_aload_n F (q := 38) (dk dX7_mute 22 rfl) rfl rfl 1 rfl ?_
        refine g_getf F (q := 41) hK233_34 rfl inX7 (by omega) (j := 0) (by decide) tq_623 rfl rfl (dk dX7_mute 23 rfl) rfl ?_
        refine g_bipush F (q := 43) (v := 6) (dk dX7_mute 24 rfl) rfl (by decide) ?_
        refine g_iconst F (q := 44) (v := 4) (dk dX7_mute 25 rfl) rfl (by decide) ?_
        refine g_iload_n F (q := 45) (dk dX7_mute 26 rfl) rfl rfl 2 rfl ?_
        refine g_imul F (q := 46) (dk dX7_mute 27 rfl) rfl ?_
        refine g_iadd F (q := 47) (dk dX7_mute 28 rfl) rfl ?_
        refine g_iconst F (q := 48) (v := 1) (dk dX7_mute 29 rfl) rfl (by decide) ?_
        refine g_iadd F (q := 49) (dk dX7_mute 30 rfl) rfl ?_
        refine g_iload_n F (q := 50) (dk dX7_mute 31 rfl) rfl rfl 0 rfl ?_
        have hc1 := (hF34 234 (by omega)).trans h234
        refine g_iast F (q := 51) (((6 + (4 * e)) + 1)) hc1 (by omega) (nA (nA rfl (nM rfl rfl)) rfl) (by omega) (by decide) (dk dX7_mute 32 rfl) rfl (fun E50 hE50 hO50 => ?_)
        refine g_aload_n F (q := 52) (dk dX7_mute 33 rfl) rfl rfl 1 rfl ?_
        have hc2 := (hO50 233 (by omega)).trans hK233_34
        refine g_callVI F (q := 55) (av := []) (st := []) (c_X7_mutes hc2 hE50 (by rw [upd_n (by omega)]; exact h0) (by first | assumption | decide | omega)) kv_X7_mutes tq_726 hc2 rfl (by omega) ⟨rfl, rfl⟩ (by decide) ⟨Nat.le_refl _, Nat.le_refl _⟩ rfl rfl (Nat.le_of_ble_eq_true rfl) (dk dX7_mute 34 rfl) rfl (fun r52 E52 hp52 => ?_)
        obtain ⟨rfl, rfl⟩ := hp52
        have hs : sMute r ne (nI e) b = ((sumN (fun ee => (upd r (((6 + (4 * e)) + 1)) 0) (6 + 4 * ee + 1)) ne), some (upd r (((6 + (4 * e)) + 1)) 0)) := by unfold sMute; rw [if_neg (ixN he (by omega)), nI_c (by omega), show flg b = 0 from if_pos c11, if_neg c27]
        have hc3 := (hO50 235 (by omega)).trans hK235_34
        have hc4 := (hO50 237 (by omega)).trans hK237_34
        refine hret (sumN (fun ee => (upd r (((6 + (4 * e)) + 1)) 0) (6 + 4 * ee + 1)) ne) E50 _ _ (dk dX7_mute 35 rfl) (nint _) ?_
        exact ⟨(upd r (((6 + (4 * e)) + 1)) 0), q_34, g_34, (nup nh), (by rw [hs]), hc2, hE50, hc3, hc4, (by rw [hs]; exact ⟨rfl, eqN.rf, hp_34⟩), (fun j hj => ((hO50 j (by omega)).trans (hF34 j (by omega))))⟩
      · refine g_bipush F (q := 32) (v := (-5)) (dk dX7_mute 18 rfl) rfl (by decide) ?_
        have hs : sMute r ne (nI e) b = (-5, none) := by unfold sMute; rw [if_neg (ixN he (by omega)), nI_c (by omega), show flg b = 0 from if_pos c11, if_pos c27]
        refine hret (-5) E _ _ (dk dX7_mute 19 rfl) (nint _) ?_
        exact ⟨r, past, bef, nh, (by rw [hs]), h233, h234, h235, h237, (by rw [hs]; exact NX.nil), (fun j _ => rfl)⟩
    · refine g_iconst F (q := 15) (v := 1) (dk dX7_mute 8 rfl) rfl (by decide) ?_
      refine g_goto F (tgt := 19) (dk dX7_mute 9 rfl) (by decide) ?_
      refine g_istore_n F (q := 20) (lv' := [(3, .int 1), (0, .ref (ad 233)), (1, .int (nI e)), (2, .int b)]) (dk dX7_mute 11 rfl) rfl rfl (Nat.le_of_ble_eq_true rfl) rfl ?_
      refine g_aload_n F (q := 21) (dk dX7_mute 12 rfl) rfl rfl 1 rfl ?_
      refine g_iload_n F (q := 22) (dk dX7_mute 13 rfl) rfl rfl 2 rfl ?_
      refine g_iconst F (q := 23) (v := 1) (dk dX7_mute 14 rfl) rfl (by decide) ?_
      refine g_callVI F (q := 26) (av := [.int (nI e), .int 1]) (st := []) (c_X7_of (e := e) (w := 1) h233 h234 (by first | assumption | decide | omega)) kv_X7_of tq_718 h233 rfl (by omega) ⟨rfl, rfl⟩ (by decide) ⟨Nat.le_refl _, Nat.le_refl _⟩ rfl rfl (Nat.le_of_ble_eq_true rfl) (dk dX7_mute 15 rfl) rfl (fun r23 E23 hp23 => ?_)
      obtain ⟨rfl, rfl⟩ := hp23
      refine g_iload_n F (q := 27) (dk dX7_mute 16 rfl) rfl rfl 0 rfl ?_
      refine g_icmp_ne F (q := 30) (tgt := 33) (dk dX7_mute 17 rfl) (by decide) rfl (fun c27 => ?_) (fun c27 => ?_)
      · refine g_aload_n F (q := 34) (dk dX7_mute 20 rfl) rfl rfl 1 rfl ?_
        refine g_callVV F (q := 37) (av := []) (st := []) (c_X7_open h233 h234 h235 h237 (by first | assumption | decide | omega)) kv_X7_open tq_691 h233 rfl (by omega) ⟨rfl, rfl⟩ (by decide) ⟨Nat.le_refl _, Nat.le_refl _⟩ rfl rfl (Nat.le_of_ble_eq_true rfl) (dk dX7_mute 21 rfl) rfl (fun E34 hp34 => ?_)
        obtain ⟨q_34, g_34, hK233_34, hK235_34, hK237_34, hp_34, hF34⟩ := hp34
        refine g_aload_n F (q := 38) (dk dX7_mute 22 rfl) rfl rfl 1 rfl ?_
        refine g_getf F (q := 41) hK233_34 rfl inX7 (by omega) (j := 0) (by decide) tq_623 rfl rfl (dk dX7_mute 23 rfl) rfl ?_
        refine g_bipush F (q := 43) (v := 6) (dk dX7_mute 24 rfl) rfl (by decide) ?_
        refine g_iconst F (q := 44) (v := 4) (dk dX7_mute 25 rfl) rfl (by decide) ?_
        refine g_iload_n F (q := 45) (dk dX7_mute 26 rfl) rfl rfl 2 rfl ?_
        refine g_imul F (q := 46) (dk dX7_mute 27 rfl) rfl ?_
        refine g_iadd F (q := 47) (dk dX7_mute 28 rfl) rfl ?_
        refine g_iconst F (q := 48) (v := 1) (dk dX7_mute 29 rfl) rfl (by decide) ?_
        refine g_iadd F (q := 49) (dk dX7_mute 30 rfl) rfl ?_
        refine g_iload_n F (q := 50) (dk dX7_mute 31 rfl) rfl rfl 0 rfl ?_
        have hc5 := (hF34 234 (by omega)).trans h234
        refine g_iast F (q := 51) (((6 + (4 * e)) + 1)) hc5 (by omega) (nA (nA rfl (nM rfl rfl)) rfl) (by omega) (by decide) (dk dX7_mute 32 rfl) rfl (fun E50 hE50 hO50 => ?_)
        refine g_aload_n F (q := 52) (dk dX7_mute 33 rfl) rfl rfl 1 rfl ?_
        have hc6 := (hO50 233 (by omega)).trans hK233_34
        refine g_callVI F (q := 55) (av := []) (st := []) (c_X7_mutes hc6 hE50 (by rw [upd_n (by omega)]; exact h0) (by first | assumption | decide | omega)) kv_X7_mutes tq_726 hc6 rfl (by omega) ⟨rfl, rfl⟩ (by decide) ⟨Nat.le_refl _, Nat.le_refl _⟩ rfl rfl (Nat.le_of_ble_eq_true rfl) (dk dX7_mute 34 rfl) rfl (fun r52 E52 hp52 => ?_)
        obtain ⟨rfl, rfl⟩ := hp52
        have hs : sMute r ne (nI e) b = ((sumN (fun ee => (upd r (((6 + (4 * e)) + 1)) 1) (6 + 4 * ee + 1)) ne), some (upd r (((6 + (4 * e)) + 1)) 1)) := by unfold sMute; rw [if_neg (ixN he (by omega)), nI_c (by omega), show flg b = 1 from if_neg c11, if_neg c27]
        have hc7 := (hO50 235 (by omega)).trans hK235_34
        have hc8 := (hO50 237 (by omega)).trans hK237_34
        refine hret (sumN (fun ee => (upd r (((6 + (4 * e)) + 1)) 1) (6 + 4 * ee + 1)) ne) E50 _ _ (dk dX7_mute 35 rfl) (nint _) ?_
        exact ⟨(upd r (((6 + (4 * e)) + 1)) 1), q_34, g_34, (nup nh), (by rw [hs]), hc6, hE50, hc7, hc8, (by rw [hs]; exact ⟨rfl, eqN.rf, hp_34⟩), (fun j hj => ((hO50 j (by omega)).trans (hF34 j (by omega))))⟩
      · refine g_bipush F (q := 32) (v := (-5)) (dk dX7_mute 18 rfl) rfl (by decide) ?_
        have hs : sMute r ne (nI e) b = (-5, none) := by unfold sMute; rw [if_neg (ixN he (by omega)), nI_c (by omega), show flg b = 1 from if_neg c11, if_pos c27]
        refine hret (-5) E _ _ (dk dX7_mute 19 rfl) (nint _) ?_
        exact ⟨r, past, bef, nh, (by rw [hs]), h233, h234, h235, h237, (by rw [hs]; exact NX.nil), (fun j _ => rfl)⟩
theorem kv_X7_mute : KV yX7_mute "ThumpEarsModel" cX7_mute 4 (some .int) 2 := ⟨tq_723, tq_724, tq_47, tq_725, by decide +kernel⟩
abbrev rm_X7_leaveOut : Room := { frames := 2, cells := 0, slots := 0, locals := 45 }
set_option maxHeartbeats 4000000 in
set_option maxRecDepth 100000 in
theorem c_X7_leaveOut {l : Launch} {D : va_G} {cA : Nat → ClassId} {ad : Nat → Nat} {E : Nat → va_E} {nh : Nat} {s1 s2 s3 s4 s5 : Int32} {lo mo : Int64} {r past bef : Nat → Int32} {nt : Nat} {th b : Int32} (h233 : E 233 = .inr (7, [.ref (ad 234), .ref (ad 235), .ref (ad 236), .ref (ad 237), .int (nI nh), .int s1, .ref (ad 238), .int s2, .int s3, .int s4, .int s5, .ref (ad 239), .ref (ad 240), .ref (ad 241), .long lo, .long mo, .ref (ad 242)])) (h234 : E 234 = .inl (cA 0, 346, .inl r)) (h235 : E 235 = .inl (cA 0, 1384, .inl past)) (h237 : E 237 = .inl (cA 0, 346, .inl bef))  (hnh : nh ≤ 4) (h0 : r 1 = nI nt) (hnt : nt ≤ 10) : CtI l D cA yX7_leaveOut cX7_leaveOut 4 .int rm_X7_leaveOut 243 ad E [.ref (ad 233), .int th, .int b] (fun x E' => ∃ (f : Nat → Int32) (q : Nat → Int32) (g : Nat → Int32) (n2 : Nat), (sLeave r nt th b).1 = x ∧ E' 233 = .inr (7, [.ref (ad 234), .ref (ad 235), .ref (ad 236), .ref (ad 237), .int (nI n2), .int s1, .ref (ad 238), .int s2, .int s3, .int s4, .int s5, .ref (ad 239), .ref (ad 240), .ref (ad 241), .long lo, .long mo, .ref (ad 242)]) ∧ E' 234 = .inl (cA 0, 346, .inl f) ∧ E' 235 = .inl (cA 0, 1384, .inl q) ∧ E' 237 = .inl (cA 0, 346, .inl g) ∧ (NX ((sLeave r nt th b).2) r past nh f q n2) ∧ ∀ j, (j ≠ 233 ∧ j ≠ 234 ∧ j ≠ 235 ∧ j ≠ 237) → E' j = E j) := by
  refine CtI.of (by decide +kernel) (Nat.le_of_ble_eq_true rfl) (fun X F hret => ?_)
  have F : Fr "ThumpEarsModel" cX7_leaveOut 4 D cA X := F
  refine (show GG rm_X7_leaveOut 4 l D X 0 0 243 ad E 0 [(0, .ref (ad 233)), (1, .int th), (2, .int b)] [] from ?_)
  refine g_aload_n F (q := 1) (dk dX7_leaveOut 0 rfl) rfl rfl 0 rfl ?_
  refine g_iconst F (q := 2) (v := 0) (dk dX7_leaveOut 1 rfl) rfl (by decide) ?_
  refine g_iload_n F (q := 3) (dk dX7_leaveOut 2 rfl) rfl rfl 1 rfl ?_
  refine g_callVI F (q := 6) (av := [.int 0, .int th]) (st := []) (c_X7_none (k := 0) (a := th) h233 h234 (by first | assumption | decide | omega) (by first | assumption | decide | omega) (by first | assumption | decide | omega)) kv_X7_none tq_766 h233 rfl (by omega) ⟨rfl, rfl⟩ (by decide) ⟨Nat.le_refl _, Nat.le_refl _⟩ rfl rfl (Nat.le_of_ble_eq_true rfl) (dk dX7_leaveOut 3 rfl) rfl (fun r3 E3 hp3 => ?_)
  rcases hp3 with ⟨rfl, rfl, b3⟩ | ⟨rfl, rfl, b3⟩
  · refine g_if_eq F (q := 9) (tgt := 11) (dk dX7_leaveOut 4 rfl) (by decide) rfl (fun h => absurd h (by decide)) (fun _ => ?_)
    refine g_iconst F (q := 10) (v := (-1)) (dk dX7_leaveOut 5 rfl) rfl (by decide) ?_
    have hs : sLeave r nt th b = (-1, none) := if_pos b3
    refine hret (-1) E _ _ (dk dX7_leaveOut 6 rfl) (nint _) ?_
    exact ⟨r, past, bef, nh, (by rw [hs]), h233, h234, h235, h237, (by rw [hs]; exact NX.nil), (fun j _ => rfl)⟩
  · obtain ⟨e, he, rfl⟩ := b3
    refine g_if_eq F (q := 9) (tgt := 11) (dk dX7_leaveOut 4 rfl) (by decide) rfl (fun _ => ?_) (fun h => absurd h (by decide))
    refine g_iload_n F (q := 12) (dk dX7_leaveOut 7 rfl) rfl rfl 2 rfl ?_
    refine g_if_eq F (q := 15) (tgt := 19) (dk dX7_leaveOut 8 rfl) (by decide) rfl (fun c12 => ?_) (fun c12 => ?_)
    · refine g_iconst F (q := 20) (v := 0) (dk dX7_leaveOut 11 rfl) rfl (by decide) ?_
      refine g_istore_n F (q := 21) (lv' := [(3, .int 0), (0, .ref (ad 233)), (1, .int (nI e)), (2, .int b)]) (dk dX7_leaveOut 12 rfl) rfl rfl (Nat.le_of_ble_eq_true rfl) rfl ?_
      refine g_aload_n F (q := 22) (dk dX7_leaveOut 13 rfl) rfl rfl 1 rfl ?_
      refine g_iconst F (q := 23) (v := 0) (dk dX7_leaveOut 14 rfl) rfl (by decide) ?_
      refine g_iload_n F (q := 24) (dk dX7_leaveOut 15 rfl) rfl rfl 2 rfl ?_
      refine g_iconst F (q := 25) (v := 4) (dk dX7_leaveOut 16 rfl) rfl (by decide) ?_
      refine g_callVI F (q := 28) (av := [.int 0, .int (nI e), .int 4]) (st := []) (c_X7_come (k := 0) (m := e) (w := 4) h233 h234 (by first | assumption | decide | omega)) kv_X7_come tq_770 h233 rfl (by omega) ⟨rfl, rfl⟩ (by decide) ⟨Nat.le_refl _, Nat.le_refl _⟩ rfl rfl (Nat.le_of_ble_eq_true rfl) (dk dX7_leaveOut 17 rfl) rfl (fun r25 E25 hp25 => ?_)
      obtain ⟨rfl, rfl⟩ := hp25
      refine g_iload_n F (q := 29) (dk dX7_leaveOut 18 rfl) rfl rfl 0 rfl ?_
      refine g_icmp_ne F (q := 32) (tgt := 35) (dk dX7_leaveOut 19 rfl) (by decide) rfl (fun c29 => ?_) (fun c29 => ?_)
      · refine g_aload_n F (q := 36) (dk dX7_leaveOut 22 rfl) rfl rfl 1 rfl ?_
        refine g_callVV F (q := 39) (av := []) (st := []) (c_X7_open h233 h234 h235 h237 (by first | assumption | decide | omega)) kv_X7_open tq_691 h233 rfl (by omega) ⟨rfl, rfl⟩ (by decide) ⟨Nat.le_refl _, Nat.le_refl _⟩ rfl rfl (Nat.le_of_ble_eq_true rfl) (dk dX7_leaveOut 23 rfl) rfl (fun E36 hp36 => ?_)
        obtain ⟨q_36, g_36, hK233_36, hK235_36, hK237_36, hp_36, hF36⟩ := hp36
        refine g_aload_n F (q := 40) (dk dX7_leaveOut 24 rfl) rfl rfl 1 rfl ?_
        refine g_getf F (q := 43) hK233_36 rfl inX7 (by omega) (j := 0) (by decide) tq_623 rfl rfl (dk dX7_leaveOut 25 rfl) rfl ?_
        refine g_bipush F (q := 45) (v := 46) (dk dX7_leaveOut 26 rfl) rfl (by decide) ?_
        refine g_iconst F (q := 46) (v := 5) (dk dX7_leaveOut 27 rfl) rfl (by decide) ?_
        refine g_iload_n F (q := 47) (dk dX7_leaveOut 28 rfl) rfl rfl 2 rfl ?_
        refine g_imul F (q := 48) (dk dX7_leaveOut 29 rfl) rfl ?_
        refine g_iadd F (q := 49) (dk dX7_leaveOut 30 rfl) rfl ?_
        refine g_iconst F (q := 50) (v := 4) (dk dX7_leaveOut 31 rfl) rfl (by decide) ?_
        refine g_iadd F (q := 51) (dk dX7_leaveOut 32 rfl) rfl ?_
        refine g_iload_n F (q := 52) (dk dX7_leaveOut 33 rfl) rfl rfl 0 rfl ?_
        have hc1 := (hF36 234 (by omega)).trans h234
        refine g_iast F (q := 53) (((46 + (5 * e)) + 4)) hc1 (by omega) (nA (nA rfl (nM rfl rfl)) rfl) (by omega) (by decide) (dk dX7_leaveOut 34 rfl) rfl (fun E52 hE52 hO52 => ?_)
        refine g_aload_n F (q := 54) (dk dX7_leaveOut 35 rfl) rfl rfl 1 rfl ?_
        have hc2 := (hO52 233 (by omega)).trans hK233_36
        refine g_callVI F (q := 57) (av := []) (st := []) (c_X7_outs hc2 hE52 (by rw [upd_n (by omega)]; exact h0) (by first | assumption | decide | omega)) kv_X7_outs tq_774 hc2 rfl (by omega) ⟨rfl, rfl⟩ (by decide) ⟨Nat.le_refl _, Nat.le_refl _⟩ rfl rfl (Nat.le_of_ble_eq_true rfl) (dk dX7_leaveOut 36 rfl) rfl (fun r54 E54 hp54 => ?_)
        obtain ⟨rfl, rfl⟩ := hp54
        have hs : sLeave r nt (nI e) b = ((sumN (fun ee => (upd r (((46 + (5 * e)) + 4)) 0) (46 + 5 * ee + 4)) nt), some (upd r (((46 + (5 * e)) + 4)) 0)) := by unfold sLeave; rw [if_neg (ixN he (by omega)), nI_c (by omega), show flg b = 0 from if_pos c12, if_neg c29]
        have hc3 := (hO52 235 (by omega)).trans hK235_36
        have hc4 := (hO52 237 (by omega)).trans hK237_36
        refine hret (sumN (fun ee => (upd r (((46 + (5 * e)) + 4)) 0) (46 + 5 * ee + 4)) nt) E52 _ _ (dk dX7_leaveOut 37 rfl) (nint _) ?_
        exact ⟨(upd r (((46 + (5 * e)) + 4)) 0), q_36, g_36, (nup nh), (by rw [hs]), hc2, hE52, hc3, hc4, (by rw [hs]; exact ⟨rfl, eqN.rf, hp_36⟩), (fun j hj => ((hO52 j (by omega)).trans (hF36 j (by omega))))⟩
      · refine g_bipush F (q := 34) (v := (-5)) (dk dX7_leaveOut 20 rfl) rfl (by decide) ?_
        have hs : sLeave r nt (nI e) b = (-5, none) := by unfold sLeave; rw [if_neg (ixN he (by omega)), nI_c (by omega), show flg b = 0 from if_pos c12, if_pos c29]
        refine hret (-5) E _ _ (dk dX7_leaveOut 21 rfl) (nint _) ?_
        exact ⟨r, past, bef, nh, (by rw [hs]), h233, h234, h235, h237, (by rw [hs]; exact NX.nil), (fun j _ => rfl)⟩
    · refine g_iconst F (q := 16) (v := 1) (dk dX7_leaveOut 9 rfl) rfl (by decide) ?_
      refine g_goto F (tgt := 20) (dk dX7_leaveOut 10 rfl) (by decide) ?_
      refine g_istore_n F (q := 21) (lv' := [(3, .int 1), (0, .ref (ad 233)), (1, .int (nI e)), (2, .int b)]) (dk dX7_leaveOut 12 rfl) rfl rfl (Nat.le_of_ble_eq_true rfl) rfl ?_
      refine g_aload_n F (q := 22) (dk dX7_leaveOut 13 rfl) rfl rfl 1 rfl ?_
      refine g_iconst F (q := 23) (v := 0) (dk dX7_leaveOut 14 rfl) rfl (by decide) ?_
      refine g_iload_n F (q := 24) (dk dX7_leaveOut 15 rfl) rfl rfl 2 rfl ?_
      refine g_iconst F (q := 25) (v := 4) (dk dX7_leaveOut 16 rfl) rfl (by decide) ?_
      refine g_callVI F (q := 28) (av := [.int 0, .int (nI e), .int 4]) (st := []) (c_X7_come (k := 0) (m := e) (w := 4) h233 h234 (by first | assumption | decide | omega)) kv_X7_come tq_770 h233 rfl (by omega) ⟨rfl, rfl⟩ (by decide) ⟨Nat.le_refl _, Nat.le_refl _⟩ rfl rfl (Nat.le_of_ble_eq_true rfl) (dk dX7_leaveOut 17 rfl) rfl (fun r25 E25 hp25 => ?_)
      obtain ⟨rfl, rfl⟩ := hp25
      refine g_iload_n F (q := 29) (dk dX7_leaveOut 18 rfl) rfl rfl 0 rfl ?_
      refine g_icmp_ne F (q := 32) (tgt := 35) (dk dX7_leaveOut 19 rfl) (by decide) rfl (fun c29 => ?_) (fun c29 => ?_)
      · refine g_aload_n F (q := 36) (dk dX7_leaveOut 22 rfl) rfl rfl 1 rfl ?_
        refine g_callVV F (q := 39) (av := []) (st := []) (c_X7_open h233 h234 h235 h237 (by first | assumption | decide | omega)) kv_X7_open tq_691 h233 rfl (by omega) ⟨rfl, rfl⟩ (by decide) ⟨Nat.le_refl _, Nat.le_refl _⟩ rfl rfl (Nat.le_of_ble_eq_true rfl) (dk dX7_leaveOut 23 rfl) rfl (fun E36 hp36 => ?_)
        obtain ⟨q_36, g_36, hK233_36, hK235_36, hK237_36, hp_36, hF36⟩ := hp36
        refine g_aload_n F (q := 40) (dk dX7_leaveOut 24 rfl) rfl rfl 1 rfl ?_
        refine g_getf F (q := 43) hK233_36 rfl inX7 (by omega) (j := 0) (by decide) tq_623 rfl rfl (dk dX7_leaveOut 25 rfl) rfl ?_
        refine g_bipush F (q := 45) (v := 46) (dk dX7_leaveOut 26 rfl) rfl (by decide) ?_
        refine g_iconst F (q := 46) (v := 5) (dk dX7_leaveOut 27 rfl) rfl (by decide) ?_
        refine g_iload_n F (q := 47) (dk dX7_leaveOut 28 rfl) rfl rfl 2 rfl ?_
        refine g_imul F (q := 48) (dk dX7_leaveOut 29 rfl) rfl ?_
        refine g_iadd F (q := 49) (dk dX7_leaveOut 30 rfl) rfl ?_
        refine g_iconst F (q := 50) (v := 4) (dk dX7_leaveOut 31 rfl) rfl (by decide) ?_
        refine g_iadd F (q := 51) (dk dX7_leaveOut 32 rfl) rfl ?_
        refine g_iload_n F (q := 52) (dk dX7_leaveOut 33 rfl) rfl rfl 0 rfl ?_
        have hc5 := (hF36 234 (by omega)).trans h234
        refine g_iast F (q := 53) (((46 + (5 * e)) + 4)) hc5 (by omega) (nA (nA rfl (nM rfl rfl)) rfl) (by omega) (by decide) (dk dX7_leaveOut 34 rfl) rfl (fun E52 hE52 hO52 => ?_)
        refine g_aload_n F (q := 54) (dk dX7_leaveOut 35 rfl) rfl rfl 1 rfl ?_
        have hc6 := (hO52 233 (by omega)).trans hK233_36
        refine g_callVI F (q := 57) (av := []) (st := []) (c_X7_outs hc6 hE52 (by rw [upd_n (by omega)]; exact h0) (by first | assumption | decide | omega)) kv_X7_outs tq_774 hc6 rfl (by omega) ⟨rfl, rfl⟩ (by decide) ⟨Nat.le_refl _, Nat.le_refl _⟩ rfl rfl (Nat.le_of_ble_eq_true rfl) (dk dX7_leaveOut 36 rfl) rfl (fun r54 E54 hp54 => ?_)
        obtain ⟨rfl, rfl⟩ := hp54
        have hs : sLeave r nt (nI e) b = ((sumN (fun ee => (upd r (((46 + (5 * e)) + 4)) 1) (46 + 5 * ee + 4)) nt), some (upd r (((46 + (5 * e)) + 4)) 1)) := by unfold sLeave; rw [if_neg (ixN he (by omega)), nI_c (by omega), show flg b = 1 from if_neg c12, if_neg c29]
        have hc7 := (hO52 235 (by omega)).trans hK235_36
        have hc8 := (hO52 237 (by omega)).trans hK237_36
        refine hret (sumN (fun ee => (upd r (((46 + (5 * e)) + 4)) 1) (46 + 5 * ee + 4)) nt) E52 _ _ (dk dX7_leaveOut 37 rfl) (nint _) ?_
        exact ⟨(upd r (((46 + (5 * e)) + 4)) 1), q_36, g_36, (nup nh), (by rw [hs]), hc6, hE52, hc7, hc8, (by rw [hs]; exact ⟨rfl, eqN.rf, hp_36⟩), (fun j hj => ((hO52 j (by omega)).trans (hF36 j (by omega))))⟩
      · refine g_bipush F (q := 34) (v := (-5)) (dk dX7_leaveOut 20 rfl) rfl (by decide) ?_
        have hs : sLeave r nt (nI e) b = (-5, none) := by unfold sLeave; rw [if_neg (ixN he (by omega)), nI_c (by omega), show flg b = 1 from if_neg c12, if_pos c29]
        refine hret (-5) E _ _ (dk dX7_leaveOut 21 rfl) (nint _) ?_
        exact ⟨r, past, bef, nh, (by rw [hs]), h233, h234, h235, h237, (by rw [hs]; exact NX.nil), (fun j _ => rfl)⟩
theorem kv_X7_leaveOut : KV yX7_leaveOut "ThumpEarsModel" cX7_leaveOut 4 (some .int) 2 := ⟨tq_763, tq_764, tq_47, tq_765, by decide +kernel⟩
