abbrev rm_X7_in : Room := { frames := 0, cells := 0, slots := 0, locals := 0 }
set_option maxHeartbeats 4000000 in
set_option maxRecDepth 100000 in
theorem c_X7_in {l : Launch} {D : va_G} {cA : Nat → ClassId} {ad : Nat → Nat} {E : Nat → va_E} {v a b : Int32}    : CtI l D cA yX7_in cX7_in 3 .boolean rm_X7_in 243 ad E [.int v, .int a, .int b] (fun x E' => (E = E' ∧ 1 = x ∧ (a ≤ v ∧ v ≤ b)) ∨ (E = E' ∧ 0 = x ∧ ¬ (a ≤ v ∧ v ≤ b))) := by
  refine CtI.of (by decide +kernel) (Nat.le_of_ble_eq_true rfl) (fun X F hret => ?_)
  have F : Fr "ThumpEarsModel" cX7_in 3 D cA X := F
  refine (show GG rm_X7_in 3 l D X 0 0 243 ad E 0 [(0, .int v), (1, .int a), (2, .int b)] [] from ?_)
  refine g_iload_n F (dk dX7_in 0 rfl) rfl rfl 0 rfl ?_
  refine g_iload_n F (dk dX7_in 1 rfl) rfl rfl 1 rfl ?_
  refine g_icmp_lt F (tgt := 14) (dk dX7_in 2 rfl) (by decide) rfl (fun c2 => ?_) (fun c2 => ?_)
  · refine g_iconst F (v := 0) (dk dX7_in 8 rfl) rfl (by decide) ?_
    refine hret 0 E _ _ (dk dX7_in 9 rfl) rfl ?_
    exact Or.inr ⟨rfl, rfl, (fun h => absurd h.1 (Int32.not_le.mpr c2))⟩
  · refine g_iload_n F (dk dX7_in 3 rfl) rfl rfl 0 rfl ?_
    refine g_iload_n F (dk dX7_in 4 rfl) rfl rfl 2 rfl ?_
    refine g_icmp_gt F (tgt := 14) (dk dX7_in 5 rfl) (by decide) rfl (fun c7 => ?_) (fun c7 => ?_)
    · refine g_iconst F (v := 0) (dk dX7_in 8 rfl) rfl (by decide) ?_
      refine hret 0 E _ _ (dk dX7_in 9 rfl) rfl ?_
      exact Or.inr ⟨rfl, rfl, (fun h => absurd h.2 (Int32.not_le.mpr c7))⟩
    · refine g_iconst F (v := 1) (dk dX7_in 6 rfl) rfl (by decide) ?_
      refine g_goto F (tgt := 15) (dk dX7_in 7 rfl) (by decide) ?_
      refine hret 1 E _ _ (dk dX7_in 9 rfl) rfl ?_
      exact Or.inl ⟨rfl, rfl, ⟨Int32.not_lt.mp c2, Int32.not_lt.mp c7⟩⟩
theorem ks_X7_in : KS yX7_in "ThumpEarsModel" cX7_in 3 (some .boolean) 3 := ⟨tq_708, tq_47, tq_709, by decide +kernel⟩
abbrev rm_X7_far : Room := { frames := 0, cells := 0, slots := 0, locals := 0 }
set_option maxHeartbeats 4000000 in
set_option maxRecDepth 100000 in
theorem c_X7_far {l : Launch} {D : va_G} {cA : Nat → ClassId} {ad : Nat → Nat} {E : Nat → va_E} {a b : Int32}    : CtI l D cA yX7_far cX7_far 2 .int rm_X7_far 243 ad E [.int a, .int b] (fun x E' => (far a b) = x ∧ E = E') := by
  refine CtI.of (by decide +kernel) (Nat.le_of_ble_eq_true rfl) (fun X F hret => ?_)
  have F : Fr "ThumpEarsModel" cX7_far 2 D cA X := F
  refine (show GG rm_X7_far 2 l D X 0 0 243 ad E 0 [(0, .int a), (1, .int b)] [] from ?_)
  refine g_iload_n F (dk dX7_far 0 rfl) rfl rfl 0 rfl ?_
  refine g_iload_n F (dk dX7_far 1 rfl) rfl rfl 1 rfl ?_
  refine g_icmp_ge F (tgt := 11) (dk dX7_far 2 rfl) (by decide) rfl (fun c2 => ?_) (fun c2 => ?_)
  · refine g_iload_n F (dk dX7_far 7 rfl) rfl rfl 0 rfl ?_
    refine g_iload_n F (dk dX7_far 8 rfl) rfl rfl 1 rfl ?_
    refine g_isub F (dk dX7_far 9 rfl) rfl ?_
    refine hret (a - b) E _ _ (dk dX7_far 10 rfl) (nint _) ?_
    exact ⟨if_neg (Int32.not_lt.mpr c2), rfl⟩
  · refine g_iload_n F (dk dX7_far 3 rfl) rfl rfl 1 rfl ?_
    refine g_iload_n F (dk dX7_far 4 rfl) rfl rfl 0 rfl ?_
    refine g_isub F (dk dX7_far 5 rfl) rfl ?_
    refine g_goto F (tgt := 14) (dk dX7_far 6 rfl) (by decide) ?_
    refine hret (b - a) E _ _ (dk dX7_far 10 rfl) (nint _) ?_
    exact ⟨if_pos (Int32.not_le.mp c2), rfl⟩
theorem ks_X7_far : KS yX7_far "ThumpEarsModel" cX7_far 2 (some .int) 2 := ⟨tq_748, tq_47, tq_749, by decide +kernel⟩
abbrev rm_X7_down : Room := { frames := 0, cells := 0, slots := 0, locals := 0 }
set_option maxHeartbeats 4000000 in
set_option maxRecDepth 100000 in
theorem c_X7_down {l : Launch} {D : va_G} {cA : Nat → ClassId} {ad : Nat → Nat} {E : Nat → va_E} {a b : Int64}   (hb0 : ¬ b = 0) : CtL l D cA yX7_down cX7_down 6 rm_X7_down 243 ad E [.long a, .long b] (fun x E' => (dn a b) = x ∧ E = E') := by
  refine CtL.of (by decide +kernel) (Nat.le_of_ble_eq_true rfl) (fun X F hret => ?_)
  have F : Fr "ThumpEarsModel" cX7_down 6 D cA X := F
  refine (show GG rm_X7_down 6 l D X 0 0 243 ad E 0 [(0, .long a), (2, .long b)] [] from ?_)
  refine g_lload_n F (dk dX7_down 0 rfl) rfl rfl 0 rfl ?_
  refine g_lload_n F (dk dX7_down 1 rfl) rfl rfl 1 rfl ?_
  refine g_ldiv F (dk dX7_down 2 rfl) rfl hb0 ?_
  refine g_lstore F (lv' := [(4, .long (a / b)), (0, .long a), (2, .long b)]) (dk dX7_down 3 rfl) rfl (Nat.le_of_ble_eq_true rfl) rfl ?_
  refine g_lload F (dk dX7_down 4 rfl) rfl 0 rfl ?_
  refine g_lload_n F (dk dX7_down 5 rfl) rfl rfl 2 rfl ?_
  refine g_lmul F (dk dX7_down 6 rfl) rfl ?_
  refine g_lload_n F (dk dX7_down 7 rfl) rfl rfl 1 rfl ?_
  refine g_lcmp_le F (tgt := 21) (dk dX7_down 8 rfl) (dk dX7_down 9 rfl) (by decide) rfl (fun c10 => ?_) (fun c10 => ?_)
  · refine g_lload F (dk dX7_down 14 rfl) rfl 0 rfl ?_
    refine hret (a / b) E _ _ (dk dX7_down 15 rfl) ?_
    exact ⟨if_neg (Int64.not_lt.mpr c10), rfl⟩
  · refine g_lload F (dk dX7_down 10 rfl) rfl 0 rfl ?_
    refine g_lconst F (v := 1) (dk dX7_down 11 rfl) rfl (by decide) ?_
    refine g_lsub F (dk dX7_down 12 rfl) rfl ?_
    refine g_goto F (tgt := 23) (dk dX7_down 13 rfl) (by decide) ?_
    refine hret ((a / b) - 1) E _ _ (dk dX7_down 15 rfl) ?_
    exact ⟨if_pos (Int64.not_le.mp c10), rfl⟩
theorem ks_X7_down : KS yX7_down "ThumpEarsModel" cX7_down 6 (some .long) 2 := ⟨tq_756, tq_47, tq_757, by decide +kernel⟩
abbrev rm_X7_toldAs : Room := { frames := 0, cells := 0, slots := 0, locals := 0 }
set_option maxHeartbeats 4000000 in
set_option maxRecDepth 100000 in
theorem c_X7_toldAs {l : Launch} {D : va_G} {cA : Nat → ClassId} {ad : Nat → Nat} {E : Nat → va_E} {a : Int32}    : CtL l D cA yX7_toldAs cX7_toldAs 1 rm_X7_toldAs 243 ad E [.int a] (fun x E' => (toldAs a) = x ∧ E = E') := by
  refine CtL.of (by decide +kernel) (Nat.le_of_ble_eq_true rfl) (fun X F hret => ?_)
  have F : Fr "ThumpEarsModel" cX7_toldAs 1 D cA X := F
  refine (show GG rm_X7_toldAs 1 l D X 0 0 243 ad E 0 [(0, .int a)] [] from ?_)
  refine g_ldc2 F (v := (-9223372036854775808)) (dk dX7_toldAs 0 rfl) rfl tq_846 ?_
  refine g_iload_n F (dk dX7_toldAs 1 rfl) rfl rfl 0 rfl ?_
  refine g_i2l F (dk dX7_toldAs 2 rfl) rfl ?_
  refine g_lsub F (dk dX7_toldAs 3 rfl) rfl ?_
  refine hret ((-9223372036854775808) - a.toInt64) E _ _ (dk dX7_toldAs 4 rfl) ?_
  exact ⟨rfl, rfl⟩
theorem ks_X7_toldAs : KS yX7_toldAs "ThumpEarsModel" cX7_toldAs 1 (some .long) 1 := ⟨tq_844, tq_47, tq_845, by decide +kernel⟩
abbrev rm_X7_of : Room := { frames := 0, cells := 0, slots := 0, locals := 0 }
set_option maxHeartbeats 4000000 in
set_option maxRecDepth 100000 in
theorem c_X7_of {l : Launch} {D : va_G} {cA : Nat → ClassId} {ad : Nat → Nat} {E : Nat → va_E} {s0 s1 s2 s3 s4 s5 : Int32} {lo mo : Int64} {r : Nat → Int32} {e w : Nat} (h233 : E 233 = .inr (7, [.ref (ad 234), .ref (ad 235), .ref (ad 236), .ref (ad 237), .int s0, .int s1, .ref (ad 238), .int s2, .int s3, .int s4, .int s5, .ref (ad 239), .ref (ad 240), .ref (ad 241), .long lo, .long mo, .ref (ad 242)])) (h234 : E 234 = .inl (cA 0, 346, .inl r))  (hw : 6 + 4 * e + w < 346) : CtI l D cA yX7_of cX7_of 3 .int rm_X7_of 243 ad E [.ref (ad 233), .int (nI e), .int (nI w)] (fun x E' => (r (6 + 4 * e + w)) = x ∧ E = E') := by
  refine CtI.of (by decide +kernel) (Nat.le_of_ble_eq_true rfl) (fun X F hret => ?_)
  have F : Fr "ThumpEarsModel" cX7_of 3 D cA X := F
  refine (show GG rm_X7_of 3 l D X 0 0 243 ad E 0 [(0, .ref (ad 233)), (1, .int (nI e)), (2, .int (nI w))] [] from ?_)
  refine g_aload_n F (dk dX7_of 0 rfl) rfl rfl 0 rfl ?_
  refine g_getf F h233 rfl inX7 (by omega) (j := 0) (by decide) tq_623 rfl rfl (dk dX7_of 1 rfl) rfl ?_
  refine g_bipush F (v := 6) (dk dX7_of 2 rfl) rfl (by decide) ?_
  refine g_iconst F (v := 4) (dk dX7_of 3 rfl) rfl (by decide) ?_
  refine g_iload_n F (dk dX7_of 4 rfl) rfl rfl 1 rfl ?_
  refine g_imul F (dk dX7_of 5 rfl) rfl ?_
  refine g_iadd F (dk dX7_of 6 rfl) rfl ?_
  refine g_iload_n F (dk dX7_of 7 rfl) rfl rfl 2 rfl ?_
  refine g_iadd F (dk dX7_of 8 rfl) rfl ?_
  refine g_iald F (((6 + (4 * e)) + w)) h234 (by omega) (nA (nA rfl (nM rfl rfl)) rfl) (by omega) (by decide) (dk dX7_of 9 rfl) rfl ?_
  refine hret (r (((6 + (4 * e)) + w))) E _ _ (dk dX7_of 10 rfl) (nint _) ?_
  exact ⟨rfl, rfl⟩
theorem kv_X7_of : KV yX7_of "ThumpEarsModel" cX7_of 3 (some .int) 2 := ⟨tq_720, tq_13, tq_47, tq_721, by decide +kernel⟩
abbrev rm_X7_come : Room := { frames := 0, cells := 0, slots := 0, locals := 0 }
set_option maxHeartbeats 4000000 in
set_option maxRecDepth 100000 in
theorem c_X7_come {l : Launch} {D : va_G} {cA : Nat → ClassId} {ad : Nat → Nat} {E : Nat → va_E} {s0 s1 s2 s3 s4 s5 : Int32} {lo mo : Int64} {r : Nat → Int32} {k m w : Nat} (h233 : E 233 = .inr (7, [.ref (ad 234), .ref (ad 235), .ref (ad 236), .ref (ad 237), .int s0, .int s1, .ref (ad 238), .int s2, .int s3, .int s4, .int s5, .ref (ad 239), .ref (ad 240), .ref (ad 241), .long lo, .long mo, .ref (ad 242)])) (h234 : E 234 = .inl (cA 0, 346, .inl r))  (hw : 46 + 50 * k + 5 * m + w < 346) : CtI l D cA yX7_come cX7_come 4 .int rm_X7_come 243 ad E [.ref (ad 233), .int (nI k), .int (nI m), .int (nI w)] (fun x E' => (r (46 + 50 * k + 5 * m + w)) = x ∧ E = E') := by
  refine CtI.of (by decide +kernel) (Nat.le_of_ble_eq_true rfl) (fun X F hret => ?_)
  have F : Fr "ThumpEarsModel" cX7_come 4 D cA X := F
  refine (show GG rm_X7_come 4 l D X 0 0 243 ad E 0 [(0, .ref (ad 233)), (1, .int (nI k)), (2, .int (nI m)), (3, .int (nI w))] [] from ?_)
  refine g_aload_n F (dk dX7_come 0 rfl) rfl rfl 0 rfl ?_
  refine g_getf F h233 rfl inX7 (by omega) (j := 0) (by decide) tq_623 rfl rfl (dk dX7_come 1 rfl) rfl ?_
  refine g_bipush F (v := 46) (dk dX7_come 2 rfl) rfl (by decide) ?_
  refine g_bipush F (v := 50) (dk dX7_come 3 rfl) rfl (by decide) ?_
  refine g_iload_n F (dk dX7_come 4 rfl) rfl rfl 1 rfl ?_
  refine g_imul F (dk dX7_come 5 rfl) rfl ?_
  refine g_iadd F (dk dX7_come 6 rfl) rfl ?_
  refine g_iconst F (v := 5) (dk dX7_come 7 rfl) rfl (by decide) ?_
  refine g_iload_n F (dk dX7_come 8 rfl) rfl rfl 2 rfl ?_
  refine g_imul F (dk dX7_come 9 rfl) rfl ?_
  refine g_iadd F (dk dX7_come 10 rfl) rfl ?_
  refine g_iload_n F (dk dX7_come 11 rfl) rfl rfl 3 rfl ?_
  refine g_iadd F (dk dX7_come 12 rfl) rfl ?_
  refine g_iald F ((((46 + (50 * k)) + (5 * m)) + w)) h234 (by omega) (nA (nA (nA rfl (nM rfl rfl)) (nM rfl rfl)) rfl) (by omega) (by decide) (dk dX7_come 13 rfl) rfl ?_
  refine hret (r ((((46 + (50 * k)) + (5 * m)) + w))) E _ _ (dk dX7_come 14 rfl) (nint _) ?_
  exact ⟨rfl, rfl⟩
theorem kv_X7_come : KV yX7_come "ThumpEarsModel" cX7_come 4 (some .int) 3 := ⟨tq_772, tq_19, tq_47, tq_773, by decide +kernel⟩
abbrev rm_X7_heardOf : Room := { frames := 0, cells := 0, slots := 0, locals := 0 }
set_option maxHeartbeats 4000000 in
set_option maxRecDepth 100000 in
theorem c_X7_heardOf {l : Launch} {D : va_G} {cA : Nat → ClassId} {ad : Nat → Nat} {E : Nat → va_E} {s0 s1 s2 s3 s4 s5 : Int32} {lo mo : Int64} {r : Nat → Int32} {k m e : Nat} (h233 : E 233 = .inr (7, [.ref (ad 234), .ref (ad 235), .ref (ad 236), .ref (ad 237), .int s0, .int s1, .ref (ad 238), .int s2, .int s3, .int s4, .int s5, .ref (ad 239), .ref (ad 240), .ref (ad 241), .long lo, .long mo, .ref (ad 242)])) (h234 : E 234 = .inl (cA 0, 346, .inl r))  (hw : 146 + 100 * k + 10 * m + e < 346) : CtI l D cA yX7_heardOf cX7_heardOf 4 .int rm_X7_heardOf 243 ad E [.ref (ad 233), .int (nI k), .int (nI m), .int (nI e)] (fun x E' => (r (146 + 100 * k + 10 * m + e)) = x ∧ E = E') := by
  refine CtI.of (by decide +kernel) (Nat.le_of_ble_eq_true rfl) (fun X F hret => ?_)
  have F : Fr "ThumpEarsModel" cX7_heardOf 4 D cA X := F
  refine (show GG rm_X7_heardOf 4 l D X 0 0 243 ad E 0 [(0, .ref (ad 233)), (1, .int (nI k)), (2, .int (nI m)), (3, .int (nI e))] [] from ?_)
  refine g_aload_n F (dk dX7_heardOf 0 rfl) rfl rfl 0 rfl ?_
  refine g_getf F h233 rfl inX7 (by omega) (j := 0) (by decide) tq_623 rfl rfl (dk dX7_heardOf 1 rfl) rfl ?_
  refine g_sipush F (v := 146) (dk dX7_heardOf 2 rfl) rfl (by decide) ?_
  refine g_bipush F (v := 100) (dk dX7_heardOf 3 rfl) rfl (by decide) ?_
  refine g_iload_n F (dk dX7_heardOf 4 rfl) rfl rfl 1 rfl ?_
  refine g_imul F (dk dX7_heardOf 5 rfl) rfl ?_
  refine g_iadd F (dk dX7_heardOf 6 rfl) rfl ?_
  refine g_bipush F (v := 10) (dk dX7_heardOf 7 rfl) rfl (by decide) ?_
  refine g_iload_n F (dk dX7_heardOf 8 rfl) rfl rfl 2 rfl ?_
  refine g_imul F (dk dX7_heardOf 9 rfl) rfl ?_
  refine g_iadd F (dk dX7_heardOf 10 rfl) rfl ?_
  refine g_iload_n F (dk dX7_heardOf 11 rfl) rfl rfl 3 rfl ?_
  refine g_iadd F (dk dX7_heardOf 12 rfl) rfl ?_
  refine g_iald F ((((146 + (100 * k)) + (10 * m)) + e)) h234 (by omega) (nA (nA (nA rfl (nM rfl rfl)) (nM rfl rfl)) rfl) (by omega) (by decide) (dk dX7_heardOf 13 rfl) rfl ?_
  refine hret (r ((((146 + (100 * k)) + (10 * m)) + e))) E _ _ (dk dX7_heardOf 14 rfl) (nint _) ?_
  exact ⟨rfl, rfl⟩
theorem kv_X7_heardOf : KV yX7_heardOf "ThumpEarsModel" cX7_heardOf 4 (some .int) 3 := ⟨tq_824, tq_28, tq_47, tq_825, by decide +kernel⟩
abbrev rm_X7_came : Room := { frames := 0, cells := 0, slots := 0, locals := 0 }
set_option maxHeartbeats 4000000 in
set_option maxRecDepth 100000 in
theorem c_X7_came {l : Launch} {D : va_G} {cA : Nat → ClassId} {ad : Nat → Nat} {E : Nat → va_E} {s0 s1 s2 s3 s4 s5 : Int32} {lo mo : Int64} {r : Nat → Int32}  (h233 : E 233 = .inr (7, [.ref (ad 234), .ref (ad 235), .ref (ad 236), .ref (ad 237), .int s0, .int s1, .ref (ad 238), .int s2, .int s3, .int s4, .int s5, .ref (ad 239), .ref (ad 240), .ref (ad 241), .long lo, .long mo, .ref (ad 242)])) (h234 : E 234 = .inl (cA 0, 346, .inl r))   : CtI l D cA yX7_came cX7_came 1 .int rm_X7_came 243 ad E [.ref (ad 233)] (fun x E' => (r 1 + r 2) = x ∧ E = E') := by
  refine CtI.of (by decide +kernel) (Nat.le_of_ble_eq_true rfl) (fun X F hret => ?_)
  have F : Fr "ThumpEarsModel" cX7_came 1 D cA X := F
  refine (show GG rm_X7_came 1 l D X 0 0 243 ad E 0 [(0, .ref (ad 233))] [] from ?_)
  refine g_aload_n F (dk dX7_came 0 rfl) rfl rfl 0 rfl ?_
  refine g_getf F h233 rfl inX7 (by omega) (j := 0) (by decide) tq_623 rfl rfl (dk dX7_came 1 rfl) rfl ?_
  refine g_iconst F (v := 1) (dk dX7_came 2 rfl) rfl (by decide) ?_
  refine g_iald F 1 h234 (by omega) rfl (by omega) (by decide) (dk dX7_came 3 rfl) rfl ?_
  refine g_aload_n F (dk dX7_came 4 rfl) rfl rfl 0 rfl ?_
  refine g_getf F h233 rfl inX7 (by omega) (j := 0) (by decide) tq_623 rfl rfl (dk dX7_came 5 rfl) rfl ?_
  refine g_iconst F (v := 2) (dk dX7_came 6 rfl) rfl (by decide) ?_
  refine g_iald F 2 h234 (by omega) rfl (by omega) (by decide) (dk dX7_came 7 rfl) rfl ?_
  refine g_iadd F (dk dX7_came 8 rfl) rfl ?_
  refine hret ((r 1) + (r 2)) E _ _ (dk dX7_came 9 rfl) (nint _) ?_
  exact ⟨rfl, rfl⟩
theorem kv_X7_came : KV yX7_came "ThumpEarsModel" cX7_came 1 (some .int) 0 := ⟨tq_685, tq_8, tq_47, tq_686, by decide +kernel⟩
abbrev rm_X7_remember : Room := { frames := 0, cells := 0, slots := 0, locals := 0 }
set_option maxHeartbeats 4000000 in
set_option maxRecDepth 100000 in
theorem c_X7_remember {l : Launch} {D : va_G} {cA : Nat → ClassId} {ad : Nat → Nat} {E : Nat → va_E} {s0 s1 s2 s3 s4 s5 : Int32} {lo mo : Int64} {r bef : Nat → Int32}  (h233 : E 233 = .inr (7, [.ref (ad 234), .ref (ad 235), .ref (ad 236), .ref (ad 237), .int s0, .int s1, .ref (ad 238), .int s2, .int s3, .int s4, .int s5, .ref (ad 239), .ref (ad 240), .ref (ad 241), .long lo, .long mo, .ref (ad 242)])) (h234 : E 234 = .inl (cA 0, 346, .inl r)) (h237 : E 237 = .inl (cA 0, 346, .inl bef))   : CtV l D cA yX7_remember cX7_remember 2 rm_X7_remember 243 ad E [.ref (ad 233)] (fun E' => ∃ (g : Nat → Int32), E' 237 = .inl (cA 0, 346, .inl g) ∧ (eqN 346 g r) ∧ ∀ j, (j ≠ 237) → E' j = E j) := by
  refine CtV.of (by decide +kernel) (Nat.le_of_ble_eq_true rfl) (fun X F hret => ?_)
  have F : Fr "ThumpEarsModel" cX7_remember 2 D cA X := F
  refine (show GG rm_X7_remember 2 l D X 0 0 243 ad E 0 [(0, .ref (ad 233))] [] from ?_)
  refine g_iconst F (v := 0) (dk dX7_remember 0 rfl) rfl (by decide) ?_
  refine g_istore_n F (lv' := [(1, .int 0), (0, .ref (ad 233))]) (dk dX7_remember 1 rfl) rfl rfl (Nat.le_of_ble_eq_true rfl) rfl ?_
  have K2 : ∀ (fu : Nat) (i : Nat) (g : Nat → Int32) (E1 : Nat → va_E), 346 - i < fu → (hg : E1 237 = .inl (cA 0, 346, .inl g)) → (hfr2 : ∀ j, (j ≠ 237) → E1 j = E j) → (hi : i ≤ 346) → (hg2 : eqN i g r) → GG rm_X7_remember 2 l D X 0 0 243 ad E1 2 [(0, .ref (ad 233)), (1, .int (nI i))] [] := by
    intro fu
    induction fu with
    | zero => intro i g E1 hm; exact absurd hm (Nat.not_lt_zero _)
    | succ fu ih =>
      intro i g E1 hm hg hfr2 hi hg2
      refine g_iload_n F (dk dX7_remember 2 rfl) rfl rfl 1 rfl ?_
      refine g_sipush F (v := 346) (dk dX7_remember 3 rfl) rfl (by decide) ?_
      refine g_icmp_ge F (tgt := 27) (dk dX7_remember 4 rfl) (by decide) rfl (fun c6 => ?_) (fun c6 => ?_)
      · have nc6 : 346 ≤ i := (nI_leI (a := 346) (b := i) (by omega) (by omega)).mp c6
        refine hret E1 _ _ (dk dX7_remember 15 rfl) ?_
        exact ⟨g, hg, (fun k hk => hg2 k (by omega)), (fun j hj => (hfr2 j (by omega)))⟩
      · have nc6 : ¬ 346 ≤ i := fun h => c6 ((nI_leI (a := 346) (b := i) (by omega) (by omega)).mpr h)
        refine g_aload_n F (dk dX7_remember 5 rfl) rfl rfl 0 rfl ?_
        have hc1 := (hfr2 233 (by omega)).trans h233
        refine g_getf F hc1 rfl inX7 (by omega) (j := 3) (by decide) tq_626 rfl rfl (dk dX7_remember 6 rfl) rfl ?_
        refine g_iload_n F (dk dX7_remember 7 rfl) rfl rfl 1 rfl ?_
        refine g_aload_n F (dk dX7_remember 8 rfl) rfl rfl 0 rfl ?_
        refine g_getf F hc1 rfl inX7 (by omega) (j := 0) (by decide) tq_623 rfl rfl (dk dX7_remember 9 rfl) rfl ?_
        refine g_iload_n F (dk dX7_remember 10 rfl) rfl rfl 1 rfl ?_
        have hc2 := (hfr2 234 (by omega)).trans h234
        refine g_iald F i hc2 (by omega) rfl (by omega) (by decide) (dk dX7_remember 11 rfl) rfl ?_
        refine g_iast F i hg (by omega) rfl (by omega) (by decide) (dk dX7_remember 12 rfl) rfl (fun E20 hE20 hO20 => ?_)
        refine g_iinc F (v := (nI ((i + 1)))) (lv' := [(1, .int (nI ((i + 1)))), (0, .ref (ad 233))]) (dk dX7_remember 13 rfl) rfl 1 rfl (nI_1 _) (Nat.le_of_ble_eq_true rfl) rfl ?_
        refine g_goto F (tgt := 2) (dk dX7_remember 14 rfl) (by decide) ?_
        refine g_lv (lv' := [(0, .ref (ad 233)), (1, .int (nI ((i + 1))))]) [1, 0] rfl ?_
        exact ih (i + 1) (upd g i (r i)) E20 (by omega) hE20 (fun j hj => ((hO20 j (by omega)).trans (hfr2 j (by omega)))) (by omega) (eqN_cpy hg2)
  refine g_lv (lv' := [(0, .ref (ad 233)), (1, .int 0)]) [1, 0] rfl ?_
  exact K2 _ 0 bef E (Nat.lt_succ_self _) h237 (fun j _ => rfl) (by omega) (fun k hk => absurd hk (Nat.not_lt_zero k))
theorem kv_X7_remember : KV yX7_remember "ThumpEarsModel" cX7_remember 2 (none) 0 := ⟨tq_697, tq_10, tq_47, tq_698, by decide +kernel⟩
abbrev rm_X7_goBack : Room := { frames := 0, cells := 0, slots := 0, locals := 0 }
set_option maxHeartbeats 4000000 in
set_option maxRecDepth 100000 in
theorem c_X7_goBack {l : Launch} {D : va_G} {cA : Nat → ClassId} {ad : Nat → Nat} {E : Nat → va_E} {s0 s1 s2 s3 s4 s5 : Int32} {lo mo : Int64} {bef r : Nat → Int32}  (h233 : E 233 = .inr (7, [.ref (ad 234), .ref (ad 235), .ref (ad 236), .ref (ad 237), .int s0, .int s1, .ref (ad 238), .int s2, .int s3, .int s4, .int s5, .ref (ad 239), .ref (ad 240), .ref (ad 241), .long lo, .long mo, .ref (ad 242)])) (h237 : E 237 = .inl (cA 0, 346, .inl bef)) (h234 : E 234 = .inl (cA 0, 346, .inl r))   : CtV l D cA yX7_goBack cX7_goBack 2 rm_X7_goBack 243 ad E [.ref (ad 233)] (fun E' => ∃ (g : Nat → Int32), E' 234 = .inl (cA 0, 346, .inl g) ∧ (eqN 346 g bef) ∧ ∀ j, (j ≠ 234) → E' j = E j) := by
  refine CtV.of (by decide +kernel) (Nat.le_of_ble_eq_true rfl) (fun X F hret => ?_)
  have F : Fr "ThumpEarsModel" cX7_goBack 2 D cA X := F
  refine (show GG rm_X7_goBack 2 l D X 0 0 243 ad E 0 [(0, .ref (ad 233))] [] from ?_)
  refine g_iconst F (v := 0) (dk dX7_goBack 0 rfl) rfl (by decide) ?_
  refine g_istore_n F (lv' := [(1, .int 0), (0, .ref (ad 233))]) (dk dX7_goBack 1 rfl) rfl rfl (Nat.le_of_ble_eq_true rfl) rfl ?_
  have K2 : ∀ (fu : Nat) (i : Nat) (g : Nat → Int32) (E1 : Nat → va_E), 346 - i < fu → (hg : E1 234 = .inl (cA 0, 346, .inl g)) → (hfr2 : ∀ j, (j ≠ 234) → E1 j = E j) → (hi : i ≤ 346) → (hg2 : eqN i g bef) → GG rm_X7_goBack 2 l D X 0 0 243 ad E1 2 [(0, .ref (ad 233)), (1, .int (nI i))] [] := by
    intro fu
    induction fu with
    | zero => intro i g E1 hm; exact absurd hm (Nat.not_lt_zero _)
    | succ fu ih =>
      intro i g E1 hm hg hfr2 hi hg2
      refine g_iload_n F (dk dX7_goBack 2 rfl) rfl rfl 1 rfl ?_
      refine g_sipush F (v := 346) (dk dX7_goBack 3 rfl) rfl (by decide) ?_
      refine g_icmp_ge F (tgt := 27) (dk dX7_goBack 4 rfl) (by decide) rfl (fun c6 => ?_) (fun c6 => ?_)
      · have nc6 : 346 ≤ i := (nI_leI (a := 346) (b := i) (by omega) (by omega)).mp c6
        refine hret E1 _ _ (dk dX7_goBack 15 rfl) ?_
        exact ⟨g, hg, (fun k hk => hg2 k (by omega)), (fun j hj => (hfr2 j (by omega)))⟩
      · have nc6 : ¬ 346 ≤ i := fun h => c6 ((nI_leI (a := 346) (b := i) (by omega) (by omega)).mpr h)
        refine g_aload_n F (dk dX7_goBack 5 rfl) rfl rfl 0 rfl ?_
        have hc1 := (hfr2 233 (by omega)).trans h233
        refine g_getf F hc1 rfl inX7 (by omega) (j := 0) (by decide) tq_623 rfl rfl (dk dX7_goBack 6 rfl) rfl ?_
        refine g_iload_n F (dk dX7_goBack 7 rfl) rfl rfl 1 rfl ?_
        refine g_aload_n F (dk dX7_goBack 8 rfl) rfl rfl 0 rfl ?_
        refine g_getf F hc1 rfl inX7 (by omega) (j := 3) (by decide) tq_626 rfl rfl (dk dX7_goBack 9 rfl) rfl ?_
        refine g_iload_n F (dk dX7_goBack 10 rfl) rfl rfl 1 rfl ?_
        have hc2 := (hfr2 237 (by omega)).trans h237
        refine g_iald F i hc2 (by omega) rfl (by omega) (by decide) (dk dX7_goBack 11 rfl) rfl ?_
        refine g_iast F i hg (by omega) rfl (by omega) (by decide) (dk dX7_goBack 12 rfl) rfl (fun E20 hE20 hO20 => ?_)
        refine g_iinc F (v := (nI ((i + 1)))) (lv' := [(1, .int (nI ((i + 1)))), (0, .ref (ad 233))]) (dk dX7_goBack 13 rfl) rfl 1 rfl (nI_1 _) (Nat.le_of_ble_eq_true rfl) rfl ?_
        refine g_goto F (tgt := 2) (dk dX7_goBack 14 rfl) (by decide) ?_
        refine g_lv (lv' := [(0, .ref (ad 233)), (1, .int (nI ((i + 1))))]) [1, 0] rfl ?_
        exact ih (i + 1) (upd g i (bef i)) E20 (by omega) hE20 (fun j hj => ((hO20 j (by omega)).trans (hfr2 j (by omega)))) (by omega) (eqN_cpy hg2)
  refine g_lv (lv' := [(0, .ref (ad 233)), (1, .int 0)]) [1, 0] rfl ?_
  exact K2 _ 0 r E (Nat.lt_succ_self _) h234 (fun j _ => rfl) (by omega) (fun k hk => absurd hk (Nat.not_lt_zero k))
theorem kv_X7_goBack : KV yX7_goBack "ThumpEarsModel" cX7_goBack 2 (none) 0 := ⟨tq_812, tq_26, tq_47, tq_813, by decide +kernel⟩
abbrev rm_X7_record : Room := { frames := 0, cells := 0, slots := 0, locals := 0 }
set_option maxHeartbeats 4000000 in
set_option maxRecDepth 100000 in
theorem c_X7_record {l : Launch} {D : va_G} {cA : Nat → ClassId} {ad : Nat → Nat} {E : Nat → va_E} {nh : Nat} {s1 s2 s3 s4 s5 : Int32} {lo mo : Int64} {past bef : Nat → Int32}  (h233 : E 233 = .inr (7, [.ref (ad 234), .ref (ad 235), .ref (ad 236), .ref (ad 237), .int (nI nh), .int s1, .ref (ad 238), .int s2, .int s3, .int s4, .int s5, .ref (ad 239), .ref (ad 240), .ref (ad 241), .long lo, .long mo, .ref (ad 242)])) (h235 : E 235 = .inl (cA 0, 1384, .inl past)) (h237 : E 237 = .inl (cA 0, 346, .inl bef))  (hnh : nh ≤ 4) : CtV l D cA yX7_record cX7_record 2 rm_X7_record 243 ad E [.ref (ad 233)] (fun E' => ∃ (q : Nat → Int32), E' 233 = .inr (7, [.ref (ad 234), .ref (ad 235), .ref (ad 236), .ref (ad 237), .int (nI ((nup nh))), .int s1, .ref (ad 238), .int s2, .int s3, .int s4, .int s5, .ref (ad 239), .ref (ad 240), .ref (ad 241), .long lo, .long mo, .ref (ad 242)]) ∧ E' 235 = .inl (cA 0, 1384, .inl q) ∧ (eqH (nup nh) (hof q) (hpush nh (hof past) bef)) ∧ ∀ j, (j ≠ 233 ∧ j ≠ 235) → E' j = E j) := by
  refine CtV.of (by decide +kernel) (Nat.le_of_ble_eq_true rfl) (fun X F hret => ?_)
  have F : Fr "ThumpEarsModel" cX7_record 2 D cA X := F
  refine (show GG rm_X7_record 2 l D X 0 0 243 ad E 0 [(0, .ref (ad 233))] [] from ?_)
  refine g_aload_n F (dk dX7_record 0 rfl) rfl rfl 0 rfl ?_
  refine g_getf F h233 rfl inX7 (by omega) (j := 4) (by decide) tq_627 rfl rfl (dk dX7_record 1 rfl) rfl ?_
  refine g_iconst F (v := 4) (dk dX7_record 2 rfl) rfl (by decide) ?_
  refine g_icmp_ne F (tgt := 49) (dk dX7_record 3 rfl) (by decide) rfl (fun c5 => ?_) (fun c5 => ?_)
  · have nc5 : ¬ nh = 4 := fun h => c5 ((nI_eq (a := nh) (b := 4) (by omega) (by omega)).mpr h)
    refine g_iconst F (v := 0) (dk dX7_record 27 rfl) rfl (by decide) ?_
    refine g_istore_n F (lv' := [(1, .int 0), (0, .ref (ad 233))]) (dk dX7_record 28 rfl) rfl rfl (Nat.le_of_ble_eq_true rfl) rfl ?_
    have K51 : ∀ (fu : Nat) (i : Nat) (q : Nat → Int32) (E2 : Nat → va_E), 346 - i < fu → (hq : E2 235 = .inl (cA 0, 1384, .inl q)) → (hfr51 : ∀ j, (j ≠ 235) → E2 j = E j) → (hi : i ≤ 346) → (hq1 : ∀ j, j < i → q (346 * nh + j) = bef j) → (hq2 : ∀ j, j < 346 * nh → q j = past j) → GG rm_X7_record 2 l D X 0 0 243 ad E2 51 [(0, .ref (ad 233)), (1, .int (nI i))] [] := by
      intro fu
      induction fu with
      | zero => intro i q E2 hm; exact absurd hm (Nat.not_lt_zero _)
      | succ fu ih =>
        intro i q E2 hm hq hfr51 hi hq1 hq2
        refine g_iload_n F (dk dX7_record 29 rfl) rfl rfl 1 rfl ?_
        refine g_sipush F (v := 346) (dk dX7_record 30 rfl) rfl (by decide) ?_
        refine g_icmp_ge F (tgt := 85) (dk dX7_record 31 rfl) (by decide) rfl (fun c55 => ?_) (fun c55 => ?_)
        · have nc55 : 346 ≤ i := (nI_leI (a := 346) (b := i) (by omega) (by omega)).mp c55
          refine g_aload_n F (dk dX7_record 47 rfl) rfl rfl 0 rfl ?_
          refine g_dup F (dk dX7_record 48 rfl) rfl rfl ?_
          have hc1 := (hfr51 233 (by omega)).trans h233
          refine g_getf F hc1 rfl inX7 (by omega) (j := 4) (by decide) tq_627 rfl rfl (dk dX7_record 49 rfl) rfl ?_
          refine g_iconst F (v := 1) (dk dX7_record 50 rfl) rfl (by decide) ?_
          refine g_iadd F (dk dX7_record 51 rfl) rfl ?_
          refine g_sti (nA rfl rfl) ?_
          refine g_putf F (ty := .int) hc1 rfl inX7 tyX7 tyX7_ok nmX7 (by omega) (j := 4) (by decide) tq_627 rfl rfl (by decide +kernel) rfl rfl (Nat.le_of_ble_eq_true rfl) (dk dX7_record 52 rfl) rfl (fun E92 hE92 hO92 => ?_)
          have hE92 : E92 233 = .inr (7, [.ref (ad 234), .ref (ad 235), .ref (ad 236), .ref (ad 237), .int (nI ((nh + 1))), .int s1, .ref (ad 238), .int s2, .int s3, .int s4, .int s5, .ref (ad 239), .ref (ad 240), .ref (ad 241), .long lo, .long mo, .ref (ad 242)]) := hE92
          have hc2 := (hO92 235 (by omega)).trans hq
          refine hret E92 _ _ (dk dX7_record 53 rfl) ?_
          have h4 : nup nh = nh + 1 := if_neg nc5
          exact ⟨_, (by rw [h4]; exact hE92), hc2, (recB nc5 nc55 hq1 hq2), (fun j hj => ((hO92 j (by omega)).trans (hfr51 j (by omega))))⟩
        · have nc55 : ¬ 346 ≤ i := fun h => c55 ((nI_leI (a := 346) (b := i) (by omega) (by omega)).mpr h)
          refine g_aload_n F (dk dX7_record 32 rfl) rfl rfl 0 rfl ?_
          have hc3 := (hfr51 233 (by omega)).trans h233
          refine g_getf F hc3 rfl inX7 (by omega) (j := 1) (by decide) tq_624 rfl rfl (dk dX7_record 33 rfl) rfl ?_
          refine g_sipush F (v := 346) (dk dX7_record 34 rfl) rfl (by decide) ?_
          refine g_aload_n F (dk dX7_record 35 rfl) rfl rfl 0 rfl ?_
          refine g_getf F hc3 rfl inX7 (by omega) (j := 4) (by decide) tq_627 rfl rfl (dk dX7_record 36 rfl) rfl ?_
          refine g_imul F (dk dX7_record 37 rfl) rfl ?_
          refine g_iload_n F (dk dX7_record 38 rfl) rfl rfl 1 rfl ?_
          refine g_iadd F (dk dX7_record 39 rfl) rfl ?_
          refine g_aload_n F (dk dX7_record 40 rfl) rfl rfl 0 rfl ?_
          refine g_getf F hc3 rfl inX7 (by omega) (j := 3) (by decide) tq_626 rfl rfl (dk dX7_record 41 rfl) rfl ?_
          refine g_iload_n F (dk dX7_record 42 rfl) rfl rfl 1 rfl ?_
          have hc4 := (hfr51 237 (by omega)).trans h237
          refine g_iald F i hc4 (by omega) rfl (by omega) (by decide) (dk dX7_record 43 rfl) rfl ?_
          refine g_iast F (((346 * nh) + i)) hq (by omega) (nA (nM rfl rfl) rfl) (by omega) (by decide) (dk dX7_record 44 rfl) rfl (fun E78 hE78 hO78 => ?_)
          refine g_iinc F (v := (nI ((i + 1)))) (lv' := [(1, .int (nI ((i + 1)))), (0, .ref (ad 233))]) (dk dX7_record 45 rfl) rfl 1 rfl (nI_1 _) (Nat.le_of_ble_eq_true rfl) rfl ?_
          refine g_goto F (tgt := 51) (dk dX7_record 46 rfl) (by decide) ?_
          refine g_lv (lv' := [(0, .ref (ad 233)), (1, .int (nI ((i + 1))))]) [1, 0] rfl ?_
          exact ih (i + 1) (upd q (((346 * nh) + i)) (bef i)) E78 (by omega) hE78 (fun j hj => ((hO78 j (by omega)).trans (hfr51 j (by omega)))) (by omega) (cpP1 hq1) (cpP2 hq2)
    refine g_lv (lv' := [(0, .ref (ad 233)), (1, .int 0)]) [1, 0] rfl ?_
    exact K51 _ 0 past E (Nat.lt_succ_self _) h235 (fun j _ => rfl) (by omega) (fun j hj => absurd hj (Nat.not_lt_zero j)) (fun j _ => rfl)
  · have nc5 : nh = 4 := (nI_eq (a := nh) (b := 4) (by omega) (by omega)).mp c5
    subst nc5
    refine g_iconst F (v := 0) (dk dX7_record 4 rfl) rfl (by decide) ?_
    refine g_istore_n F (lv' := [(1, .int 0), (0, .ref (ad 233))]) (dk dX7_record 5 rfl) rfl rfl (Nat.le_of_ble_eq_true rfl) rfl ?_
    have K10 : ∀ (fu : Nat) (i : Nat) (p1 : Nat → Int32) (E1 : Nat → va_E), 1038 - i < fu → (hp : E1 235 = .inl (cA 0, 1384, .inl p1)) → (hfr10 : ∀ j, (j ≠ 235) → E1 j = E j) → (hi : i ≤ 1038) → (hp1 : ∀ j, j < i → p1 j = past (346 + j)) → (hp2 : ∀ j, i ≤ j → j < 1384 → p1 j = past j) → GG rm_X7_record 2 l D X 0 0 243 ad E1 10 [(0, .ref (ad 233)), (1, .int (nI i))] [] := by
      intro fu
      induction fu with
      | zero => intro i p1 E1 hm; exact absurd hm (Nat.not_lt_zero _)
      | succ fu ih =>
        intro i p1 E1 hm hp hfr10 hi hp1 hp2
        refine g_iload_n F (dk dX7_record 6 rfl) rfl rfl 1 rfl ?_
        refine g_sipush F (v := 1038) (dk dX7_record 7 rfl) rfl (by decide) ?_
        refine g_icmp_ge F (tgt := 39) (dk dX7_record 8 rfl) (by decide) rfl (fun c14 => ?_) (fun c14 => ?_)
        · have nc14 : 1038 ≤ i := (nI_leI (a := 1038) (b := i) (by omega) (by omega)).mp c14
          refine g_aload_n F (dk dX7_record 21 rfl) rfl rfl 0 rfl ?_
          refine g_dup F (dk dX7_record 22 rfl) rfl rfl ?_
          have hc5 := (hfr10 233 (by omega)).trans h233
          refine g_getf F hc5 rfl inX7 (by omega) (j := 4) (by decide) tq_627 rfl rfl (dk dX7_record 23 rfl) rfl ?_
          refine g_iconst F (v := 1) (dk dX7_record 24 rfl) rfl (by decide) ?_
          refine g_isub F (dk dX7_record 25 rfl) rfl ?_
          refine g_sti (y := (nI 3)) (by decide) ?_
          refine g_putf F (ty := .int) hc5 rfl inX7 tyX7 tyX7_ok nmX7 (by omega) (j := 4) (by decide) tq_627 rfl rfl (by decide +kernel) rfl rfl (Nat.le_of_ble_eq_true rfl) (dk dX7_record 26 rfl) rfl (fun E46 hE46 hO46 => ?_)
          have hE46 : E46 233 = .inr (7, [.ref (ad 234), .ref (ad 235), .ref (ad 236), .ref (ad 237), .int (nI 3), .int s1, .ref (ad 238), .int s2, .int s3, .int s4, .int s5, .ref (ad 239), .ref (ad 240), .ref (ad 241), .long lo, .long mo, .ref (ad 242)]) := hE46
          refine g_iconst F (v := 0) (dk dX7_record 27 rfl) rfl (by decide) ?_
          refine g_istore_n F (lv' := [(1, .int 0), (0, .ref (ad 233))]) (dk dX7_record 28 rfl) rfl rfl (Nat.le_of_ble_eq_true rfl) rfl ?_
          have hc6 := (hO46 235 (by omega)).trans hp
          have K51 : ∀ (fu : Nat) (i : Nat) (q : Nat → Int32) (E2 : Nat → va_E), 346 - i < fu → (hq : E2 235 = .inl (cA 0, 1384, .inl q)) → (hfr51 : ∀ j, (j ≠ 235) → E2 j = E46 j) → (hi : i ≤ 346) → (hq1 : ∀ j, j < i → q (346 * 3 + j) = bef j) → (hq2 : ∀ j, j < 346 * 3 → q j = p1 j) → GG rm_X7_record 2 l D X 0 0 243 ad E2 51 [(0, .ref (ad 233)), (1, .int (nI i))] [] := by
            intro fu
            induction fu with
            | zero => intro i q E2 hm; exact absurd hm (Nat.not_lt_zero _)
            | succ fu ih =>
              intro i q E2 hm hq hfr51 hi hq1 hq2
              refine g_iload_n F (dk dX7_record 29 rfl) rfl rfl 1 rfl ?_
              refine g_sipush F (v := 346) (dk dX7_record 30 rfl) rfl (by decide) ?_
              refine g_icmp_ge F (tgt := 85) (dk dX7_record 31 rfl) (by decide) rfl (fun c55 => ?_) (fun c55 => ?_)
              · have nc55 : 346 ≤ i := (nI_leI (a := 346) (b := i) (by omega) (by omega)).mp c55
                refine g_aload_n F (dk dX7_record 47 rfl) rfl rfl 0 rfl ?_
                refine g_dup F (dk dX7_record 48 rfl) rfl rfl ?_
                have hc7 := (hfr51 233 (by omega)).trans hE46
                refine g_getf F hc7 rfl inX7 (by omega) (j := 4) (by decide) tq_627 rfl rfl (dk dX7_record 49 rfl) rfl ?_
                refine g_iconst F (v := 1) (dk dX7_record 50 rfl) rfl (by decide) ?_
                refine g_iadd F (dk dX7_record 51 rfl) rfl ?_
                refine g_sti (nA rfl rfl) ?_
                refine g_putf F (ty := .int) hc7 rfl inX7 tyX7 tyX7_ok nmX7 (by omega) (j := 4) (by decide) tq_627 rfl rfl (by decide +kernel) rfl rfl (Nat.le_of_ble_eq_true rfl) (dk dX7_record 52 rfl) rfl (fun E92 hE92 hO92 => ?_)
                have hE92 : E92 233 = .inr (7, [.ref (ad 234), .ref (ad 235), .ref (ad 236), .ref (ad 237), .int (nI ((3 + 1))), .int s1, .ref (ad 238), .int s2, .int s3, .int s4, .int s5, .ref (ad 239), .ref (ad 240), .ref (ad 241), .long lo, .long mo, .ref (ad 242)]) := hE92
                have hc8 := (hO92 235 (by omega)).trans hq
                refine hret E92 _ _ (dk dX7_record 53 rfl) ?_
                exact ⟨_, hE92, hc8, (recA nc14 hp1 nc55 hq1 hq2), (fun j hj => ((((hO92 j (by omega)).trans (hfr51 j (by omega))).trans (hO46 j (by omega))).trans (hfr10 j (by omega))))⟩
              · have nc55 : ¬ 346 ≤ i := fun h => c55 ((nI_leI (a := 346) (b := i) (by omega) (by omega)).mpr h)
                refine g_aload_n F (dk dX7_record 32 rfl) rfl rfl 0 rfl ?_
                have hc9 := (hfr51 233 (by omega)).trans hE46
                refine g_getf F hc9 rfl inX7 (by omega) (j := 1) (by decide) tq_624 rfl rfl (dk dX7_record 33 rfl) rfl ?_
                refine g_sipush F (v := 346) (dk dX7_record 34 rfl) rfl (by decide) ?_
                refine g_aload_n F (dk dX7_record 35 rfl) rfl rfl 0 rfl ?_
                refine g_getf F hc9 rfl inX7 (by omega) (j := 4) (by decide) tq_627 rfl rfl (dk dX7_record 36 rfl) rfl ?_
                refine g_imul F (dk dX7_record 37 rfl) rfl ?_
                refine g_iload_n F (dk dX7_record 38 rfl) rfl rfl 1 rfl ?_
                refine g_iadd F (dk dX7_record 39 rfl) rfl ?_
                refine g_aload_n F (dk dX7_record 40 rfl) rfl rfl 0 rfl ?_
                refine g_getf F hc9 rfl inX7 (by omega) (j := 3) (by decide) tq_626 rfl rfl (dk dX7_record 41 rfl) rfl ?_
                refine g_iload_n F (dk dX7_record 42 rfl) rfl rfl 1 rfl ?_
                have hc10 := (hfr10 237 (by omega)).trans h237
                have hc11 := (hO46 237 (by omega)).trans hc10
                have hc12 := (hfr51 237 (by omega)).trans hc11
                refine g_iald F i hc12 (by omega) rfl (by omega) (by decide) (dk dX7_record 43 rfl) rfl ?_
                refine g_iast F (((346 * 3) + i)) hq (by omega) (nA (nM rfl rfl) rfl) (by omega) (by decide) (dk dX7_record 44 rfl) rfl (fun E78 hE78 hO78 => ?_)
                refine g_iinc F (v := (nI ((i + 1)))) (lv' := [(1, .int (nI ((i + 1)))), (0, .ref (ad 233))]) (dk dX7_record 45 rfl) rfl 1 rfl (nI_1 _) (Nat.le_of_ble_eq_true rfl) rfl ?_
                refine g_goto F (tgt := 51) (dk dX7_record 46 rfl) (by decide) ?_
                refine g_lv (lv' := [(0, .ref (ad 233)), (1, .int (nI ((i + 1))))]) [1, 0] rfl ?_
                exact ih (i + 1) (upd q (((346 * 3) + i)) (bef i)) E78 (by omega) hE78 (fun j hj => ((hO78 j (by omega)).trans (hfr51 j (by omega)))) (by omega) (cpP1 hq1) (cpP2 hq2)
          refine g_lv (lv' := [(0, .ref (ad 233)), (1, .int 0)]) [1, 0] rfl ?_
          exact K51 _ 0 p1 E46 (Nat.lt_succ_self _) hc6 (fun j _ => rfl) (by omega) (fun j hj => absurd hj (Nat.not_lt_zero j)) (fun j _ => rfl)
        · have nc14 : ¬ 1038 ≤ i := fun h => c14 ((nI_leI (a := 1038) (b := i) (by omega) (by omega)).mpr h)
          refine g_aload_n F (dk dX7_record 9 rfl) rfl rfl 0 rfl ?_
          have hc13 := (hfr10 233 (by omega)).trans h233
          refine g_getf F hc13 rfl inX7 (by omega) (j := 1) (by decide) tq_624 rfl rfl (dk dX7_record 10 rfl) rfl ?_
          refine g_iload_n F (dk dX7_record 11 rfl) rfl rfl 1 rfl ?_
          refine g_aload_n F (dk dX7_record 12 rfl) rfl rfl 0 rfl ?_
          refine g_getf F hc13 rfl inX7 (by omega) (j := 1) (by decide) tq_624 rfl rfl (dk dX7_record 13 rfl) rfl ?_
          refine g_sipush F (v := 346) (dk dX7_record 14 rfl) rfl (by decide) ?_
          refine g_iload_n F (dk dX7_record 15 rfl) rfl rfl 1 rfl ?_
          refine g_iadd F (dk dX7_record 16 rfl) rfl ?_
          refine g_iald F ((346 + i)) hp (by omega) (nA rfl rfl) (by omega) (by decide) (dk dX7_record 17 rfl) rfl ?_
          refine g_iast F i hp (by omega) rfl (by omega) (by decide) (dk dX7_record 18 rfl) rfl (fun E32 hE32 hO32 => ?_)
          refine g_iinc F (v := (nI ((i + 1)))) (lv' := [(1, .int (nI ((i + 1)))), (0, .ref (ad 233))]) (dk dX7_record 19 rfl) rfl 1 rfl (nI_1 _) (Nat.le_of_ble_eq_true rfl) rfl ?_
          refine g_goto F (tgt := 10) (dk dX7_record 20 rfl) (by decide) ?_
          refine g_lv (lv' := [(0, .ref (ad 233)), (1, .int (nI ((i + 1))))]) [1, 0] rfl ?_
          exact ih (i + 1) (upd p1 i (p1 ((346 + i)))) E32 (by omega) hE32 (fun j hj => ((hO32 j (by omega)).trans (hfr10 j (by omega)))) (by omega) (cpS1 hp1 hp2 (by omega)) (cpS2 hp2)
    refine g_lv (lv' := [(0, .ref (ad 233)), (1, .int 0)]) [1, 0] rfl ?_
    exact K10 _ 0 past E (Nat.lt_succ_self _) h235 (fun j _ => rfl) (by omega) (fun j hj => absurd hj (Nat.not_lt_zero j)) (fun j _ _ => rfl)
theorem kv_X7_record : KV yX7_record "ThumpEarsModel" cX7_record 2 (none) 0 := ⟨tq_701, tq_11, tq_47, tq_702, by decide +kernel⟩
