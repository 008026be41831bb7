abbrev rm_X1_isBehindAll : Room := { frames := 0, cells := 0, slots := 0, locals := 0 }
set_option maxHeartbeats 4000000 in
set_option maxRecDepth 100000 in
theorem c_X1_isBehindAll {l : Launch} {D : va_G} {cA : Nat → ClassId} {ad : Nat → Nat} {E : Nat → va_E} {c : Nat} {y : Int32} {rd : Nat → Int32}  (h225 : E 225 = .inr (1, [.ref (ad 226), .ref (ad 227), .ref (ad 228), .int (nI c)])) (hrd : E 227 = .inl (cA 0, 10, .inl rd))  (hc : c ≤ 10) : CtI l D cA yX1_isBehindAll cX1_isBehindAll 2 .boolean rm_X1_isBehindAll 235 ad E [.ref (ad 225), .int y] (fun x E' => (E = E' ∧ 1 = x ∧ (c = 0 ∨ rd (c - 1) < y)) ∨ (E = E' ∧ 0 = x ∧ ¬ (c = 0 ∨ rd (c - 1) < y))) := by
  refine CtI.of (by decide +kernel) (Nat.le_of_ble_eq_true rfl) (fun X F hret => ?_)
  have F : Fr "ThumpEars$Marks" cX1_isBehindAll 2 D cA X := F
  refine (show GG rm_X1_isBehindAll 2 l D X 0 0 235 ad E 0 [(0, .ref (ad 225)), (1, .int y)] [] from ?_)
  refine g_aload_n F (q := 1) (dk dX1_isBehindAll 0 rfl) rfl rfl 0 rfl ?_
  refine g_getf F (q := 4) h225 rfl inX1 (by omega) (j := 3) (by decide) tq_195 rfl rfl (dk dX1_isBehindAll 1 rfl) rfl ?_
  refine g_if_eq F (q := 7) (tgt := 22) (dk dX1_isBehindAll 2 rfl) (by decide) rfl (fun c4 => ?_) (fun c4 => ?_)
  · have nc4 : c = 0 := (nI_eq (a := c) (b := 0) (by omega) (by omega)).mp c4
    refine g_iconst F (q := 23) (v := 1) (dk dX1_isBehindAll 12 rfl) rfl (by decide) ?_
    refine g_goto F (tgt := 27) (dk dX1_isBehindAll 13 rfl) (by decide) ?_
    refine hret 1 E _ _ (dk dX1_isBehindAll 15 rfl) rfl ?_
    exact Or.inl ⟨rfl, rfl, (Or.inl nc4)⟩
  · have nc4 : ¬ c = 0 := fun h => c4 ((nI_eq (a := c) (b := 0) (by omega) (by omega)).mpr h)
    refine g_iload_n F (q := 8) (dk dX1_isBehindAll 3 rfl) rfl rfl 1 rfl ?_
    refine g_aload_n F (q := 9) (dk dX1_isBehindAll 4 rfl) rfl rfl 0 rfl ?_
    refine g_getf F (q := 12) h225 rfl inX1 (by omega) (j := 1) (by decide) tq_191 rfl rfl (dk dX1_isBehindAll 5 rfl) rfl ?_
    refine g_aload_n F (q := 13) (dk dX1_isBehindAll 6 rfl) rfl rfl 0 rfl ?_
    refine g_getf F (q := 16) h225 rfl inX1 (by omega) (j := 3) (by decide) tq_195 rfl rfl (dk dX1_isBehindAll 7 rfl) rfl ?_
    refine g_iconst F (q := 17) (v := 1) (dk dX1_isBehindAll 8 rfl) rfl (by decide) ?_
    refine g_isub F (q := 18) (dk dX1_isBehindAll 9 rfl) rfl ?_
    refine g_sti (y := (nI ((c - 1)))) (nI_sub1 (by omega)) ?_
    refine g_iald F (q := 19) ((c - 1)) hrd (by omega) rfl (by omega) (by decide) (dk dX1_isBehindAll 10 rfl) rfl ?_
    refine g_icmp_le F (q := 22) (tgt := 26) (dk dX1_isBehindAll 11 rfl) (by decide) rfl (fun c19 => ?_) (fun c19 => ?_)
    · refine g_iconst F (q := 27) (v := 0) (dk dX1_isBehindAll 14 rfl) rfl (by decide) ?_
      refine hret 0 E _ _ (dk dX1_isBehindAll 15 rfl) rfl ?_
      exact Or.inr ⟨rfl, rfl, (fun h => h.elim (fun q => nc4 q) (fun q => absurd q (Int32.not_lt.mpr c19)))⟩
    · refine g_iconst F (q := 23) (v := 1) (dk dX1_isBehindAll 12 rfl) rfl (by decide) ?_
      refine g_goto F (tgt := 27) (dk dX1_isBehindAll 13 rfl) (by decide) ?_
      refine hret 1 E _ _ (dk dX1_isBehindAll 15 rfl) rfl ?_
      exact Or.inl ⟨rfl, rfl, (Or.inr (Int32.not_le.mp c19))⟩
theorem kv_X1_isBehindAll : KV yX1_isBehindAll "ThumpEars$Marks" cX1_isBehindAll 2 (some .boolean) 1 := ⟨tq_316, tq_317, tq_14, tq_318, by decide +kernel⟩
abbrev rm_X1_latestThump : Room := { frames := 0, cells := 0, slots := 0, locals := 0 }
set_option maxHeartbeats 4000000 in
set_option maxRecDepth 100000 in
theorem c_X1_latestThump {l : Launch} {D : va_G} {cA : Nat → ClassId} {ad : Nat → Nat} {E : Nat → va_E} {c : Nat} {th : Nat → Int32}  (h225 : E 225 = .inr (1, [.ref (ad 226), .ref (ad 227), .ref (ad 228), .int (nI c)])) (hth : E 226 = .inl (cA 0, 10, .inl th))  (hc : c ≤ 10) : CtI l D cA yX1_latestThump cX1_latestThump 1 .int rm_X1_latestThump 235 ad E [.ref (ad 225)] (fun x E' => (if c = 0 then -1 else th (c - 1)) = x ∧ E = E') := by
  refine CtI.of (by decide +kernel) (Nat.le_of_ble_eq_true rfl) (fun X F hret => ?_)
  have F : Fr "ThumpEars$Marks" cX1_latestThump 1 D cA X := F
  refine (show GG rm_X1_latestThump 1 l D X 0 0 235 ad E 0 [(0, .ref (ad 225))] [] from ?_)
  refine g_aload_n F (q := 1) (dk dX1_latestThump 0 rfl) rfl rfl 0 rfl ?_
  refine g_getf F (q := 4) h225 rfl inX1 (by omega) (j := 3) (by decide) tq_195 rfl rfl (dk dX1_latestThump 1 rfl) rfl ?_
  refine g_if_ne F (q := 7) (tgt := 11) (dk dX1_latestThump 2 rfl) (by decide) rfl (fun c4 => ?_) (fun c4 => ?_)
  · have nc4 : ¬ c = 0 := fun h => c4 ((nI_eq (a := c) (b := 0) (by omega) (by omega)).mpr h)
    refine g_aload_n F (q := 12) (dk dX1_latestThump 5 rfl) rfl rfl 0 rfl ?_
    refine g_getf F (q := 15) h225 rfl inX1 (by omega) (j := 0) (by decide) tq_189 rfl rfl (dk dX1_latestThump 6 rfl) rfl ?_
    refine g_aload_n F (q := 16) (dk dX1_latestThump 7 rfl) rfl rfl 0 rfl ?_
    refine g_getf F (q := 19) h225 rfl inX1 (by omega) (j := 3) (by decide) tq_195 rfl rfl (dk dX1_latestThump 8 rfl) rfl ?_
    refine g_iconst F (q := 20) (v := 1) (dk dX1_latestThump 9 rfl) rfl (by decide) ?_
    refine g_isub F (q := 21) (dk dX1_latestThump 10 rfl) rfl ?_
    refine g_sti (y := (nI ((c - 1)))) (nI_sub1 (by omega)) ?_
    refine g_iald F (q := 22) ((c - 1)) hth (by omega) rfl (by omega) (by decide) (dk dX1_latestThump 11 rfl) rfl ?_
    have K22 : ∀ (y : Int32), (hy : (if c = 0 then -1 else th (c - 1)) = y) → GG rm_X1_latestThump 1 l D X 0 0 235 ad E 22 [(0, .ref (ad 225))] [.int y] := by
      intro y hy
      refine hret y E _ _ (dk dX1_latestThump 12 rfl) (nint _) ?_
      exact ⟨hy, rfl⟩
    refine g_lv (lv' := [(0, .ref (ad 225))]) [0] rfl ?_
    exact K22 (th ((c - 1))) (if_neg nc4)
  · have nc4 : c = 0 := (nI_eq (a := c) (b := 0) (by omega) (by omega)).mp c4
    refine g_iconst F (q := 8) (v := (-1)) (dk dX1_latestThump 3 rfl) rfl (by decide) ?_
    refine g_goto F (tgt := 22) (dk dX1_latestThump 4 rfl) (by decide) ?_
    have K22 : ∀ (y : Int32), (hy : (if c = 0 then -1 else th (c - 1)) = y) → GG rm_X1_latestThump 1 l D X 0 0 235 ad E 22 [(0, .ref (ad 225))] [.int y] := by
      intro y hy
      refine hret y E _ _ (dk dX1_latestThump 12 rfl) (nint _) ?_
      exact ⟨hy, rfl⟩
    refine g_lv (lv' := [(0, .ref (ad 225))]) [0] rfl ?_
    exact K22 (-1) (if_pos nc4)
theorem kv_X1_latestThump : KV yX1_latestThump "ThumpEars$Marks" cX1_latestThump 1 (some .int) 0 := ⟨tq_460, tq_461, tq_14, tq_462, by decide +kernel⟩
abbrev rm_X1_firstOfPair : Room := { frames := 0, cells := 0, slots := 0, locals := 0 }
set_option maxHeartbeats 4000000 in
set_option maxRecDepth 100000 in
theorem c_X1_firstOfPair {l : Launch} {D : va_G} {cA : Nat → ClassId} {ad : Nat → Nat} {E : Nat → va_E} {c : Nat} {y : Int32} {rd : Nat → Int32}  (h225 : E 225 = .inr (1, [.ref (ad 226), .ref (ad 227), .ref (ad 228), .int (nI c)])) (hrd : E 227 = .inl (cA 0, 10, .inl rd))  (hc : c ≤ 10) (h0 : 0 < c) : CtI l D cA yX1_firstOfPair cX1_firstOfPair 4 .int rm_X1_firstOfPair 235 ad E [.ref (ad 225), .int y] (fun x E' => (nI ((fI rd y (c - 2)))) = x ∧ E = E') := by
  refine CtI.of (by decide +kernel) (Nat.le_of_ble_eq_true rfl) (fun X F hret => ?_)
  have F : Fr "ThumpEars$Marks" cX1_firstOfPair 4 D cA X := F
  refine (show GG rm_X1_firstOfPair 4 l D X 0 0 235 ad E 0 [(0, .ref (ad 225)), (1, .int y)] [] from ?_)
  refine g_iconst F (q := 1) (v := 0) (dk dX1_firstOfPair 0 rfl) rfl (by decide) ?_
  refine g_istore_n F (q := 2) (lv' := [(2, .int 0), (0, .ref (ad 225)), (1, .int y)]) (dk dX1_firstOfPair 1 rfl) rfl rfl (Nat.le_of_ble_eq_true rfl) rfl ?_
  refine g_iconst F (q := 3) (v := 1) (dk dX1_firstOfPair 2 rfl) rfl (by decide) ?_
  refine g_istore_n F (q := 4) (lv' := [(3, .int 1), (2, .int 0), (0, .ref (ad 225)), (1, .int y)]) (dk dX1_firstOfPair 3 rfl) rfl rfl (Nat.le_of_ble_eq_true rfl) rfl ?_
  have K4 : ∀ (fu : Nat) (m : Nat) (k : Nat), 10 - m < fu → (hm : m ≤ c - 2) → (hk : k = fI rd y m) → GG rm_X1_firstOfPair 4 l D X 0 0 235 ad E 4 [(0, .ref (ad 225)), (1, .int y), (2, .int (nI k)), (3, .int (nI ((m + 1))))] [] := by
    intro fu
    induction fu with
    | zero => intro m k hfu_; exact absurd hfu_ (Nat.not_lt_zero _)
    | succ fu ih =>
      intro m k hfu_ hm hk
      refine g_iload_n F (q := 5) (dk dX1_firstOfPair 4 rfl) rfl rfl 3 rfl ?_
      refine g_aload_n F (q := 6) (dk dX1_firstOfPair 5 rfl) rfl rfl 0 rfl ?_
      refine g_getf F (q := 9) h225 rfl inX1 (by omega) (j := 3) (by decide) tq_195 rfl rfl (dk dX1_firstOfPair 6 rfl) rfl ?_
      refine g_iconst F (q := 10) (v := 1) (dk dX1_firstOfPair 7 rfl) rfl (by decide) ?_
      refine g_isub F (q := 11) (dk dX1_firstOfPair 8 rfl) rfl ?_
      refine g_sti (y := (nI ((c - 1)))) (nI_sub1 (by omega)) ?_
      refine g_icmp_ge F (q := 14) (tgt := 32) (dk dX1_firstOfPair 9 rfl) (by decide) rfl (fun c11 => ?_) (fun c11 => ?_)
      · have nc11 : (c - 1) ≤ (m + 1) := (nI_leI (a := (c - 1)) (b := (m + 1)) (by omega) (by omega)).mp c11
        refine g_iload_n F (q := 33) (dk dX1_firstOfPair 20 rfl) rfl rfl 2 rfl ?_
        refine hret (nI k) E _ _ (dk dX1_firstOfPair 21 rfl) (nint _) ?_
        exact ⟨by rw [hk, show m = c - 2 by omega], rfl⟩
      · have nc11 : ¬ (c - 1) ≤ (m + 1) := fun h => c11 ((nI_leI (a := (c - 1)) (b := (m + 1)) (by omega) (by omega)).mpr h)
        refine g_aload_n F (q := 15) (dk dX1_firstOfPair 10 rfl) rfl rfl 0 rfl ?_
        refine g_getf F (q := 18) h225 rfl inX1 (by omega) (j := 1) (by decide) tq_191 rfl rfl (dk dX1_firstOfPair 11 rfl) rfl ?_
        refine g_iload_n F (q := 19) (dk dX1_firstOfPair 12 rfl) rfl rfl 3 rfl ?_
        refine g_iald F (q := 20) ((m + 1)) hrd (by omega) rfl (by omega) (by decide) (dk dX1_firstOfPair 13 rfl) rfl ?_
        refine g_iload_n F (q := 21) (dk dX1_firstOfPair 14 rfl) rfl rfl 1 rfl ?_
        refine g_icmp_gt F (q := 24) (tgt := 26) (dk dX1_firstOfPair 15 rfl) (by decide) rfl (fun c21 => ?_) (fun c21 => ?_)
        · refine g_iinc F (q := 29) (v := (nI (((m + 1) + 1)))) (lv' := [(3, .int (nI (((m + 1) + 1)))), (0, .ref (ad 225)), (1, .int y), (2, .int (nI k))]) (dk dX1_firstOfPair 18 rfl) rfl 3 rfl (nI_1 _) (Nat.le_of_ble_eq_true rfl) rfl ?_
          refine g_goto F (tgt := 4) (dk dX1_firstOfPair 19 rfl) (by decide) ?_
          refine g_lv (lv' := [(0, .ref (ad 225)), (1, .int y), (2, .int (nI k)), (3, .int (nI (((m + 1) + 1))))]) [1, 2, 3, 0] rfl ?_
          exact ih (m + 1) k (by omega) (by omega) (by unfold fI; rw [if_neg (Int32.not_le.mpr c21), hk])
        · refine g_iload_n F (q := 25) (dk dX1_firstOfPair 16 rfl) rfl rfl 3 rfl ?_
          refine g_istore_n F (q := 26) (lv' := [(2, .int (nI ((m + 1)))), (0, .ref (ad 225)), (1, .int y), (3, .int (nI ((m + 1))))]) (dk dX1_firstOfPair 17 rfl) rfl rfl (Nat.le_of_ble_eq_true rfl) rfl ?_
          refine g_iinc F (q := 29) (v := (nI (((m + 1) + 1)))) (lv' := [(3, .int (nI (((m + 1) + 1)))), (2, .int (nI ((m + 1)))), (0, .ref (ad 225)), (1, .int y)]) (dk dX1_firstOfPair 18 rfl) rfl 3 rfl (nI_1 _) (Nat.le_of_ble_eq_true rfl) rfl ?_
          refine g_goto F (tgt := 4) (dk dX1_firstOfPair 19 rfl) (by decide) ?_
          refine g_lv (lv' := [(0, .ref (ad 225)), (1, .int y), (2, .int (nI ((m + 1)))), (3, .int (nI (((m + 1) + 1))))]) [2, 3, 1, 0] rfl ?_
          exact ih (m + 1) (m + 1) (by omega) (by omega) (by unfold fI; rw [if_pos (Int32.not_lt.mp c21)])
  refine g_lv (lv' := [(0, .ref (ad 225)), (1, .int y), (2, .int 0), (3, .int 1)]) [2, 3, 1, 0] rfl ?_
  exact K4 _ 0 0 (Nat.lt_succ_self _) (by omega) rfl
theorem kv_X1_firstOfPair : KV yX1_firstOfPair "ThumpEars$Marks" cX1_firstOfPair 4 (some .int) 1 := ⟨tq_336, tq_337, tq_14, tq_338, by decide +kernel⟩
abbrev rm_X1_errorAt : Room := { frames := 1, cells := 0, slots := 0, locals := 25 }
set_option maxHeartbeats 4000000 in
set_option maxRecDepth 100000 in
theorem c_X1_errorAt {l : Launch} {D : va_G} {cA : Nat → ClassId} {ad : Nat → Nat} {E : Nat → va_E} {c : Nat} {y : Int32} {rd er : Nat → Int32}  (h225 : E 225 = .inr (1, [.ref (ad 226), .ref (ad 227), .ref (ad 228), .int (nI c)])) (hrd : E 227 = .inl (cA 0, 10, .inl rd)) (her : E 228 = .inl (cA 0, 10, .inl er))  (hc : c ≤ 10) (hmo : ∀ j, j + 1 < c → rd j < rd (j + 1)) (hb : ∀ j, j < c → -2000 ≤ (rd j).toInt ∧ (rd j).toInt ≤ 130000) : CtL l D cA yX1_errorAt cX1_errorAt 10 rm_X1_errorAt 235 ad E [.ref (ad 225), .int y] (fun x E' => (eA c rd er y) = x ∧ E = E') := by
  refine CtL.of (by decide +kernel) (Nat.le_of_ble_eq_true rfl) (fun X F hret => ?_)
  have F : Fr "ThumpEars$Marks" cX1_errorAt 10 D cA X := F
  refine (show GG rm_X1_errorAt 10 l D X 0 0 235 ad E 0 [(0, .ref (ad 225)), (1, .int y)] [] from ?_)
  refine g_aload_n F (q := 1) (dk dX1_errorAt 0 rfl) rfl rfl 0 rfl ?_
  refine g_getf F (q := 4) h225 rfl inX1 (by omega) (j := 3) (by decide) tq_195 rfl rfl (dk dX1_errorAt 1 rfl) rfl ?_
  refine g_if_ne F (q := 7) (tgt := 9) (dk dX1_errorAt 2 rfl) (by decide) rfl (fun c4 => ?_) (fun c4 => ?_)
  · have nc4 : ¬ c = 0 := fun h => c4 ((nI_eq (a := c) (b := 0) (by omega) (by omega)).mpr h)
    refine g_aload_n F (q := 10) (dk dX1_errorAt 5 rfl) rfl rfl 0 rfl ?_
    refine g_iload_n F (q := 11) (dk dX1_errorAt 6 rfl) rfl rfl 1 rfl ?_
    refine g_callVI F (q := 14) (av := [.int y]) (st := []) (c_X1_firstOfPair (y := y) h225 hrd (by first | assumption | decide | omega) (by first | assumption | decide | omega)) kv_X1_firstOfPair tq_335 h225 rfl (by omega) ⟨rfl, rfl⟩ (by decide) ⟨Nat.le_refl _, Nat.le_refl _⟩ rfl rfl (Nat.le_of_ble_eq_true rfl) (dk dX1_errorAt 7 rfl) rfl (fun r11 E11 hp11 => ?_)
    obtain ⟨rfl, rfl⟩ := hp11
    refine g_istore_n F (q := 15) (lv' := [(2, .int (nI ((fI rd y (c - 2))))), (0, .ref (ad 225)), (1, .int y)]) (dk dX1_errorAt 8 rfl) rfl rfl (Nat.le_of_ble_eq_true rfl) rfl ?_
    have hfk := fI_le (R := rd) (c := y) (c - 2)
    rcases (show c = 1 ∨ 2 ≤ c by omega) with h1c | h2c
    · refine g_iload_n F (q := 16) (dk dX1_errorAt 9 rfl) rfl rfl 0 rfl ?_
      refine g_iconst F (q := 17) (v := 1) (dk dX1_errorAt 10 rfl) rfl (by decide) ?_
      refine g_iadd F (q := 18) (dk dX1_errorAt 11 rfl) rfl ?_
      refine g_sti (y := (nI ((fI rd y (c - 2) + 1)))) (nI_1 _) ?_
      refine g_aload_n F (q := 19) (dk dX1_errorAt 12 rfl) rfl rfl 1 rfl ?_
      refine g_getf F (q := 22) h225 rfl inX1 (by omega) (j := 3) (by decide) tq_195 rfl rfl (dk dX1_errorAt 13 rfl) rfl ?_
      refine g_iconst F (q := 23) (v := 1) (dk dX1_errorAt 14 rfl) rfl (by decide) ?_
      refine g_isub F (q := 24) (dk dX1_errorAt 15 rfl) rfl ?_
      refine g_sti (y := (nI ((c - 1)))) (nI_sub1 (by omega)) ?_
      refine g_mmin F (q := 27) tq_339 tq_340 tq_17 tq_341 (by decide) (Nat.le_of_ble_eq_true rfl) ⟨Nat.le_refl _, Nat.le_refl _⟩ (dk dX1_errorAt 16 rfl) rfl ?_
      refine g_sti (y := (nI ((c - 1)))) (if_pos ((nI_ltI (a := c - 1) (b := fI rd y (c - 2) + 1) (by omega) (by omega)).mpr (by omega))) ?_
      refine g_istore_n F (q := 28) (lv' := [(3, .int (nI ((c - 1)))), (2, .int (nI ((fI rd y (c - 2))))), (0, .ref (ad 225)), (1, .int y)]) (dk dX1_errorAt 17 rfl) rfl rfl (Nat.le_of_ble_eq_true rfl) rfl ?_
      refine g_ldc2 F (q := 31) (v := 1000) (dk dX1_errorAt 18 rfl) rfl tq_330 ?_
      refine g_aload_n F (q := 32) (dk dX1_errorAt 19 rfl) rfl rfl 2 rfl ?_
      refine g_getf F (q := 35) h225 rfl inX1 (by omega) (j := 2) (by decide) tq_193 rfl rfl (dk dX1_errorAt 20 rfl) rfl ?_
      refine g_iload_n F (q := 36) (dk dX1_errorAt 21 rfl) rfl rfl 1 rfl ?_
      refine g_iald F (q := 37) ((fI rd y (c - 2))) her (by omega) rfl (by omega) (by decide) (dk dX1_errorAt 22 rfl) rfl ?_
      refine g_i2l F (q := 38) (dk dX1_errorAt 23 rfl) rfl ?_
      refine g_lmul F (q := 39) (dk dX1_errorAt 24 rfl) rfl ?_
      refine g_lstore F (q := 41) (lv' := [(4, .long (1000 * (er ((fI rd y (c - 2)))).toInt64)), (3, .int (nI ((c - 1)))), (2, .int (nI ((fI rd y (c - 2))))), (0, .ref (ad 225)), (1, .int y)]) (dk dX1_errorAt 25 rfl) rfl (Nat.le_of_ble_eq_true rfl) rfl ?_
      refine g_aload_n F (q := 42) (dk dX1_errorAt 26 rfl) rfl rfl 3 rfl ?_
      refine g_getf F (q := 45) h225 rfl inX1 (by omega) (j := 1) (by decide) tq_191 rfl rfl (dk dX1_errorAt 27 rfl) rfl ?_
      refine g_iload_n F (q := 46) (dk dX1_errorAt 28 rfl) rfl rfl 1 rfl ?_
      refine g_iald F (q := 47) ((c - 1)) hrd (by omega) rfl (by omega) (by decide) (dk dX1_errorAt 29 rfl) rfl ?_
      refine g_aload_n F (q := 48) (dk dX1_errorAt 30 rfl) rfl rfl 3 rfl ?_
      refine g_getf F (q := 51) h225 rfl inX1 (by omega) (j := 1) (by decide) tq_191 rfl rfl (dk dX1_errorAt 31 rfl) rfl ?_
      refine g_iload_n F (q := 52) (dk dX1_errorAt 32 rfl) rfl rfl 2 rfl ?_
      refine g_iald F (q := 53) ((fI rd y (c - 2))) hrd (by omega) rfl (by omega) (by decide) (dk dX1_errorAt 33 rfl) rfl ?_
      refine g_isub F (q := 54) (dk dX1_errorAt 34 rfl) rfl ?_
      refine g_i2l F (q := 55) (dk dX1_errorAt 35 rfl) rfl ?_
      refine g_lstore F (q := 57) (lv' := [(6, .long ((rd ((c - 1))) - (rd ((fI rd y (c - 2))))).toInt64), (4, .long (1000 * (er ((fI rd y (c - 2)))).toInt64)), (3, .int (nI ((c - 1)))), (2, .int (nI ((fI rd y (c - 2))))), (0, .ref (ad 225)), (1, .int y)]) (dk dX1_errorAt 36 rfl) rfl (Nat.le_of_ble_eq_true rfl) rfl ?_
      refine g_lload F (q := 59) (dk dX1_errorAt 37 rfl) rfl 0 rfl ?_
      refine g_lconst F (q := 60) (v := 0) (dk dX1_errorAt 38 rfl) rfl (by decide) ?_
      refine g_lcmp_ne F (q := 64) (tgt := 67) (dk dX1_errorAt 39 rfl) (dk dX1_errorAt 40 rfl) (by decide) rfl (fun c60 => absurd c60 (fun h => h (by rw [show fI rd y (c - 2) = c - 1 by omega, Int32.sub_self]; rfl))) (fun c60 => ?_)
      refine g_lload F (q := 66) (dk dX1_errorAt 41 rfl) rfl 1 rfl ?_
      refine hret (1000 * (er ((fI rd y (c - 2)))).toInt64) E _ _ (dk dX1_errorAt 42 rfl) ?_
      exact ⟨(by unfold eA; rw [if_pos (by omega), if_neg nc4, show fI rd y (c - 2) = 0 by omega]), rfl⟩
    · have hdf := df_nz (hb (fI rd y (c - 2)) (by omega)) (hb (fI rd y (c - 2) + 1) (by omega)) (hmo (fI rd y (c - 2)) (by omega))
      refine g_iload_n F (q := 16) (dk dX1_errorAt 9 rfl) rfl rfl 0 rfl ?_
      refine g_iconst F (q := 17) (v := 1) (dk dX1_errorAt 10 rfl) rfl (by decide) ?_
      refine g_iadd F (q := 18) (dk dX1_errorAt 11 rfl) rfl ?_
      refine g_sti (y := (nI ((fI rd y (c - 2) + 1)))) (nI_1 _) ?_
      refine g_aload_n F (q := 19) (dk dX1_errorAt 12 rfl) rfl rfl 1 rfl ?_
      refine g_getf F (q := 22) h225 rfl inX1 (by omega) (j := 3) (by decide) tq_195 rfl rfl (dk dX1_errorAt 13 rfl) rfl ?_
      refine g_iconst F (q := 23) (v := 1) (dk dX1_errorAt 14 rfl) rfl (by decide) ?_
      refine g_isub F (q := 24) (dk dX1_errorAt 15 rfl) rfl ?_
      refine g_sti (y := (nI ((c - 1)))) (nI_sub1 (by omega)) ?_
      refine g_mmin F (q := 27) tq_339 tq_340 tq_17 tq_341 (by decide) (Nat.le_of_ble_eq_true rfl) ⟨Nat.le_refl _, Nat.le_refl _⟩ (dk dX1_errorAt 16 rfl) rfl ?_
      refine g_sti (y := (nI ((fI rd y (c - 2) + 1)))) (if_neg (fun h => absurd ((nI_ltI (a := c - 1) (b := fI rd y (c - 2) + 1) (by omega) (by omega)).mp h) (by omega))) ?_
      refine g_istore_n F (q := 28) (lv' := [(3, .int (nI ((fI rd y (c - 2) + 1)))), (2, .int (nI ((fI rd y (c - 2))))), (0, .ref (ad 225)), (1, .int y)]) (dk dX1_errorAt 17 rfl) rfl rfl (Nat.le_of_ble_eq_true rfl) rfl ?_
      refine g_ldc2 F (q := 31) (v := 1000) (dk dX1_errorAt 18 rfl) rfl tq_330 ?_
      refine g_aload_n F (q := 32) (dk dX1_errorAt 19 rfl) rfl rfl 2 rfl ?_
      refine g_getf F (q := 35) h225 rfl inX1 (by omega) (j := 2) (by decide) tq_193 rfl rfl (dk dX1_errorAt 20 rfl) rfl ?_
      refine g_iload_n F (q := 36) (dk dX1_errorAt 21 rfl) rfl rfl 1 rfl ?_
      refine g_iald F (q := 37) ((fI rd y (c - 2))) her (by omega) rfl (by omega) (by decide) (dk dX1_errorAt 22 rfl) rfl ?_
      refine g_i2l F (q := 38) (dk dX1_errorAt 23 rfl) rfl ?_
      refine g_lmul F (q := 39) (dk dX1_errorAt 24 rfl) rfl ?_
      refine g_lstore F (q := 41) (lv' := [(4, .long (1000 * (er ((fI rd y (c - 2)))).toInt64)), (3, .int (nI ((fI rd y (c - 2) + 1)))), (2, .int (nI ((fI rd y (c - 2))))), (0, .ref (ad 225)), (1, .int y)]) (dk dX1_errorAt 25 rfl) rfl (Nat.le_of_ble_eq_true rfl) rfl ?_
      refine g_aload_n F (q := 42) (dk dX1_errorAt 26 rfl) rfl rfl 3 rfl ?_
      refine g_getf F (q := 45) h225 rfl inX1 (by omega) (j := 1) (by decide) tq_191 rfl rfl (dk dX1_errorAt 27 rfl) rfl ?_
      refine g_iload_n F (q := 46) (dk dX1_errorAt 28 rfl) rfl rfl 1 rfl ?_
      refine g_iald F (q := 47) ((fI rd y (c - 2) + 1)) hrd (by omega) rfl (by omega) (by decide) (dk dX1_errorAt 29 rfl) rfl ?_
      refine g_aload_n F (q := 48) (dk dX1_errorAt 30 rfl) rfl rfl 3 rfl ?_
      refine g_getf F (q := 51) h225 rfl inX1 (by omega) (j := 1) (by decide) tq_191 rfl rfl (dk dX1_errorAt 31 rfl) rfl ?_
      refine g_iload_n F (q := 52) (dk dX1_errorAt 32 rfl) rfl rfl 2 rfl ?_
      refine g_iald F (q := 53) ((fI rd y (c - 2))) hrd (by omega) rfl (by omega) (by decide) (dk dX1_errorAt 33 rfl) rfl ?_
      refine g_isub F (q := 54) (dk dX1_errorAt 34 rfl) rfl ?_
      refine g_i2l F (q := 55) (dk dX1_errorAt 35 rfl) rfl ?_
      refine g_lstore F (q := 57) (lv' := [(6, .long ((rd ((fI rd y (c - 2) + 1))) - (rd ((fI rd y (c - 2))))).toInt64), (4, .long (1000 * (er ((fI rd y (c - 2)))).toInt64)), (3, .int (nI ((fI rd y (c - 2) + 1)))), (2, .int (nI ((fI rd y (c - 2))))), (0, .ref (ad 225)), (1, .int y)]) (dk dX1_errorAt 36 rfl) rfl (Nat.le_of_ble_eq_true rfl) rfl ?_
      refine g_lload F (q := 59) (dk dX1_errorAt 37 rfl) rfl 0 rfl ?_
      refine g_lconst F (q := 60) (v := 0) (dk dX1_errorAt 38 rfl) rfl (by decide) ?_
      refine g_lcmp_ne F (q := 64) (tgt := 67) (dk dX1_errorAt 39 rfl) (dk dX1_errorAt 40 rfl) (by decide) rfl (fun c60 => ?_) (fun c60 => absurd c60 hdf.2)
      refine g_ldc2 F (q := 70) (v := 1000) (dk dX1_errorAt 43 rfl) rfl tq_330 ?_
      refine g_aload_n F (q := 71) (dk dX1_errorAt 44 rfl) rfl rfl 4 rfl ?_
      refine g_getf F (q := 74) h225 rfl inX1 (by omega) (j := 2) (by decide) tq_193 rfl rfl (dk dX1_errorAt 45 rfl) rfl ?_
      refine g_iload_n F (q := 75) (dk dX1_errorAt 46 rfl) rfl rfl 2 rfl ?_
      refine g_iald F (q := 76) ((fI rd y (c - 2) + 1)) her (by omega) rfl (by omega) (by decide) (dk dX1_errorAt 47 rfl) rfl ?_
      refine g_aload_n F (q := 77) (dk dX1_errorAt 48 rfl) rfl rfl 4 rfl ?_
      refine g_getf F (q := 80) h225 rfl inX1 (by omega) (j := 2) (by decide) tq_193 rfl rfl (dk dX1_errorAt 49 rfl) rfl ?_
      refine g_iload_n F (q := 81) (dk dX1_errorAt 50 rfl) rfl rfl 3 rfl ?_
      refine g_iald F (q := 82) ((fI rd y (c - 2))) her (by omega) rfl (by omega) (by decide) (dk dX1_errorAt 51 rfl) rfl ?_
      refine g_isub F (q := 83) (dk dX1_errorAt 52 rfl) rfl ?_
      refine g_i2l F (q := 84) (dk dX1_errorAt 53 rfl) rfl ?_
      refine g_lmul F (q := 85) (dk dX1_errorAt 54 rfl) rfl ?_
      refine g_lstore F (q := 87) (lv' := [(8, .long (1000 * ((er ((fI rd y (c - 2) + 1))) - (er ((fI rd y (c - 2))))).toInt64)), (6, .long ((rd ((fI rd y (c - 2) + 1))) - (rd ((fI rd y (c - 2))))).toInt64), (4, .long (1000 * (er ((fI rd y (c - 2)))).toInt64)), (3, .int (nI ((fI rd y (c - 2) + 1)))), (2, .int (nI ((fI rd y (c - 2))))), (0, .ref (ad 225)), (1, .int y)]) (dk dX1_errorAt 55 rfl) rfl (Nat.le_of_ble_eq_true rfl) rfl ?_
      refine g_lload F (q := 89) (dk dX1_errorAt 56 rfl) rfl 2 rfl ?_
      refine g_lload F (q := 91) (dk dX1_errorAt 57 rfl) rfl 0 rfl ?_
      refine g_iload_n F (q := 92) (dk dX1_errorAt 58 rfl) rfl rfl 6 rfl ?_
      refine g_aload_n F (q := 93) (dk dX1_errorAt 59 rfl) rfl rfl 5 rfl ?_
      refine g_getf F (q := 96) h225 rfl inX1 (by omega) (j := 1) (by decide) tq_191 rfl rfl (dk dX1_errorAt 60 rfl) rfl ?_
      refine g_iload_n F (q := 97) (dk dX1_errorAt 61 rfl) rfl rfl 4 rfl ?_
      refine g_iald F (q := 98) ((fI rd y (c - 2))) hrd (by omega) rfl (by omega) (by decide) (dk dX1_errorAt 62 rfl) rfl ?_
      refine g_isub F (q := 99) (dk dX1_errorAt 63 rfl) rfl ?_
      refine g_i2l F (q := 100) (dk dX1_errorAt 64 rfl) rfl ?_
      refine g_lmul F (q := 101) (dk dX1_errorAt 65 rfl) rfl ?_
      refine g_lload F (q := 103) (dk dX1_errorAt 66 rfl) rfl 1 rfl ?_
      refine g_callSL F (q := 106) (av := [.long ((1000 * ((er ((fI rd y (c - 2) + 1))) - (er ((fI rd y (c - 2))))).toInt64) * (y - (rd ((fI rd y (c - 2))))).toInt64), .long ((rd ((fI rd y (c - 2) + 1))) - (rd ((fI rd y (c - 2))))).toInt64]) (st := [.long (1000 * (er ((fI rd y (c - 2)))).toInt64)]) (c_J9_floorDiv_f86c9 (a := ((1000 * ((er ((fI rd y (c - 2) + 1))) - (er ((fI rd y (c - 2))))).toInt64) * (y - (rd ((fI rd y (c - 2))))).toInt64)) (b := ((rd ((fI rd y (c - 2) + 1))) - (rd ((fI rd y (c - 2))))).toInt64) hdf.2) ks_J9_floorDiv_f86c9 tq_342 ⟨rfl, rfl⟩ (by decide) ⟨Nat.le_refl _, Nat.le_refl _⟩ rfl rfl (Nat.le_of_ble_eq_true rfl) (dk dX1_errorAt 67 rfl) rfl (fun r103 E103 hp103 => ?_)
      obtain ⟨rfl, rfl⟩ := hp103
      refine g_ladd F (q := 107) (dk dX1_errorAt 68 rfl) rfl ?_
      refine hret ((1000 * (er ((fI rd y (c - 2)))).toInt64) + (fdl ((1000 * ((er ((fI rd y (c - 2) + 1))) - (er ((fI rd y (c - 2))))).toInt64) * (y - (rd ((fI rd y (c - 2))))).toInt64) (((rd ((fI rd y (c - 2) + 1))) - (rd ((fI rd y (c - 2))))).toInt64))) E _ _ (dk dX1_errorAt 69 rfl) ?_
      exact ⟨(by unfold eA; rw [if_neg (by omega), fdl_dn (by rw [Int32.toInt_toInt64, hdf.1]; have := Int32.lt_iff_toInt_lt.mp (hmo (fI rd y (c - 2)) (by omega)); omega)]), rfl⟩
  · have nc4 : c = 0 := (nI_eq (a := c) (b := 0) (by omega) (by omega)).mp c4
    refine g_lconst F (q := 8) (v := 0) (dk dX1_errorAt 3 rfl) rfl (by decide) ?_
    refine hret 0 E _ _ (dk dX1_errorAt 4 rfl) ?_
    exact ⟨(by unfold eA; rw [if_pos (by omega), if_pos nc4]), rfl⟩
theorem kv_X1_errorAt : KV yX1_errorAt "ThumpEars$Marks" cX1_errorAt 10 (some .long) 1 := ⟨tq_332, tq_333, tq_14, tq_334, by decide +kernel⟩
abbrev rm_X1_rightTime : Room := { frames := 2, cells := 0, slots := 0, locals := 54 }
set_option maxHeartbeats 4000000 in
set_option maxRecDepth 100000 in
theorem c_X1_rightTime {l : Launch} {D : va_G} {cA : Nat → ClassId} {ad : Nat → Nat} {E : Nat → va_E} {c : Nat} {y : Int32} {rd er : Nat → Int32}  (h225 : E 225 = .inr (1, [.ref (ad 226), .ref (ad 227), .ref (ad 228), .int (nI c)])) (hrd : E 227 = .inl (cA 0, 10, .inl rd)) (her : E 228 = .inl (cA 0, 10, .inl er))  (hc : c ≤ 10) (hmo : ∀ j, j + 1 < c → rd j < rd (j + 1)) (hb : ∀ j, j < c → -2000 ≤ (rd j).toInt ∧ (rd j).toInt ≤ 130000) : CtL l D cA yX1_rightTime cX1_rightTime 2 rm_X1_rightTime 235 ad E [.ref (ad 225), .int y] (fun x E' => (1000 * y.toInt64 - eA c rd er y) = x ∧ E = E') := by
  refine CtL.of (by decide +kernel) (Nat.le_of_ble_eq_true rfl) (fun X F hret => ?_)
  have F : Fr "ThumpEars$Marks" cX1_rightTime 2 D cA X := F
  refine (show GG rm_X1_rightTime 2 l D X 0 0 235 ad E 0 [(0, .ref (ad 225)), (1, .int y)] [] from ?_)
  refine g_ldc2 F (q := 3) (v := 1000) (dk dX1_rightTime 0 rfl) rfl tq_330 ?_
  refine g_iload_n F (q := 4) (dk dX1_rightTime 1 rfl) rfl rfl 1 rfl ?_
  refine g_i2l F (q := 5) (dk dX1_rightTime 2 rfl) rfl ?_
  refine g_lmul F (q := 6) (dk dX1_rightTime 3 rfl) rfl ?_
  refine g_aload_n F (q := 7) (dk dX1_rightTime 4 rfl) rfl rfl 0 rfl ?_
  refine g_iload_n F (q := 8) (dk dX1_rightTime 5 rfl) rfl rfl 1 rfl ?_
  refine g_callVL F (q := 11) (av := [.int y]) (st := [.long (1000 * y.toInt64)]) (c_X1_errorAt (y := y) h225 hrd her (by first | assumption | decide | omega) (by first | assumption | decide | omega) (by first | assumption | decide | omega)) kv_X1_errorAt tq_331 h225 rfl (by omega) ⟨rfl, rfl⟩ (by decide) ⟨Nat.le_refl _, Nat.le_refl _⟩ rfl rfl (Nat.le_of_ble_eq_true rfl) (dk dX1_rightTime 6 rfl) rfl (fun r8 E8 hp8 => ?_)
  obtain ⟨rfl, rfl⟩ := hp8
  refine g_lsub F (q := 12) (dk dX1_rightTime 7 rfl) rfl ?_
  refine hret ((1000 * y.toInt64) - (eA c rd er y)) E _ _ (dk dX1_rightTime 8 rfl) ?_
  exact ⟨rfl, rfl⟩
theorem kv_X1_rightTime : KV yX1_rightTime "ThumpEars$Marks" cX1_rightTime 2 (some .long) 1 := ⟨tq_327, tq_328, tq_14, tq_329, by decide +kernel⟩
