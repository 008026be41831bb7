abbrev rm_X4_beginning : Room := { frames := 1, cells := 0, slots := 0, locals := 24 }
set_option maxHeartbeats 4000000 in
set_option maxRecDepth 100000 in
theorem c_X4_beginning {l : Launch} {D : va_G} {cA : Nat → ClassId} {ad : Nat → Nat} {E : Nat → va_E} {n : Nat} {pp ls gr : Int64} {px : Int32} {pl : Nat → Int32} {rt : Nat → Int64} {i : Nat}  (h229 : E 229 = .inr (4, [.ref (ad 230), .ref (ad 231), .ref (ad 232), .int (nI n), .long pp, .int px, .long ls, .long gr])) (hspl : E 231 = .inl (cA 0, 10, .inl pl)) (hsrt : E 232 = .inl (cA 1, 10, .inr (.inl rt)))  (hn : n ≤ 10) (hi : i < n) : CtL l D cA yX4_beginning cX4_beginning 2 rm_X4_beginning 235 ad E [.ref (ad 229), .int (nI i)] (fun x E' => (bgC rt pl pp px i) = x ∧ E = E') := by
  refine CtL.of (by decide +kernel) (Nat.le_of_ble_eq_true rfl) (fun X F hret => ?_)
  have F : Fr "ThumpEars$Source" cX4_beginning 2 D cA X := F
  refine (show GG rm_X4_beginning 2 l D X 0 0 235 ad E 0 [(0, .ref (ad 229)), (1, .int (nI i))] [] from ?_)
  refine g_aload_n F (q := 1) (dk dX4_beginning 0 rfl) rfl rfl 0 rfl ?_
  refine g_getf F (q := 4) h229 rfl inX4 (by omega) (j := 2) (by decide) tq_214 rfl rfl (dk dX4_beginning 1 rfl) rfl ?_
  refine g_iload_n F (q := 5) (dk dX4_beginning 2 rfl) rfl rfl 1 rfl ?_
  refine g_lald F (q := 6) i hsrt (by omega) rfl (by omega) (by decide) (dk dX4_beginning 3 rfl) rfl ?_
  refine g_aload_n F (q := 7) (dk dX4_beginning 4 rfl) rfl rfl 0 rfl ?_
  refine g_getf F (q := 10) h229 rfl inX4 (by omega) (j := 4) (by decide) tq_217 rfl rfl (dk dX4_beginning 5 rfl) rfl ?_
  refine g_aload_n F (q := 11) (dk dX4_beginning 6 rfl) rfl rfl 0 rfl ?_
  refine g_getf F (q := 14) h229 rfl inX4 (by omega) (j := 5) (by decide) tq_218 rfl rfl (dk dX4_beginning 7 rfl) rfl ?_
  refine g_aload_n F (q := 15) (dk dX4_beginning 8 rfl) rfl rfl 0 rfl ?_
  refine g_getf F (q := 18) h229 rfl inX4 (by omega) (j := 1) (by decide) tq_213 rfl rfl (dk dX4_beginning 9 rfl) rfl ?_
  refine g_iload_n F (q := 19) (dk dX4_beginning 10 rfl) rfl rfl 1 rfl ?_
  refine g_iald F (q := 20) i hspl (by omega) rfl (by omega) (by decide) (dk dX4_beginning 11 rfl) rfl ?_
  refine g_isub F (q := 21) (dk dX4_beginning 12 rfl) rfl ?_
  refine g_mabs F (q := 24) tq_357 tq_324 tq_17 tq_325 (by decide) (Nat.le_of_ble_eq_true rfl) ⟨Nat.le_refl _, Nat.le_refl _⟩ (dk dX4_beginning 13 rfl) rfl ?_
  refine g_i2l F (q := 25) (dk dX4_beginning 14 rfl) rfl ?_
  refine g_lmul F (q := 26) (dk dX4_beginning 15 rfl) rfl ?_
  refine g_lsub F (q := 27) (dk dX4_beginning 16 rfl) rfl ?_
  refine hret ((rt i) - (pp * (if 0 ≤ (px - (pl i)) then (px - (pl i)) else 0 - (px - (pl i))).toInt64)) E _ _ (dk dX4_beginning 17 rfl) ?_
  exact ⟨rfl, rfl⟩
theorem kv_X4_beginning : KV yX4_beginning "ThumpEars$Source" cX4_beginning 2 (some .long) 1 := ⟨tq_354, tq_355, tq_15, tq_356, by decide +kernel⟩
abbrev rm_X4_lookFrom : Room := { frames := 2, cells := 0, slots := 0, locals := 45 }
set_option maxHeartbeats 4000000 in
set_option maxRecDepth 100000 in
theorem c_X4_lookFrom {l : Launch} {D : va_G} {cA : Nat → ClassId} {ad : Nat → Nat} {E : Nat → va_E} {n : Nat} {pp ls gr : Int64} {px : Int32} {pl : Nat → Int32} {rt : Nat → Int64} {y : Int32}  (h229 : E 229 = .inr (4, [.ref (ad 230), .ref (ad 231), .ref (ad 232), .int (nI n), .long pp, .int px, .long ls, .long gr])) (hspl : E 231 = .inl (cA 0, 10, .inl pl)) (hsrt : E 232 = .inl (cA 1, 10, .inr (.inl rt)))  (hn : n ≤ 10) (h0 : 0 < n) : CtV l D cA yX4_lookFrom cX4_lookFrom 5 rm_X4_lookFrom 235 ad E [.ref (ad 229), .int y] (fun E' => E' 229 = .inr (4, [.ref (ad 230), .ref (ad 231), .ref (ad 232), .int (nI n), .long pp, .int y, .long (mnF (bgC rt pl pp y) (n - 1)), .long (mxF (bgC rt pl pp y) (n - 1))]) ∧ ∀ j, (j ≠ 229) → E' j = E j) := by
  refine CtV.of (by decide +kernel) (Nat.le_of_ble_eq_true rfl) (fun X F hret => ?_)
  have F : Fr "ThumpEars$Source" cX4_lookFrom 5 D cA X := F
  refine (show GG rm_X4_lookFrom 5 l D X 0 0 235 ad E 0 [(0, .ref (ad 229)), (1, .int y)] [] from ?_)
  refine g_aload_n F (q := 1) (dk dX4_lookFrom 0 rfl) rfl rfl 0 rfl ?_
  refine g_iload_n F (q := 2) (dk dX4_lookFrom 1 rfl) rfl rfl 1 rfl ?_
  refine g_putf F (q := 5) (ty := .int) h229 rfl inX4 tyX4 tyX4_ok nmX4 (by omega) (j := 5) (by decide) tq_218 rfl rfl (by decide +kernel) rfl rfl (Nat.le_of_ble_eq_true rfl) (dk dX4_lookFrom 2 rfl) rfl (fun E2 hE2 hO2 => ?_)
  have hE2 : E2 229 = .inr (4, [.ref (ad 230), .ref (ad 231), .ref (ad 232), .int (nI n), .long pp, .int y, .long ls, .long gr]) := hE2
  refine g_aload_n F (q := 6) (dk dX4_lookFrom 3 rfl) rfl rfl 0 rfl ?_
  refine g_aload_n F (q := 7) (dk dX4_lookFrom 4 rfl) rfl rfl 0 rfl ?_
  refine g_iconst F (q := 8) (v := 0) (dk dX4_lookFrom 5 rfl) rfl (by decide) ?_
  have hc1 := (hO2 231 (by omega)).trans hspl
  have hc2 := (hO2 232 (by omega)).trans hsrt
  refine g_callVL F (q := 11) (av := [.int 0]) (st := [.ref (ad 229)]) (c_X4_beginning (i := 0) hE2 hc1 hc2 (by first | assumption | decide | omega) (by first | assumption | decide | omega)) kv_X4_beginning tq_353 hE2 rfl (by omega) ⟨rfl, rfl⟩ (by decide) ⟨Nat.le_refl _, Nat.le_refl _⟩ rfl rfl (Nat.le_of_ble_eq_true rfl) (dk dX4_lookFrom 6 rfl) rfl (fun r8 E8 hp8 => ?_)
  obtain ⟨rfl, rfl⟩ := hp8
  refine g_putf F (q := 14) (ty := .long) hE2 rfl inX4 tyX4 tyX4_ok nmX4 (by omega) (j := 6) (by decide) tq_220 rfl rfl (by decide +kernel) rfl rfl (Nat.le_of_ble_eq_true rfl) (dk dX4_lookFrom 7 rfl) rfl (fun E11 hE11 hO11 => ?_)
  have hE11 : E11 229 = .inr (4, [.ref (ad 230), .ref (ad 231), .ref (ad 232), .int (nI n), .long pp, .int y, .long (bgC rt pl pp y 0), .long gr]) := hE11
  refine g_aload_n F (q := 15) (dk dX4_lookFrom 8 rfl) rfl rfl 0 rfl ?_
  refine g_aload_n F (q := 16) (dk dX4_lookFrom 9 rfl) rfl rfl 0 rfl ?_
  refine g_getf F (q := 19) hE11 rfl inX4 (by omega) (j := 6) (by decide) tq_220 rfl rfl (dk dX4_lookFrom 10 rfl) rfl ?_
  refine g_putf F (q := 22) (ty := .long) hE11 rfl inX4 tyX4 tyX4_ok nmX4 (by omega) (j := 7) (by decide) tq_221 rfl rfl (by decide +kernel) rfl rfl (Nat.le_of_ble_eq_true rfl) (dk dX4_lookFrom 11 rfl) rfl (fun E19 hE19 hO19 => ?_)
  have hE19 : E19 229 = .inr (4, [.ref (ad 230), .ref (ad 231), .ref (ad 232), .int (nI n), .long pp, .int y, .long (bgC rt pl pp y 0), .long (bgC rt pl pp y 0)]) := hE19
  refine g_iconst F (q := 23) (v := 1) (dk dX4_lookFrom 12 rfl) rfl (by decide) ?_
  refine g_istore_n F (q := 24) (lv' := [(2, .int 1), (0, .ref (ad 229)), (1, .int y)]) (dk dX4_lookFrom 13 rfl) rfl rfl (Nat.le_of_ble_eq_true rfl) rfl ?_
  have K24 : ∀ (fu : Nat) (m : Nat) (E1 : Nat → va_E), 10 - m < fu → (h229 : E1 229 = .inr (4, [.ref (ad 230), .ref (ad 231), .ref (ad 232), .int (nI n), .long pp, .int y, .long (mnF (bgC rt pl pp y) m), .long (mxF (bgC rt pl pp y) m)])) → (hfr24 : ∀ j, (j ≠ 229) → E1 j = E19 j) → (hm : m < n) → GG rm_X4_lookFrom 5 l D X 0 0 235 ad E1 24 [(0, .ref (ad 229)), (1, .int y), (2, .int (nI ((m + 1))))] [] := by
    intro fu
    induction fu with
    | zero => intro m E1 hfu_; exact absurd hfu_ (Nat.not_lt_zero _)
    | succ fu ih =>
      intro m E1 hfu_ h229 hfr24 hm
      refine g_iload_n F (q := 25) (dk dX4_lookFrom 14 rfl) rfl rfl 2 rfl ?_
      refine g_aload_n F (q := 26) (dk dX4_lookFrom 15 rfl) rfl rfl 0 rfl ?_
      refine g_getf F (q := 29) h229 rfl inX4 (by omega) (j := 3) (by decide) tq_215 rfl rfl (dk dX4_lookFrom 16 rfl) rfl ?_
      refine g_icmp_ge F (q := 32) (tgt := 68) (dk dX4_lookFrom 17 rfl) (by decide) rfl (fun c29 => ?_) (fun c29 => ?_)
      · have nc29 : n ≤ (m + 1) := (nI_leI (a := n) (b := (m + 1)) (by omega) (by omega)).mp c29
        refine hret E1 _ _ (dk dX4_lookFrom 36 rfl) ?_
        have hmn : m = n - 1 := by omega
        exact ⟨(by rw [← hmn]; exact h229), (fun j hj => ((((hfr24 j (by omega)).trans (hO19 j (by omega))).trans (hO11 j (by omega))).trans (hO2 j (by omega))))⟩
      · have nc29 : ¬ n ≤ (m + 1) := fun h => c29 ((nI_leI (a := n) (b := (m + 1)) (by omega) (by omega)).mpr h)
        refine g_aload_n F (q := 33) (dk dX4_lookFrom 18 rfl) rfl rfl 0 rfl ?_
        refine g_iload_n F (q := 34) (dk dX4_lookFrom 19 rfl) rfl rfl 2 rfl ?_
        have hc3 := (hO11 231 (by omega)).trans hc1
        have hc4 := (hO19 231 (by omega)).trans hc3
        have hc5 := (hfr24 231 (by omega)).trans hc4
        have hc6 := (hO11 232 (by omega)).trans hc2
        have hc7 := (hO19 232 (by omega)).trans hc6
        have hc8 := (hfr24 232 (by omega)).trans hc7
        refine g_callVL F (q := 37) (av := [.int (nI ((m + 1)))]) (st := []) (c_X4_beginning (i := (m + 1)) h229 hc5 hc8 (by first | assumption | decide | omega) (by first | assumption | decide | omega)) kv_X4_beginning tq_353 h229 rfl (by omega) ⟨rfl, rfl⟩ (by decide) ⟨Nat.le_refl _, Nat.le_refl _⟩ rfl rfl (Nat.le_of_ble_eq_true rfl) (dk dX4_lookFrom 20 rfl) rfl (fun r34 E34 hp34 => ?_)
        obtain ⟨rfl, rfl⟩ := hp34
        refine g_lstore_n F (q := 38) (lv' := [(3, .long (bgC rt pl pp y (m + 1))), (0, .ref (ad 229)), (1, .int y), (2, .int (nI ((m + 1))))]) (dk dX4_lookFrom 21 rfl) rfl rfl (Nat.le_of_ble_eq_true rfl) rfl ?_
        refine g_aload_n F (q := 39) (dk dX4_lookFrom 22 rfl) rfl rfl 1 rfl ?_
        refine g_aload_n F (q := 40) (dk dX4_lookFrom 23 rfl) rfl rfl 1 rfl ?_
        refine g_getf F (q := 43) h229 rfl inX4 (by omega) (j := 6) (by decide) tq_220 rfl rfl (dk dX4_lookFrom 24 rfl) rfl ?_
        refine g_lload_n F (q := 44) (dk dX4_lookFrom 25 rfl) rfl rfl 0 rfl ?_
        refine g_mminl F (q := 47) tq_358 tq_359 tq_17 tq_360 (by decide) (Nat.le_of_ble_eq_true rfl) ⟨Nat.le_refl _, Nat.le_refl _⟩ (dk dX4_lookFrom 26 rfl) rfl ?_
        refine g_putf F (q := 50) (ty := .long) h229 rfl inX4 tyX4 tyX4_ok nmX4 (by omega) (j := 6) (by decide) tq_220 rfl rfl (by decide +kernel) rfl rfl (Nat.le_of_ble_eq_true rfl) (dk dX4_lookFrom 27 rfl) rfl (fun E47 hE47 hO47 => ?_)
        have hE47 : E47 229 = .inr (4, [.ref (ad 230), .ref (ad 231), .ref (ad 232), .int (nI n), .long pp, .int y, .long (if (bgC rt pl pp y (m + 1)) < (mnF (bgC rt pl pp y) m) then (bgC rt pl pp y (m + 1)) else (mnF (bgC rt pl pp y) m)), .long (mxF (bgC rt pl pp y) m)]) := hE47
        refine g_aload_n F (q := 51) (dk dX4_lookFrom 28 rfl) rfl rfl 1 rfl ?_
        refine g_aload_n F (q := 52) (dk dX4_lookFrom 29 rfl) rfl rfl 1 rfl ?_
        refine g_getf F (q := 55) hE47 rfl inX4 (by omega) (j := 7) (by decide) tq_221 rfl rfl (dk dX4_lookFrom 30 rfl) rfl ?_
        refine g_lload_n F (q := 56) (dk dX4_lookFrom 31 rfl) rfl rfl 0 rfl ?_
        refine g_mmaxl F (q := 59) tq_361 tq_362 tq_17 tq_363 (by decide) (Nat.le_of_ble_eq_true rfl) ⟨Nat.le_refl _, Nat.le_refl _⟩ (dk dX4_lookFrom 32 rfl) rfl ?_
        refine g_putf F (q := 62) (ty := .long) hE47 rfl inX4 tyX4 tyX4_ok nmX4 (by omega) (j := 7) (by decide) tq_221 rfl rfl (by decide +kernel) rfl rfl (Nat.le_of_ble_eq_true rfl) (dk dX4_lookFrom 33 rfl) rfl (fun E59 hE59 hO59 => ?_)
        have hE59 : E59 229 = .inr (4, [.ref (ad 230), .ref (ad 231), .ref (ad 232), .int (nI n), .long pp, .int y, .long (if (bgC rt pl pp y (m + 1)) < (mnF (bgC rt pl pp y) m) then (bgC rt pl pp y (m + 1)) else (mnF (bgC rt pl pp y) m)), .long (if (bgC rt pl pp y (m + 1)) < (mxF (bgC rt pl pp y) m) then (mxF (bgC rt pl pp y) m) else (bgC rt pl pp y (m + 1)))]) := hE59
        refine g_iinc F (q := 65) (v := (nI (((m + 1) + 1)))) (lv' := [(2, .int (nI (((m + 1) + 1)))), (3, .long (bgC rt pl pp y (m + 1))), (0, .ref (ad 229)), (1, .int y)]) (dk dX4_lookFrom 34 rfl) rfl 3 rfl (nI_1 _) (Nat.le_of_ble_eq_true rfl) rfl ?_
        refine g_goto F (tgt := 24) (dk dX4_lookFrom 35 rfl) (by decide) ?_
        refine g_lv (lv' := [(0, .ref (ad 229)), (1, .int y), (2, .int (nI (((m + 1) + 1))))]) [2, 3, 0] rfl ?_
        exact ih (m + 1) E59 (by omega) (by rw [mnF_s, mxF_s]; exact hE59) (fun j hj => (((hO59 j (by omega)).trans (hO47 j (by omega))).trans (hfr24 j (by omega)))) (by omega)
  refine g_lv (lv' := [(0, .ref (ad 229)), (1, .int y), (2, .int 1)]) [1, 2, 0] rfl ?_
  exact K24 _ 0 E19 (Nat.lt_succ_self _) hE19 (fun j _ => rfl) (by omega)
theorem kv_X4_lookFrom : KV yX4_lookFrom "ThumpEars$Source" cX4_lookFrom 5 (none) 1 := ⟨tq_350, tq_351, tq_15, tq_352, by decide +kernel⟩
abbrev rm_X4_width : Room := { frames := 0, cells := 0, slots := 0, locals := 0 }
set_option maxHeartbeats 4000000 in
set_option maxRecDepth 100000 in
theorem c_X4_width {l : Launch} {D : va_G} {cA : Nat → ClassId} {ad : Nat → Nat} {E : Nat → va_E} {s0 px : Int32} {pp ls gr : Int64}  (h229 : E 229 = .inr (4, [.ref (ad 230), .ref (ad 231), .ref (ad 232), .int s0, .long pp, .int px, .long ls, .long gr]))   : CtL l D cA yX4_width cX4_width 1 rm_X4_width 235 ad E [.ref (ad 229)] (fun x E' => (gr - ls) = x ∧ E = E') := by
  refine CtL.of (by decide +kernel) (Nat.le_of_ble_eq_true rfl) (fun X F hret => ?_)
  have F : Fr "ThumpEars$Source" cX4_width 1 D cA X := F
  refine (show GG rm_X4_width 1 l D X 0 0 235 ad E 0 [(0, .ref (ad 229))] [] from ?_)
  refine g_aload_n F (q := 1) (dk dX4_width 0 rfl) rfl rfl 0 rfl ?_
  refine g_getf F (q := 4) h229 rfl inX4 (by omega) (j := 7) (by decide) tq_221 rfl rfl (dk dX4_width 1 rfl) rfl ?_
  refine g_aload_n F (q := 5) (dk dX4_width 2 rfl) rfl rfl 0 rfl ?_
  refine g_getf F (q := 8) h229 rfl inX4 (by omega) (j := 6) (by decide) tq_220 rfl rfl (dk dX4_width 3 rfl) rfl ?_
  refine g_lsub F (q := 9) (dk dX4_width 4 rfl) rfl ?_
  refine hret (gr - ls) E _ _ (dk dX4_width 5 rfl) ?_
  exact ⟨rfl, rfl⟩
theorem kv_X4_width : KV yX4_width "ThumpEars$Source" cX4_width 1 (some .long) 0 := ⟨tq_365, tq_366, tq_15, tq_367, by decide +kernel⟩
abbrev rm_X4_time : Room := { frames := 1, cells := 0, slots := 0, locals := 25 }
set_option maxHeartbeats 4000000 in
set_option maxRecDepth 100000 in
theorem c_X4_time {l : Launch} {D : va_G} {cA : Nat → ClassId} {ad : Nat → Nat} {E : Nat → va_E} {s0 px : Int32} {pp ls gr : Int64}  (h229 : E 229 = .inr (4, [.ref (ad 230), .ref (ad 231), .ref (ad 232), .int s0, .long pp, .int px, .long ls, .long gr]))   : CtL l D cA yX4_time cX4_time 1 rm_X4_time 235 ad E [.ref (ad 229)] (fun x E' => (fdl (gr + ls) 2) = x ∧ E = E') := by
  refine CtL.of (by decide +kernel) (Nat.le_of_ble_eq_true rfl) (fun X F hret => ?_)
  have F : Fr "ThumpEars$Source" cX4_time 1 D cA X := F
  refine (show GG rm_X4_time 1 l D X 0 0 235 ad E 0 [(0, .ref (ad 229))] [] from ?_)
  refine g_aload_n F (q := 1) (dk dX4_time 0 rfl) rfl rfl 0 rfl ?_
  refine g_getf F (q := 4) h229 rfl inX4 (by omega) (j := 7) (by decide) tq_221 rfl rfl (dk dX4_time 1 rfl) rfl ?_
  refine g_aload_n F (q := 5) (dk dX4_time 2 rfl) rfl rfl 0 rfl ?_
  refine g_getf F (q := 8) h229 rfl inX4 (by omega) (j := 6) (by decide) tq_220 rfl rfl (dk dX4_time 3 rfl) rfl ?_
  refine g_ladd F (q := 9) (dk dX4_time 4 rfl) rfl ?_
  refine g_ldc2 F (q := 12) (v := 2) (dk dX4_time 5 rfl) rfl tq_483 ?_
  refine g_callSL F (q := 15) (av := [.long (gr + ls), .long 2]) (st := []) (c_J9_floorDiv_f86c9 (a := (gr + ls)) (b := 2) (by first | assumption | decide | omega)) ks_J9_floorDiv_f86c9 tq_484 ⟨rfl, rfl⟩ (by decide) ⟨Nat.le_refl _, Nat.le_refl _⟩ rfl rfl (Nat.le_of_ble_eq_true rfl) (dk dX4_time 6 rfl) rfl (fun r12 E12 hp12 => ?_)
  obtain ⟨rfl, rfl⟩ := hp12
  refine hret (fdl (gr + ls) 2) E _ _ (dk dX4_time 7 rfl) ?_
  exact ⟨rfl, rfl⟩
theorem kv_X4_time : KV yX4_time "ThumpEars$Source" cX4_time 1 (some .long) 0 := ⟨tq_480, tq_481, tq_15, tq_482, by decide +kernel⟩
abbrev rm_X4_fits : Room := { frames := 1, cells := 0, slots := 0, locals := 20 }
set_option maxHeartbeats 4000000 in
set_option maxRecDepth 100000 in
theorem c_X4_fits {l : Launch} {D : va_G} {cA : Nat → ClassId} {ad : Nat → Nat} {E : Nat → va_E} {s0 px tl : Int32} {pp ls gr : Int64}  (h229 : E 229 = .inr (4, [.ref (ad 230), .ref (ad 231), .ref (ad 232), .int s0, .long pp, .int px, .long ls, .long gr]))   : CtI l D cA yX4_fits cX4_fits 2 .boolean rm_X4_fits 235 ad E [.ref (ad 229), .int tl] (fun x E' => (E = E' ∧ 1 = x ∧ (gr - ls ≤ 1000 * tl.toInt64)) ∨ (E = E' ∧ 0 = x ∧ ¬ (gr - ls ≤ 1000 * tl.toInt64))) := by
  refine CtI.of (by decide +kernel) (Nat.le_of_ble_eq_true rfl) (fun X F hret => ?_)
  have F : Fr "ThumpEars$Source" cX4_fits 2 D cA X := F
  refine (show GG rm_X4_fits 2 l D X 0 0 235 ad E 0 [(0, .ref (ad 229)), (1, .int tl)] [] from ?_)
  refine g_aload_n F (q := 1) (dk dX4_fits 0 rfl) rfl rfl 0 rfl ?_
  refine g_callVL F (q := 4) (av := []) (st := []) (c_X4_width h229) kv_X4_width tq_364 h229 rfl (by omega) ⟨rfl, rfl⟩ (by decide) ⟨Nat.le_refl _, Nat.le_refl _⟩ rfl rfl (Nat.le_of_ble_eq_true rfl) (dk dX4_fits 1 rfl) rfl (fun r1 E1 hp1 => ?_)
  obtain ⟨rfl, rfl⟩ := hp1
  refine g_ldc2 F (q := 7) (v := 1000) (dk dX4_fits 2 rfl) rfl tq_308 ?_
  refine g_iload_n F (q := 8) (dk dX4_fits 3 rfl) rfl rfl 1 rfl ?_
  refine g_i2l F (q := 9) (dk dX4_fits 4 rfl) rfl ?_
  refine g_lmul F (q := 10) (dk dX4_fits 5 rfl) rfl ?_
  refine g_lcmp_gt F (q := 14) (tgt := 18) (dk dX4_fits 6 rfl) (dk dX4_fits 7 rfl) (by decide) rfl (fun c10 => ?_) (fun c10 => ?_)
  · refine g_iconst F (q := 19) (v := 0) (dk dX4_fits 10 rfl) rfl (by decide) ?_
    refine hret 0 E _ _ (dk dX4_fits 11 rfl) rfl ?_
    exact Or.inr ⟨rfl, rfl, (Int64.not_le.mpr c10)⟩
  · refine g_iconst F (q := 15) (v := 1) (dk dX4_fits 8 rfl) rfl (by decide) ?_
    refine g_goto F (tgt := 19) (dk dX4_fits 9 rfl) (by decide) ?_
    refine hret 1 E _ _ (dk dX4_fits 11 rfl) rfl ?_
    exact Or.inl ⟨rfl, rfl, (Int64.not_lt.mp c10)⟩
theorem kv_X4_fits : KV yX4_fits "ThumpEars$Source" cX4_fits 2 (some .boolean) 1 := ⟨tq_369, tq_370, tq_15, tq_371, by decide +kernel⟩
abbrev rm_X4_locate : Room := { frames := 3, cells := 0, slots := 0, locals := 69 }
set_option maxHeartbeats 4000000 in
set_option maxRecDepth 100000 in
theorem c_X4_locate {l : Launch} {D : va_G} {cA : Nat → ClassId} {ad : Nat → Nat} {E : Nat → va_E} {n : Nat} {pp ls gr : Int64} {px : Int32} {pl : Nat → Int32} {rt : Nat → Int64}  (h229 : E 229 = .inr (4, [.ref (ad 230), .ref (ad 231), .ref (ad 232), .int (nI n), .long pp, .int px, .long ls, .long gr])) (hspl : E 231 = .inl (cA 0, 10, .inl pl)) (hsrt : E 232 = .inl (cA 1, 10, .inr (.inl rt)))  (hn : n ≤ 10) (h0 : 0 < n) : CtV l D cA yX4_locate cX4_locate 5 rm_X4_locate 235 ad E [.ref (ad 229)] (fun E' => E' 229 = .inr (4, [.ref (ad 230), .ref (ad 231), .ref (ad 232), .int (nI n), .long pp, .int (nI (bsF (wdC rt pl pp n) 1000).1), .long (mnF (bgC rt pl pp (nI (bsF (wdC rt pl pp n) 1000).1)) (n - 1)), .long (mxF (bgC rt pl pp (nI (bsF (wdC rt pl pp n) 1000).1)) (n - 1))]) ∧ ∀ j, (j ≠ 229) → E' j = E j) := by
  refine CtV.of (by decide +kernel) (Nat.le_of_ble_eq_true rfl) (fun X F hret => ?_)
  have F : Fr "ThumpEars$Source" cX4_locate 5 D cA X := F
  refine (show GG rm_X4_locate 5 l D X 0 0 235 ad E 0 [(0, .ref (ad 229))] [] from ?_)
  refine g_aload_n F (q := 1) (dk dX4_locate 0 rfl) rfl rfl 0 rfl ?_
  refine g_iconst F (q := 2) (v := 0) (dk dX4_locate 1 rfl) rfl (by decide) ?_
  refine g_callVV F (q := 5) (av := [.int 0]) (st := []) (c_X4_lookFrom (y := 0) h229 hspl hsrt (by first | assumption | decide | omega) (by first | assumption | decide | omega)) kv_X4_lookFrom tq_349 h229 rfl (by omega) ⟨rfl, rfl⟩ (by decide) ⟨Nat.le_refl _, Nat.le_refl _⟩ rfl rfl (Nat.le_of_ble_eq_true rfl) (dk dX4_locate 2 rfl) rfl (fun E2 hp2 => ?_)
  obtain ⟨hK229_2, hF2⟩ := hp2
  refine g_iconst F (q := 6) (v := 0) (dk dX4_locate 3 rfl) rfl (by decide) ?_
  refine g_istore_n F (q := 7) (lv' := [(1, .int 0), (0, .ref (ad 229))]) (dk dX4_locate 4 rfl) rfl rfl (Nat.le_of_ble_eq_true rfl) rfl ?_
  refine g_aload_n F (q := 8) (dk dX4_locate 5 rfl) rfl rfl 1 rfl ?_
  refine g_callVL F (q := 11) (av := []) (st := []) (c_X4_width hK229_2) kv_X4_width tq_364 hK229_2 rfl (by omega) ⟨rfl, rfl⟩ (by decide) ⟨Nat.le_refl _, Nat.le_refl _⟩ rfl rfl (Nat.le_of_ble_eq_true rfl) (dk dX4_locate 6 rfl) rfl (fun r8 E8 hp8 => ?_)
  obtain ⟨rfl, rfl⟩ := hp8
  refine g_lstore_n F (q := 12) (lv' := [(2, .long ((mxF (bgC rt pl pp 0) (n - 1)) - (mnF (bgC rt pl pp 0) (n - 1)))), (1, .int 0), (0, .ref (ad 229))]) (dk dX4_locate 7 rfl) rfl rfl (Nat.le_of_ble_eq_true rfl) rfl ?_
  refine g_iconst F (q := 13) (v := 1) (dk dX4_locate 8 rfl) rfl (by decide) ?_
  refine g_istore F (q := 15) (lv' := [(4, .int 1), (2, .long ((mxF (bgC rt pl pp 0) (n - 1)) - (mnF (bgC rt pl pp 0) (n - 1)))), (1, .int 0), (0, .ref (ad 229))]) (dk dX4_locate 9 rfl) rfl (Nat.le_of_ble_eq_true rfl) rfl ?_
  have K15 : ∀ (fu : Nat) (k : Nat) (b : Nat) (nw : Int64) (x1 : Int32) (l1 : Int64) (g1 : Int64) (E1 : Nat → va_E), 1000 - k < fu → (h229 : E1 229 = .inr (4, [.ref (ad 230), .ref (ad 231), .ref (ad 232), .int (nI n), .long pp, .int x1, .long l1, .long g1])) → (hfr15 : ∀ j, (j ≠ 229) → E1 j = E2 j) → (hk : k ≤ 1000) → (hb : b = (bsF (wdC rt pl pp n) k).1) → (hw : nw = (bsF (wdC rt pl pp n) k).2) → GG rm_X4_locate 5 l D X 0 0 235 ad E1 15 [(0, .ref (ad 229)), (1, .int (nI b)), (2, .long nw), (4, .int (nI ((k + 1))))] [] := by
    intro fu
    induction fu with
    | zero => intro k b nw x1 l1 g1 E1 hfu_; exact absurd hfu_ (Nat.not_lt_zero _)
    | succ fu ih =>
      intro k b nw x1 l1 g1 E1 hfu_ h229 hfr15 hk hb hw
      refine g_iload F (q := 17) (dk dX4_locate 10 rfl) rfl 3 rfl ?_
      refine g_sipush F (q := 20) (v := 1000) (dk dX4_locate 11 rfl) rfl (by decide) ?_
      refine g_icmp_gt F (q := 23) (tgt := 52) (dk dX4_locate 12 rfl) (by decide) rfl (fun c20 => ?_) (fun c20 => ?_)
      · have nc20 : 1000 < (k + 1) := (nI_ltI (a := 1000) (b := (k + 1)) (by omega) (by omega)).mp c20
        refine g_aload_n F (q := 53) (dk dX4_locate 28 rfl) rfl rfl 0 rfl ?_
        refine g_iload_n F (q := 54) (dk dX4_locate 29 rfl) rfl rfl 1 rfl ?_
        have hc1 := (hF2 231 (by omega)).trans hspl
        have hc2 := (hfr15 231 (by omega)).trans hc1
        have hc3 := (hF2 232 (by omega)).trans hsrt
        have hc4 := (hfr15 232 (by omega)).trans hc3
        refine g_callVV F (q := 57) (av := [.int (nI b)]) (st := []) (c_X4_lookFrom (y := (nI b)) h229 hc2 hc4 (by first | assumption | decide | omega) (by first | assumption | decide | omega)) kv_X4_lookFrom tq_349 h229 rfl (by omega) ⟨rfl, rfl⟩ (by decide) ⟨Nat.le_refl _, Nat.le_refl _⟩ rfl rfl (Nat.le_of_ble_eq_true rfl) (dk dX4_locate 30 rfl) rfl (fun E54 hp54 => ?_)
        obtain ⟨hK229_54, hF54⟩ := hp54
        refine hret E54 _ _ (dk dX4_locate 31 rfl) ?_
        have hbb : b = (bsF (wdC rt pl pp n) 1000).1 := by rw [hb, show k = 1000 by omega]
        exact ⟨(by rw [← hbb]; exact hK229_54), (fun j hj => (((hF54 j (by omega)).trans (hfr15 j (by omega))).trans (hF2 j (by omega))))⟩
      · have nc20 : ¬ 1000 < (k + 1) := fun h => c20 ((nI_ltI (a := 1000) (b := (k + 1)) (by omega) (by omega)).mpr h)
        refine g_aload_n F (q := 24) (dk dX4_locate 13 rfl) rfl rfl 0 rfl ?_
        refine g_iload F (q := 26) (dk dX4_locate 14 rfl) rfl 3 rfl ?_
        have hc5 := (hF2 231 (by omega)).trans hspl
        have hc6 := (hfr15 231 (by omega)).trans hc5
        have hc7 := (hF2 232 (by omega)).trans hsrt
        have hc8 := (hfr15 232 (by omega)).trans hc7
        refine g_callVV F (q := 29) (av := [.int (nI ((k + 1)))]) (st := []) (c_X4_lookFrom (y := (nI ((k + 1)))) h229 hc6 hc8 (by first | assumption | decide | omega) (by first | assumption | decide | omega)) kv_X4_lookFrom tq_349 h229 rfl (by omega) ⟨rfl, rfl⟩ (by decide) ⟨Nat.le_refl _, Nat.le_refl _⟩ rfl rfl (Nat.le_of_ble_eq_true rfl) (dk dX4_locate 15 rfl) rfl (fun E26 hp26 => ?_)
        obtain ⟨hK229_26, hF26⟩ := hp26
        refine g_aload_n F (q := 30) (dk dX4_locate 16 rfl) rfl rfl 0 rfl ?_
        refine g_callVL F (q := 33) (av := []) (st := []) (c_X4_width hK229_26) kv_X4_width tq_364 hK229_26 rfl (by omega) ⟨rfl, rfl⟩ (by decide) ⟨Nat.le_refl _, Nat.le_refl _⟩ rfl rfl (Nat.le_of_ble_eq_true rfl) (dk dX4_locate 17 rfl) rfl (fun r30 E30 hp30 => ?_)
        obtain ⟨rfl, rfl⟩ := hp30
        refine g_lload_n F (q := 34) (dk dX4_locate 18 rfl) rfl rfl 2 rfl ?_
        refine g_lcmp_ge F (q := 38) (tgt := 46) (dk dX4_locate 19 rfl) (dk dX4_locate 20 rfl) (by decide) rfl (fun c34 => ?_) (fun c34 => ?_)
        · refine g_iinc F (q := 49) (v := (nI (((k + 1) + 1)))) (lv' := [(4, .int (nI (((k + 1) + 1)))), (0, .ref (ad 229)), (1, .int (nI b)), (2, .long nw)]) (dk dX4_locate 26 rfl) rfl 3 rfl (nI_1 _) (Nat.le_of_ble_eq_true rfl) rfl ?_
          refine g_goto F (tgt := 15) (dk dX4_locate 27 rfl) (by decide) ?_
          have hst : bsF (wdC rt pl pp n) (k + 1) = bsF (wdC rt pl pp n) k := if_neg (by rw [← hw]; exact Int64.not_lt.mpr c34)
          refine g_lv (lv' := [(0, .ref (ad 229)), (1, .int (nI b)), (2, .long nw), (4, .int (nI (((k + 1) + 1))))]) [1, 2, 3, 0] rfl ?_
          exact ih (k + 1) b nw (nI ((k + 1))) (mnF (bgC rt pl pp (nI ((k + 1)))) (n - 1)) (mxF (bgC rt pl pp (nI ((k + 1)))) (n - 1)) E26 (by omega) hK229_26 (fun j hj => ((hF26 j (by omega)).trans (hfr15 j (by omega)))) (by omega) (by rw [hst]; exact hb) (by rw [hst]; exact hw)
        · refine g_aload_n F (q := 39) (dk dX4_locate 21 rfl) rfl rfl 0 rfl ?_
          refine g_callVL F (q := 42) (av := []) (st := []) (c_X4_width hK229_26) kv_X4_width tq_364 hK229_26 rfl (by omega) ⟨rfl, rfl⟩ (by decide) ⟨Nat.le_refl _, Nat.le_refl _⟩ rfl rfl (Nat.le_of_ble_eq_true rfl) (dk dX4_locate 22 rfl) rfl (fun r39 E39 hp39 => ?_)
          obtain ⟨rfl, rfl⟩ := hp39
          refine g_lstore_n F (q := 43) (lv' := [(2, .long ((mxF (bgC rt pl pp (nI ((k + 1)))) (n - 1)) - (mnF (bgC rt pl pp (nI ((k + 1)))) (n - 1)))), (0, .ref (ad 229)), (1, .int (nI b)), (4, .int (nI ((k + 1))))]) (dk dX4_locate 23 rfl) rfl rfl (Nat.le_of_ble_eq_true rfl) rfl ?_
          refine g_iload F (q := 45) (dk dX4_locate 24 rfl) rfl 3 rfl ?_
          refine g_istore_n F (q := 46) (lv' := [(1, .int (nI ((k + 1)))), (2, .long ((mxF (bgC rt pl pp (nI ((k + 1)))) (n - 1)) - (mnF (bgC rt pl pp (nI ((k + 1)))) (n - 1)))), (0, .ref (ad 229)), (4, .int (nI ((k + 1))))]) (dk dX4_locate 25 rfl) rfl rfl (Nat.le_of_ble_eq_true rfl) rfl ?_
          refine g_iinc F (q := 49) (v := (nI (((k + 1) + 1)))) (lv' := [(4, .int (nI (((k + 1) + 1)))), (1, .int (nI ((k + 1)))), (2, .long ((mxF (bgC rt pl pp (nI ((k + 1)))) (n - 1)) - (mnF (bgC rt pl pp (nI ((k + 1)))) (n - 1)))), (0, .ref (ad 229))]) (dk dX4_locate 26 rfl) rfl 3 rfl (nI_1 _) (Nat.le_of_ble_eq_true rfl) rfl ?_
          refine g_goto F (tgt := 15) (dk dX4_locate 27 rfl) (by decide) ?_
          have hst : bsF (wdC rt pl pp n) (k + 1) = (k + 1, (wdC rt pl pp n) (k + 1)) := if_pos (by rw [← hw]; exact Int64.not_le.mp c34)
          refine g_lv (lv' := [(0, .ref (ad 229)), (1, .int (nI ((k + 1)))), (2, .long ((mxF (bgC rt pl pp (nI ((k + 1)))) (n - 1)) - (mnF (bgC rt pl pp (nI ((k + 1)))) (n - 1)))), (4, .int (nI (((k + 1) + 1))))]) [3, 1, 2, 0] rfl ?_
          exact ih (k + 1) (k + 1) ((mxF (bgC rt pl pp (nI ((k + 1)))) (n - 1)) - (mnF (bgC rt pl pp (nI ((k + 1)))) (n - 1))) (nI ((k + 1))) (mnF (bgC rt pl pp (nI ((k + 1)))) (n - 1)) (mxF (bgC rt pl pp (nI ((k + 1)))) (n - 1)) E26 (by omega) hK229_26 (fun j hj => ((hF26 j (by omega)).trans (hfr15 j (by omega)))) (by omega) (by rw [hst]) (by rw [hst]; rfl)
  refine g_lv (lv' := [(0, .ref (ad 229)), (1, .int 0), (2, .long ((mxF (bgC rt pl pp 0) (n - 1)) - (mnF (bgC rt pl pp 0) (n - 1)))), (4, .int 1)]) [3, 2, 1, 0] rfl ?_
  exact K15 _ 0 0 ((mxF (bgC rt pl pp 0) (n - 1)) - (mnF (bgC rt pl pp 0) (n - 1))) 0 (mnF (bgC rt pl pp 0) (n - 1)) (mxF (bgC rt pl pp 0) (n - 1)) E2 (Nat.lt_succ_self _) hK229_2 (fun j _ => rfl) (by omega) rfl rfl
theorem kv_X4_locate : KV yX4_locate "ThumpEars$Source" cX4_locate 5 (none) 0 := ⟨tq_346, tq_347, tq_15, tq_348, by decide +kernel⟩
abbrev rm_X4_worstEar : Room := { frames := 2, cells := 0, slots := 0, locals := 45 }
set_option maxHeartbeats 4000000 in
set_option maxRecDepth 100000 in
theorem c_X4_worstEar {l : Launch} {D : va_G} {cA : Nat → ClassId} {ad : Nat → Nat} {E : Nat → va_E} {n : Nat} {pp ls gr : Int64} {px : Int32} {pl : Nat → Int32} {rt : Nat → Int64} {ea : Nat → Int32}  (h229 : E 229 = .inr (4, [.ref (ad 230), .ref (ad 231), .ref (ad 232), .int (nI n), .long pp, .int px, .long ls, .long gr])) (hspl : E 231 = .inl (cA 0, 10, .inl pl)) (hsrt : E 232 = .inl (cA 1, 10, .inr (.inl rt))) (hsea : E 230 = .inl (cA 0, 10, .inl ea))  (hn : n ≤ 10) (h0 : 0 < n) : CtI l D cA yX4_worstEar cX4_worstEar 7 .int rm_X4_worstEar 235 ad E [.ref (ad 229)] (fun x E' => (ea (wsF (fun i => ab64 (bgC rt pl pp px i - fdl (gr + ls) 2)) (n - 1)).1) = x ∧ E = E') := by
  refine CtI.of (by decide +kernel) (Nat.le_of_ble_eq_true rfl) (fun X F hret => ?_)
  have F : Fr "ThumpEars$Source" cX4_worstEar 7 D cA X := F
  refine (show GG rm_X4_worstEar 7 l D X 0 0 235 ad E 0 [(0, .ref (ad 229))] [] from ?_)
  refine g_iconst F (q := 1) (v := 0) (dk dX4_worstEar 0 rfl) rfl (by decide) ?_
  refine g_istore_n F (q := 2) (lv' := [(1, .int 0), (0, .ref (ad 229))]) (dk dX4_worstEar 1 rfl) rfl rfl (Nat.le_of_ble_eq_true rfl) rfl ?_
  refine g_aload_n F (q := 3) (dk dX4_worstEar 2 rfl) rfl rfl 1 rfl ?_
  refine g_iconst F (q := 4) (v := 0) (dk dX4_worstEar 3 rfl) rfl (by decide) ?_
  refine g_callVL F (q := 7) (av := [.int 0]) (st := []) (c_X4_beginning (i := 0) h229 hspl hsrt (by first | assumption | decide | omega) (by first | assumption | decide | omega)) kv_X4_beginning tq_353 h229 rfl (by omega) ⟨rfl, rfl⟩ (by decide) ⟨Nat.le_refl _, Nat.le_refl _⟩ rfl rfl (Nat.le_of_ble_eq_true rfl) (dk dX4_worstEar 4 rfl) rfl (fun r4 E4 hp4 => ?_)
  obtain ⟨rfl, rfl⟩ := hp4
  refine g_aload_n F (q := 8) (dk dX4_worstEar 5 rfl) rfl rfl 1 rfl ?_
  refine g_callVL F (q := 11) (av := []) (st := [.long (bgC rt pl pp px 0)]) (c_X4_time h229) kv_X4_time tq_490 h229 rfl (by omega) ⟨rfl, rfl⟩ (by decide) ⟨Nat.le_refl _, Nat.le_refl _⟩ rfl rfl (Nat.le_of_ble_eq_true rfl) (dk dX4_worstEar 6 rfl) rfl (fun r8 E8 hp8 => ?_)
  obtain ⟨rfl, rfl⟩ := hp8
  refine g_lsub F (q := 12) (dk dX4_worstEar 7 rfl) rfl ?_
  refine g_mabsl F (q := 15) tq_491 tq_492 tq_17 tq_493 (by decide) (Nat.le_of_ble_eq_true rfl) ⟨Nat.le_refl _, Nat.le_refl _⟩ (dk dX4_worstEar 8 rfl) rfl ?_
  refine g_stl (y := (ab64 (bgC rt pl pp px 0 - fdl (gr + ls) 2))) ab64_e ?_
  refine g_lstore_n F (q := 16) (lv' := [(2, .long (ab64 (bgC rt pl pp px 0 - fdl (gr + ls) 2))), (1, .int 0), (0, .ref (ad 229))]) (dk dX4_worstEar 9 rfl) rfl rfl (Nat.le_of_ble_eq_true rfl) rfl ?_
  refine g_iconst F (q := 17) (v := 1) (dk dX4_worstEar 10 rfl) rfl (by decide) ?_
  refine g_istore F (q := 19) (lv' := [(4, .int 1), (2, .long (ab64 (bgC rt pl pp px 0 - fdl (gr + ls) 2))), (1, .int 0), (0, .ref (ad 229))]) (dk dX4_worstEar 11 rfl) rfl (Nat.le_of_ble_eq_true rfl) rfl ?_
  have K19 : ∀ (fu : Nat) (m : Nat) (b : Nat) (nw : Int64), 10 - m < fu → (hm : m < n) → (hb : b = (wsF (fun i => ab64 (bgC rt pl pp px i - fdl (gr + ls) 2)) m).1) → (hw : nw = (wsF (fun i => ab64 (bgC rt pl pp px i - fdl (gr + ls) 2)) m).2) → GG rm_X4_worstEar 7 l D X 0 0 235 ad E 19 [(0, .ref (ad 229)), (1, .int (nI b)), (2, .long nw), (4, .int (nI ((m + 1))))] [] := by
    intro fu
    induction fu with
    | zero => intro m b nw hfu_; exact absurd hfu_ (Nat.not_lt_zero _)
    | succ fu ih =>
      intro m b nw hfu_ hm hb hw
      have hbl : b ≤ m := hb ▸ wsF_le m
      refine g_iload F (q := 21) (dk dX4_worstEar 12 rfl) rfl 3 rfl ?_
      refine g_aload_n F (q := 22) (dk dX4_worstEar 13 rfl) rfl rfl 0 rfl ?_
      refine g_getf F (q := 25) h229 rfl inX4 (by omega) (j := 3) (by decide) tq_215 rfl rfl (dk dX4_worstEar 14 rfl) rfl ?_
      refine g_icmp_ge F (q := 28) (tgt := 63) (dk dX4_worstEar 15 rfl) (by decide) rfl (fun c25 => ?_) (fun c25 => ?_)
      · have nc25 : n ≤ (m + 1) := (nI_leI (a := n) (b := (m + 1)) (by omega) (by omega)).mp c25
        refine g_aload_n F (q := 64) (dk dX4_worstEar 34 rfl) rfl rfl 0 rfl ?_
        refine g_getf F (q := 67) h229 rfl inX4 (by omega) (j := 0) (by decide) tq_212 rfl rfl (dk dX4_worstEar 35 rfl) rfl ?_
        refine g_iload_n F (q := 68) (dk dX4_worstEar 36 rfl) rfl rfl 1 rfl ?_
        refine g_iald F (q := 69) b hsea (by omega) rfl (by omega) (by decide) (dk dX4_worstEar 37 rfl) rfl ?_
        refine hret (ea b) E _ _ (dk dX4_worstEar 38 rfl) (nint _) ?_
        exact ⟨by rw [hb, show m = n - 1 by omega], rfl⟩
      · have nc25 : ¬ n ≤ (m + 1) := fun h => c25 ((nI_leI (a := n) (b := (m + 1)) (by omega) (by omega)).mpr h)
        refine g_aload_n F (q := 29) (dk dX4_worstEar 16 rfl) rfl rfl 0 rfl ?_
        refine g_iload F (q := 31) (dk dX4_worstEar 17 rfl) rfl 3 rfl ?_
        refine g_callVL F (q := 34) (av := [.int (nI ((m + 1)))]) (st := []) (c_X4_beginning (i := (m + 1)) h229 hspl hsrt (by first | assumption | decide | omega) (by first | assumption | decide | omega)) kv_X4_beginning tq_353 h229 rfl (by omega) ⟨rfl, rfl⟩ (by decide) ⟨Nat.le_refl _, Nat.le_refl _⟩ rfl rfl (Nat.le_of_ble_eq_true rfl) (dk dX4_worstEar 18 rfl) rfl (fun r31 E31 hp31 => ?_)
        obtain ⟨rfl, rfl⟩ := hp31
        refine g_aload_n F (q := 35) (dk dX4_worstEar 19 rfl) rfl rfl 0 rfl ?_
        refine g_callVL F (q := 38) (av := []) (st := [.long (bgC rt pl pp px (m + 1))]) (c_X4_time h229) kv_X4_time tq_490 h229 rfl (by omega) ⟨rfl, rfl⟩ (by decide) ⟨Nat.le_refl _, Nat.le_refl _⟩ rfl rfl (Nat.le_of_ble_eq_true rfl) (dk dX4_worstEar 20 rfl) rfl (fun r35 E35 hp35 => ?_)
        obtain ⟨rfl, rfl⟩ := hp35
        refine g_lsub F (q := 39) (dk dX4_worstEar 21 rfl) rfl ?_
        refine g_mabsl F (q := 42) tq_491 tq_492 tq_17 tq_493 (by decide) (Nat.le_of_ble_eq_true rfl) ⟨Nat.le_refl _, Nat.le_refl _⟩ (dk dX4_worstEar 22 rfl) rfl ?_
        refine g_stl (y := (ab64 (bgC rt pl pp px (m + 1) - fdl (gr + ls) 2))) ab64_e ?_
        refine g_lstore F (q := 44) (lv' := [(5, .long (ab64 (bgC rt pl pp px (m + 1) - fdl (gr + ls) 2))), (0, .ref (ad 229)), (1, .int (nI b)), (2, .long nw), (4, .int (nI ((m + 1))))]) (dk dX4_worstEar 23 rfl) rfl (Nat.le_of_ble_eq_true rfl) rfl ?_
        refine g_lload F (q := 46) (dk dX4_worstEar 24 rfl) rfl 0 rfl ?_
        refine g_lload_n F (q := 47) (dk dX4_worstEar 25 rfl) rfl rfl 3 rfl ?_
        refine g_lcmp_le F (q := 51) (tgt := 57) (dk dX4_worstEar 26 rfl) (dk dX4_worstEar 27 rfl) (by decide) rfl (fun c47 => ?_) (fun c47 => ?_)
        · refine g_iinc F (q := 60) (v := (nI (((m + 1) + 1)))) (lv' := [(4, .int (nI (((m + 1) + 1)))), (5, .long (ab64 (bgC rt pl pp px (m + 1) - fdl (gr + ls) 2))), (0, .ref (ad 229)), (1, .int (nI b)), (2, .long nw)]) (dk dX4_worstEar 32 rfl) rfl 4 rfl (nI_1 _) (Nat.le_of_ble_eq_true rfl) rfl ?_
          refine g_goto F (tgt := 19) (dk dX4_worstEar 33 rfl) (by decide) ?_
          have hst : wsF (fun i => ab64 (bgC rt pl pp px i - fdl (gr + ls) 2)) (m + 1) = wsF (fun i => ab64 (bgC rt pl pp px i - fdl (gr + ls) 2)) m := if_neg (by rw [← hw]; exact Int64.not_lt.mpr c47)
          refine g_lv (lv' := [(0, .ref (ad 229)), (1, .int (nI b)), (2, .long nw), (4, .int (nI (((m + 1) + 1))))]) [2, 3, 4, 0] rfl ?_
          exact ih (m + 1) b nw (by omega) (by omega) (by rw [hst]; exact hb) (by rw [hst]; exact hw)
        · refine g_lload F (q := 53) (dk dX4_worstEar 28 rfl) rfl 0 rfl ?_
          refine g_lstore_n F (q := 54) (lv' := [(2, .long (ab64 (bgC rt pl pp px (m + 1) - fdl (gr + ls) 2))), (5, .long (ab64 (bgC rt pl pp px (m + 1) - fdl (gr + ls) 2))), (0, .ref (ad 229)), (1, .int (nI b)), (4, .int (nI ((m + 1))))]) (dk dX4_worstEar 29 rfl) rfl rfl (Nat.le_of_ble_eq_true rfl) rfl ?_
          refine g_iload F (q := 56) (dk dX4_worstEar 30 rfl) rfl 4 rfl ?_
          refine g_istore_n F (q := 57) (lv' := [(1, .int (nI ((m + 1)))), (2, .long (ab64 (bgC rt pl pp px (m + 1) - fdl (gr + ls) 2))), (5, .long (ab64 (bgC rt pl pp px (m + 1) - fdl (gr + ls) 2))), (0, .ref (ad 229)), (4, .int (nI ((m + 1))))]) (dk dX4_worstEar 31 rfl) rfl rfl (Nat.le_of_ble_eq_true rfl) rfl ?_
          refine g_iinc F (q := 60) (v := (nI (((m + 1) + 1)))) (lv' := [(4, .int (nI (((m + 1) + 1)))), (1, .int (nI ((m + 1)))), (2, .long (ab64 (bgC rt pl pp px (m + 1) - fdl (gr + ls) 2))), (5, .long (ab64 (bgC rt pl pp px (m + 1) - fdl (gr + ls) 2))), (0, .ref (ad 229))]) (dk dX4_worstEar 32 rfl) rfl 4 rfl (nI_1 _) (Nat.le_of_ble_eq_true rfl) rfl ?_
          refine g_goto F (tgt := 19) (dk dX4_worstEar 33 rfl) (by decide) ?_
          have hst : wsF (fun i => ab64 (bgC rt pl pp px i - fdl (gr + ls) 2)) (m + 1) = (m + 1, (fun i => ab64 (bgC rt pl pp px i - fdl (gr + ls) 2)) (m + 1)) := if_pos (by rw [← hw]; exact Int64.not_le.mp c47)
          refine g_lv (lv' := [(0, .ref (ad 229)), (1, .int (nI ((m + 1)))), (2, .long (ab64 (bgC rt pl pp px (m + 1) - fdl (gr + ls) 2))), (4, .int (nI (((m + 1) + 1))))]) [4, 1, 2, 0] rfl ?_
          exact ih (m + 1) (m + 1) (ab64 (bgC rt pl pp px (m + 1) - fdl (gr + ls) 2)) (by omega) (by omega) (by rw [hst]) (by rw [hst])
  refine g_lv (lv' := [(0, .ref (ad 229)), (1, .int 0), (2, .long (ab64 (bgC rt pl pp px 0 - fdl (gr + ls) 2))), (4, .int 1)]) [3, 2, 1, 0] rfl ?_
  exact K19 _ 0 0 (ab64 (bgC rt pl pp px 0 - fdl (gr + ls) 2)) (Nat.lt_succ_self _) (by omega) rfl rfl
theorem kv_X4_worstEar : KV yX4_worstEar "ThumpEars$Source" cX4_worstEar 7 (some .int) 0 := ⟨tq_487, tq_488, tq_15, tq_489, by decide +kernel⟩
