abbrev rm_X7_findMarks : Room := { frames := 1, cells := 0, slots := 0, locals := 23 }
set_option maxHeartbeats 4000000 in
set_option maxRecDepth 100000 in
theorem c_X7_findMarks {l : Launch} {D : va_G} {cA : Nat → ClassId} {ad : Nat → Nat} {E : Nat → va_E} {s0 s1 s2 s3 s4 s5 : Int32} {lo mo : Int64} {r rd er th : Nat → Int32} {e nt : Nat}  (h233 : E 233 = .inr (7, [.ref (ad 234), .ref (ad 235), .ref (ad 236), .ref (ad 237), .int s0, .int s1, .ref (ad 238), .int s2, .int s3, .int s4, .int s5, .ref (ad 239), .ref (ad 240), .ref (ad 241), .long lo, .long mo, .ref (ad 242)])) (h234 : E 234 = .inl (cA 0, 346, .inl r)) (h239 : E 239 = .inl (cA 0, 10, .inl rd)) (h240 : E 240 = .inl (cA 0, 10, .inl er)) (h241 : E 241 = .inl (cA 0, 10, .inl th))  (he : e < 10) (h1 : r 1 = nI nt) (hnt : nt ≤ 10) : CtV l D cA yX7_findMarks cX7_findMarks 4 rm_X7_findMarks 243 ad E [.ref (ad 233), .int (nI e)] (fun E' => ∃ (rd1 : Nat → Int32) (er1 : Nat → Int32) (th1 : Nat → Int32), E' 233 = .inr (7, [.ref (ad 234), .ref (ad 235), .ref (ad 236), .ref (ad 237), .int s0, .int s1, .ref (ad 238), .int s2, .int s3, .int s4, .int (nI ((mC r e nt))), .ref (ad 239), .ref (ad 240), .ref (ad 241), .long lo, .long mo, .ref (ad 242)]) ∧ E' 239 = .inl (cA 0, 10, .inl rd1) ∧ E' 240 = .inl (cA 0, 10, .inl er1) ∧ E' 241 = .inl (cA 0, 10, .inl th1) ∧ (mH r e nt rd1 er1 th1) ∧ ∀ j, (j ≠ 233 ∧ j ≠ 239 ∧ j ≠ 240 ∧ j ≠ 241) → E' j = E j) := by
  refine CtV.of (by decide +kernel) (Nat.le_of_ble_eq_true rfl) (fun X F hret => ?_)
  have F : Fr "ThumpEarsModel" cX7_findMarks 4 D cA X := F
  refine (show GG rm_X7_findMarks 4 l D X 0 0 243 ad E 0 [(0, .ref (ad 233)), (1, .int (nI e))] [] from ?_)
  refine g_aload_n F (q := 1) (dk dX7_findMarks 0 rfl) rfl rfl 0 rfl ?_
  refine g_iconst F (q := 2) (v := 0) (dk dX7_findMarks 1 rfl) rfl (by decide) ?_
  refine g_putf F (q := 5) (ty := .int) h233 rfl inX7 tyX7 tyX7_ok nmX7 (by omega) (j := 10) (by decide) tq_633 rfl rfl (by decide +kernel) rfl rfl (Nat.le_of_ble_eq_true rfl) (dk dX7_findMarks 2 rfl) rfl (fun E2 hE2 hO2 => ?_)
  have hE2 : E2 233 = .inr (7, [.ref (ad 234), .ref (ad 235), .ref (ad 236), .ref (ad 237), .int s0, .int s1, .ref (ad 238), .int s2, .int s3, .int s4, .int 0, .ref (ad 239), .ref (ad 240), .ref (ad 241), .long lo, .long mo, .ref (ad 242)]) := hE2
  refine g_iconst F (q := 6) (v := 0) (dk dX7_findMarks 3 rfl) rfl (by decide) ?_
  refine g_istore_n F (q := 7) (lv' := [(2, .int 0), (0, .ref (ad 233)), (1, .int (nI e))]) (dk dX7_findMarks 4 rfl) rfl rfl (Nat.le_of_ble_eq_true rfl) rfl ?_
  have K7 : ∀ (fu : Nat) (i : Nat) (rd1 : Nat → Int32) (er1 : Nat → Int32) (th1 : Nat → Int32) (E1 : Nat → va_E), nt - i < fu → (h3 : E1 233 = .inr (7, [.ref (ad 234), .ref (ad 235), .ref (ad 236), .ref (ad 237), .int s0, .int s1, .ref (ad 238), .int s2, .int s3, .int s4, .int (nI ((mC r e i))), .ref (ad 239), .ref (ad 240), .ref (ad 241), .long lo, .long mo, .ref (ad 242)])) → (hrd : E1 239 = .inl (cA 0, 10, .inl rd1)) → (her : E1 240 = .inl (cA 0, 10, .inl er1)) → (hth : E1 241 = .inl (cA 0, 10, .inl th1)) → (hfr7 : ∀ j, (j ≠ 233 ∧ j ≠ 239 ∧ j ≠ 240 ∧ j ≠ 241) → E1 j = E2 j) → (hi : i ≤ nt) → (hH : mH r e i rd1 er1 th1) → GG rm_X7_findMarks 4 l D X 0 0 243 ad E1 7 [(0, .ref (ad 233)), (1, .int (nI e)), (2, .int (nI i))] [] := by
    intro fu
    induction fu with
    | zero => intro i rd1 er1 th1 E1 hfu_; exact absurd hfu_ (Nat.not_lt_zero _)
    | succ fu ih =>
      intro i rd1 er1 th1 E1 hfu_ h3 hrd her hth hfr7 hi hH
      have hml := mC_le (r := r) (e := e) i
      refine g_iload_n F (q := 8) (dk dX7_findMarks 5 rfl) rfl rfl 2 rfl ?_
      refine g_aload_n F (q := 9) (dk dX7_findMarks 6 rfl) rfl rfl 0 rfl ?_
      refine g_getf F (q := 12) h3 rfl inX7 (by omega) (j := 0) (by decide) tq_623 rfl rfl (dk dX7_findMarks 7 rfl) rfl ?_
      refine g_iconst F (q := 13) (v := 1) (dk dX7_findMarks 8 rfl) rfl (by decide) ?_
      have hc1 := (hO2 234 (by omega)).trans h234
      have hc2 := (hfr7 234 (by omega)).trans hc1
      refine g_iald F (q := 14) 1 hc2 (by omega) rfl (by omega) (by decide) (dk dX7_findMarks 9 rfl) rfl ?_
      refine g_sti (y := (nI nt)) h1 ?_
      refine g_icmp_ge F (q := 17) (tgt := 142) (dk dX7_findMarks 10 rfl) (by decide) rfl (fun c14 => ?_) (fun c14 => ?_)
      · have nc14 : nt ≤ i := (nI_leI (a := nt) (b := i) (by omega) (by omega)).mp c14
        refine hret E1 _ _ (dk dX7_findMarks 87 rfl) ?_
        have hie : i = nt := by omega
        subst hie
        exact ⟨_, _, _, h3, hrd, her, hth, hH, (fun j hj => ((hfr7 j (by omega)).trans (hO2 j (by omega))))⟩
      · have nc14 : ¬ nt ≤ i := fun h => c14 ((nI_leI (a := nt) (b := i) (by omega) (by omega)).mpr h)
        refine g_aload_n F (q := 18) (dk dX7_findMarks 11 rfl) rfl rfl 0 rfl ?_
        refine g_iconst F (q := 19) (v := 0) (dk dX7_findMarks 12 rfl) rfl (by decide) ?_
        refine g_iload_n F (q := 20) (dk dX7_findMarks 13 rfl) rfl rfl 2 rfl ?_
        refine g_iload_n F (q := 21) (dk dX7_findMarks 14 rfl) rfl rfl 1 rfl ?_
        refine g_callVI F (q := 24) (av := [.int 0, .int (nI i), .int (nI e)]) (st := []) (c_X7_heardOf (k := 0) (m := i) (e := e) h3 hc2 (by first | assumption | decide | omega)) kv_X7_heardOf tq_822 h3 rfl (by omega) ⟨rfl, rfl⟩ (by decide) ⟨Nat.le_refl _, Nat.le_refl _⟩ rfl rfl (Nat.le_of_ble_eq_true rfl) (dk dX7_findMarks 15 rfl) rfl (fun r21 E21 hp21 => ?_)
        obtain ⟨rfl, rfl⟩ := hp21
        refine g_istore_n F (q := 25) (lv' := [(3, .int (r (146 + 100 * 0 + 10 * i + e))), (0, .ref (ad 233)), (1, .int (nI e)), (2, .int (nI i))]) (dk dX7_findMarks 16 rfl) rfl rfl (Nat.le_of_ble_eq_true rfl) rfl ?_
        refine g_iload_n F (q := 26) (dk dX7_findMarks 17 rfl) rfl rfl 0 rfl ?_
        refine g_ldc F (q := 28) (v := (-1000000000)) (dk dX7_findMarks 18 rfl) rfl tq_622 ?_
        refine g_sti (y := MISS) rfl ?_
        refine g_icmp_eq F (q := 31) (tgt := 136) (dk dX7_findMarks 19 rfl) (by decide) rfl (fun c28 => ?_) (fun c28 => ?_)
        · refine g_iinc F (q := 139) (v := (nI ((i + 1)))) (lv' := [(2, .int (nI ((i + 1)))), (3, .int (r (146 + 100 * 0 + 10 * i + e))), (0, .ref (ad 233)), (1, .int (nI e))]) (dk dX7_findMarks 85 rfl) rfl 3 rfl (nI_1 _) (Nat.le_of_ble_eq_true rfl) rfl ?_
          refine g_goto F (tgt := 7) (dk dX7_findMarks 86 rfl) (by decide) ?_
          have hg : ¬ mG r e i (mC r e i) (mRd r e i) := fun h => h.1 c28
          refine g_lv (lv' := [(0, .ref (ad 233)), (1, .int (nI e)), (2, .int (nI ((i + 1))))]) [2, 3, 0] rfl ?_
          exact ih (i + 1) rd1 er1 th1 E1 (by omega) (by rw [mC_f hg]; exact h3) hrd her hth (fun j hj => (hfr7 j (by omega))) (by omega) (mH_f hg hH)
        · refine g_aload_n F (q := 32) (dk dX7_findMarks 20 rfl) rfl rfl 1 rfl ?_
          refine g_iconst F (q := 33) (v := 0) (dk dX7_findMarks 21 rfl) rfl (by decide) ?_
          refine g_iload_n F (q := 34) (dk dX7_findMarks 22 rfl) rfl rfl 3 rfl ?_
          refine g_iconst F (q := 35) (v := 4) (dk dX7_findMarks 23 rfl) rfl (by decide) ?_
          refine g_callVI F (q := 38) (av := [.int 0, .int (nI i), .int 4]) (st := []) (c_X7_come (k := 0) (m := i) (w := 4) h3 hc2 (by first | assumption | decide | omega)) kv_X7_come tq_770 h3 rfl (by omega) ⟨rfl, rfl⟩ (by decide) ⟨Nat.le_refl _, Nat.le_refl _⟩ rfl rfl (Nat.le_of_ble_eq_true rfl) (dk dX7_findMarks 24 rfl) rfl (fun r35 E35 hp35 => ?_)
          obtain ⟨rfl, rfl⟩ := hp35
          refine g_if_ne F (q := 41) (tgt := 136) (dk dX7_findMarks 25 rfl) (by decide) rfl (fun c38 => ?_) (fun c38 => ?_)
          · refine g_iinc F (q := 139) (v := (nI ((i + 1)))) (lv' := [(2, .int (nI ((i + 1)))), (3, .int (r (146 + 100 * 0 + 10 * i + e))), (0, .ref (ad 233)), (1, .int (nI e))]) (dk dX7_findMarks 85 rfl) rfl 3 rfl (nI_1 _) (Nat.le_of_ble_eq_true rfl) rfl ?_
            refine g_goto F (tgt := 7) (dk dX7_findMarks 86 rfl) (by decide) ?_
            have hg : ¬ mG r e i (mC r e i) (mRd r e i) := fun h => c38 h.2.1
            refine g_lv (lv' := [(0, .ref (ad 233)), (1, .int (nI e)), (2, .int (nI ((i + 1))))]) [2, 3, 0] rfl ?_
            exact ih (i + 1) rd1 er1 th1 E1 (by omega) (by rw [mC_f hg]; exact h3) hrd her hth (fun j hj => (hfr7 j (by omega))) (by omega) (mH_f hg hH)
          · refine g_aload_n F (q := 42) (dk dX7_findMarks 26 rfl) rfl rfl 1 rfl ?_
            refine g_getf F (q := 45) h3 rfl inX7 (by omega) (j := 10) (by decide) tq_633 rfl rfl (dk dX7_findMarks 27 rfl) rfl ?_
            refine g_if_eq F (q := 48) (tgt := 63) (dk dX7_findMarks 28 rfl) (by decide) rfl (fun c45 => ?_) (fun c45 => ?_)
            · have nc45 : (mC r e i) = 0 := (nI_eq (a := (mC r e i)) (b := 0) (by omega) (by omega)).mp c45
              refine g_aload_n F (q := 64) (dk dX7_findMarks 38 rfl) rfl rfl 1 rfl ?_
              refine g_getf F (q := 67) h3 rfl inX7 (by omega) (j := 11) (by decide) tq_634 rfl rfl (dk dX7_findMarks 39 rfl) rfl ?_
              refine g_aload_n F (q := 68) (dk dX7_findMarks 40 rfl) rfl rfl 1 rfl ?_
              refine g_getf F (q := 71) h3 rfl inX7 (by omega) (j := 10) (by decide) tq_633 rfl rfl (dk dX7_findMarks 41 rfl) rfl ?_
              refine g_iload_n F (q := 72) (dk dX7_findMarks 42 rfl) rfl rfl 0 rfl ?_
              refine g_iast F (q := 73) ((mC r e i)) hrd (by omega) rfl (by omega) (by decide) (dk dX7_findMarks 43 rfl) rfl (fun E72 hE72 hO72 => ?_)
              refine g_aload_n F (q := 74) (dk dX7_findMarks 44 rfl) rfl rfl 1 rfl ?_
              have hc3 := (hO72 233 (by omega)).trans h3
              refine g_getf F (q := 77) hc3 rfl inX7 (by omega) (j := 12) (by decide) tq_635 rfl rfl (dk dX7_findMarks 45 rfl) rfl ?_
              refine g_aload_n F (q := 78) (dk dX7_findMarks 46 rfl) rfl rfl 1 rfl ?_
              refine g_getf F (q := 81) hc3 rfl inX7 (by omega) (j := 10) (by decide) tq_633 rfl rfl (dk dX7_findMarks 47 rfl) rfl ?_
              refine g_iload_n F (q := 82) (dk dX7_findMarks 48 rfl) rfl rfl 0 rfl ?_
              refine g_aload_n F (q := 83) (dk dX7_findMarks 49 rfl) rfl rfl 1 rfl ?_
              refine g_iconst F (q := 84) (v := 0) (dk dX7_findMarks 50 rfl) rfl (by decide) ?_
              refine g_iload_n F (q := 85) (dk dX7_findMarks 51 rfl) rfl rfl 3 rfl ?_
              refine g_iconst F (q := 86) (v := 1) (dk dX7_findMarks 52 rfl) rfl (by decide) ?_
              have hc4 := (hO72 234 (by omega)).trans hc2
              refine g_callVI F (q := 89) (av := [.int 0, .int (nI i), .int 1]) (st := [.int (r (146 + 100 * 0 + 10 * i + e)), .int (nI ((mC r e i))), .ref (ad 240)]) (c_X7_come (k := 0) (m := i) (w := 1) hc3 hc4 (by first | assumption | decide | omega)) kv_X7_come tq_770 hc3 rfl (by omega) ⟨rfl, rfl⟩ (by decide) ⟨Nat.le_refl _, Nat.le_refl _⟩ rfl rfl (Nat.le_of_ble_eq_true rfl) (dk dX7_findMarks 53 rfl) rfl (fun r86 E86 hp86 => ?_)
              obtain ⟨rfl, rfl⟩ := hp86
              refine g_aload_n F (q := 90) (dk dX7_findMarks 54 rfl) rfl rfl 1 rfl ?_
              refine g_iconst F (q := 91) (v := 0) (dk dX7_findMarks 55 rfl) rfl (by decide) ?_
              refine g_iload_n F (q := 92) (dk dX7_findMarks 56 rfl) rfl rfl 3 rfl ?_
              refine g_iconst F (q := 93) (v := 3) (dk dX7_findMarks 57 rfl) rfl (by decide) ?_
              refine g_callVI F (q := 96) (av := [.int 0, .int (nI i), .int 3]) (st := [.int (r (46 + 50 * 0 + 5 * i + 1)), .int (r (146 + 100 * 0 + 10 * i + e)), .int (nI ((mC r e i))), .ref (ad 240)]) (c_X7_come (k := 0) (m := i) (w := 3) hc3 hc4 (by first | assumption | decide | omega)) kv_X7_come tq_770 hc3 rfl (by omega) ⟨rfl, rfl⟩ (by decide) ⟨Nat.le_refl _, Nat.le_refl _⟩ rfl rfl (Nat.le_of_ble_eq_true rfl) (dk dX7_findMarks 58 rfl) rfl (fun r93 E93 hp93 => ?_)
              obtain ⟨rfl, rfl⟩ := hp93
              refine g_aload_n F (q := 97) (dk dX7_findMarks 59 rfl) rfl rfl 1 rfl ?_
              refine g_iconst F (q := 98) (v := 0) (dk dX7_findMarks 60 rfl) rfl (by decide) ?_
              refine g_iload_n F (q := 99) (dk dX7_findMarks 61 rfl) rfl rfl 3 rfl ?_
              refine g_iconst F (q := 100) (v := 0) (dk dX7_findMarks 62 rfl) rfl (by decide) ?_
              refine g_callVI F (q := 103) (av := [.int 0, .int (nI i), .int 0]) (st := [.int (r (46 + 50 * 0 + 5 * i + 3)), .int (r (46 + 50 * 0 + 5 * i + 1)), .int (r (146 + 100 * 0 + 10 * i + e)), .int (nI ((mC r e i))), .ref (ad 240)]) (c_X7_come (k := 0) (m := i) (w := 0) hc3 hc4 (by first | assumption | decide | omega)) kv_X7_come tq_770 hc3 rfl (by omega) ⟨rfl, rfl⟩ (by decide) ⟨Nat.le_refl _, Nat.le_refl _⟩ rfl rfl (Nat.le_of_ble_eq_true rfl) (dk dX7_findMarks 63 rfl) rfl (fun r100 E100 hp100 => ?_)
              obtain ⟨rfl, rfl⟩ := hp100
              refine g_aload_n F (q := 104) (dk dX7_findMarks 64 rfl) rfl rfl 1 rfl ?_
              refine g_iload_n F (q := 105) (dk dX7_findMarks 65 rfl) rfl rfl 2 rfl ?_
              refine g_iconst F (q := 106) (v := 0) (dk dX7_findMarks 66 rfl) rfl (by decide) ?_
              refine g_callVI F (q := 109) (av := [.int (nI e), .int 0]) (st := [.int (r (46 + 50 * 0 + 5 * i + 0)), .int (r (46 + 50 * 0 + 5 * i + 3)), .int (r (46 + 50 * 0 + 5 * i + 1)), .int (r (146 + 100 * 0 + 10 * i + e)), .int (nI ((mC r e i))), .ref (ad 240)]) (c_X7_of (e := e) (w := 0) hc3 hc4 (by first | assumption | decide | omega)) kv_X7_of tq_718 hc3 rfl (by omega) ⟨rfl, rfl⟩ (by decide) ⟨Nat.le_refl _, Nat.le_refl _⟩ rfl rfl (Nat.le_of_ble_eq_true rfl) (dk dX7_findMarks 67 rfl) rfl (fun r106 E106 hp106 => ?_)
              obtain ⟨rfl, rfl⟩ := hp106
              refine g_callSI F (q := 112) (av := [.int (r (46 + 50 * 0 + 5 * i + 0)), .int (r (6 + 4 * e + 0))]) (st := [.int (r (46 + 50 * 0 + 5 * i + 3)), .int (r (46 + 50 * 0 + 5 * i + 1)), .int (r (146 + 100 * 0 + 10 * i + e)), .int (nI ((mC r e i))), .ref (ad 240)]) (c_X7_far (a := (r (46 + 50 * 0 + 5 * i + 0))) (b := (r (6 + 4 * e + 0)))) ks_X7_far tq_747 ⟨rfl, rfl⟩ (by decide) ⟨Nat.le_refl _, Nat.le_refl _⟩ rfl rfl (Nat.le_of_ble_eq_true rfl) (dk dX7_findMarks 68 rfl) rfl (fun r109 E109 hp109 => ?_)
              obtain ⟨rfl, rfl⟩ := hp109
              refine g_imul F (q := 113) (dk dX7_findMarks 69 rfl) rfl ?_
              refine g_iadd F (q := 114) (dk dX7_findMarks 70 rfl) rfl ?_
              refine g_isub F (q := 115) (dk dX7_findMarks 71 rfl) rfl ?_
              have hc5 := (hO72 240 (by omega)).trans her
              refine g_iast F (q := 116) ((mC r e i)) hc5 (by omega) rfl (by omega) (by decide) (dk dX7_findMarks 72 rfl) rfl (fun E115 hE115 hO115 => ?_)
              refine g_aload_n F (q := 117) (dk dX7_findMarks 73 rfl) rfl rfl 1 rfl ?_
              have hc6 := (hO115 233 (by omega)).trans hc3
              refine g_getf F (q := 120) hc6 rfl inX7 (by omega) (j := 13) (by decide) tq_636 rfl rfl (dk dX7_findMarks 74 rfl) rfl ?_
              refine g_aload_n F (q := 121) (dk dX7_findMarks 75 rfl) rfl rfl 1 rfl ?_
              refine g_getf F (q := 124) hc6 rfl inX7 (by omega) (j := 10) (by decide) tq_633 rfl rfl (dk dX7_findMarks 76 rfl) rfl ?_
              refine g_iload_n F (q := 125) (dk dX7_findMarks 77 rfl) rfl rfl 3 rfl ?_
              have hc7 := (hO72 241 (by omega)).trans hth
              have hc8 := (hO115 241 (by omega)).trans hc7
              refine g_iast F (q := 126) ((mC r e i)) hc8 (by omega) rfl (by omega) (by decide) (dk dX7_findMarks 78 rfl) rfl (fun E125 hE125 hO125 => ?_)
              refine g_aload_n F (q := 127) (dk dX7_findMarks 79 rfl) rfl rfl 1 rfl ?_
              refine g_dup F (q := 128) (dk dX7_findMarks 80 rfl) rfl rfl ?_
              have hc9 := (hO125 233 (by omega)).trans hc6
              refine g_getf F (q := 131) hc9 rfl inX7 (by omega) (j := 10) (by decide) tq_633 rfl rfl (dk dX7_findMarks 81 rfl) rfl ?_
              refine g_iconst F (q := 132) (v := 1) (dk dX7_findMarks 82 rfl) rfl (by decide) ?_
              refine g_iadd F (q := 133) (dk dX7_findMarks 83 rfl) rfl ?_
              refine g_sti (nA rfl rfl) ?_
              refine g_putf F (q := 136) (ty := .int) hc9 rfl inX7 tyX7 tyX7_ok nmX7 (by omega) (j := 10) (by decide) tq_633 rfl rfl (by decide +kernel) rfl rfl (Nat.le_of_ble_eq_true rfl) (dk dX7_findMarks 84 rfl) rfl (fun E133 hE133 hO133 => ?_)
              have hE133 : E133 233 = .inr (7, [.ref (ad 234), .ref (ad 235), .ref (ad 236), .ref (ad 237), .int s0, .int s1, .ref (ad 238), .int s2, .int s3, .int s4, .int (nI (((mC r e i) + 1))), .ref (ad 239), .ref (ad 240), .ref (ad 241), .long lo, .long mo, .ref (ad 242)]) := hE133
              refine g_iinc F (q := 139) (v := (nI ((i + 1)))) (lv' := [(2, .int (nI ((i + 1)))), (3, .int (r (146 + 100 * 0 + 10 * i + e))), (0, .ref (ad 233)), (1, .int (nI e))]) (dk dX7_findMarks 85 rfl) rfl 3 rfl (nI_1 _) (Nat.le_of_ble_eq_true rfl) rfl ?_
              refine g_goto F (tgt := 7) (dk dX7_findMarks 86 rfl) (by decide) ?_
              have hg : mG r e i (mC r e i) (mRd r e i) := ⟨c28, c38, Or.inl nc45⟩
              have hc10 := (hO115 239 (by omega)).trans hE72
              have hc11 := (hO125 239 (by omega)).trans hc10
              have hc12 := (hO133 239 (by omega)).trans hc11
              have hc13 := (hO125 240 (by omega)).trans hE115
              have hc14 := (hO133 240 (by omega)).trans hc13
              have hc15 := (hO133 241 (by omega)).trans hE125
              refine g_lv (lv' := [(0, .ref (ad 233)), (1, .int (nI e)), (2, .int (nI ((i + 1))))]) [2, 3, 0] rfl ?_
              exact ih (i + 1) (upd rd1 ((mC r e i)) (r (146 + 100 * 0 + 10 * i + e))) (upd er1 ((mC r e i)) ((r (146 + 100 * 0 + 10 * i + e)) - ((r (46 + 50 * 0 + 5 * i + 1)) + ((r (46 + 50 * 0 + 5 * i + 3)) * (far (r (46 + 50 * 0 + 5 * i + 0)) (r (6 + 4 * e + 0))))))) (upd th1 ((mC r e i)) (nI i)) E133 (by omega) (by rw [mC_t hg]; exact hE133) hc12 hc14 hc15 (fun j hj => (((((hO133 j (by omega)).trans (hO125 j (by omega))).trans (hO115 j (by omega))).trans (hO72 j (by omega))).trans (hfr7 j (by omega)))) (by omega) (mH_t hg hH rfl rfl)
            · have nc45 : ¬ (mC r e i) = 0 := fun h => c45 ((nI_eq (a := (mC r e i)) (b := 0) (by omega) (by omega)).mpr h)
              refine g_iload_n F (q := 49) (dk dX7_findMarks 29 rfl) rfl rfl 0 rfl ?_
              refine g_aload_n F (q := 50) (dk dX7_findMarks 30 rfl) rfl rfl 1 rfl ?_
              refine g_getf F (q := 53) h3 rfl inX7 (by omega) (j := 11) (by decide) tq_634 rfl rfl (dk dX7_findMarks 31 rfl) rfl ?_
              refine g_aload_n F (q := 54) (dk dX7_findMarks 32 rfl) rfl rfl 1 rfl ?_
              refine g_getf F (q := 57) h3 rfl inX7 (by omega) (j := 10) (by decide) tq_633 rfl rfl (dk dX7_findMarks 33 rfl) rfl ?_
              refine g_iconst F (q := 58) (v := 1) (dk dX7_findMarks 34 rfl) rfl (by decide) ?_
              refine g_isub F (q := 59) (dk dX7_findMarks 35 rfl) rfl ?_
              refine g_sti (y := (nI ((mC r e i - 1)))) (nI_sub1 (by omega)) ?_
              refine g_iald F (q := 60) ((mC r e i - 1)) hrd (by omega) rfl (by omega) (by decide) (dk dX7_findMarks 36 rfl) rfl ?_
              refine g_sti (y := (mRd r e i (mC r e i - 1))) (hH _ (by omega)).1 ?_
              refine g_icmp_le F (q := 63) (tgt := 136) (dk dX7_findMarks 37 rfl) (by decide) rfl (fun c60 => ?_) (fun c60 => ?_)
              · refine g_iinc F (q := 139) (v := (nI ((i + 1)))) (lv' := [(2, .int (nI ((i + 1)))), (3, .int (r (146 + 100 * 0 + 10 * i + e))), (0, .ref (ad 233)), (1, .int (nI e))]) (dk dX7_findMarks 85 rfl) rfl 3 rfl (nI_1 _) (Nat.le_of_ble_eq_true rfl) rfl ?_
                refine g_goto F (tgt := 7) (dk dX7_findMarks 86 rfl) (by decide) ?_
                have hg : ¬ mG r e i (mC r e i) (mRd r e i) := fun h => h.2.2.elim (fun q => nc45 q) (fun q => absurd q (Int32.not_lt.mpr c60))
                refine g_lv (lv' := [(0, .ref (ad 233)), (1, .int (nI e)), (2, .int (nI ((i + 1))))]) [2, 3, 0] rfl ?_
                exact ih (i + 1) rd1 er1 th1 E1 (by omega) (by rw [mC_f hg]; exact h3) hrd her hth (fun j hj => (hfr7 j (by omega))) (by omega) (mH_f hg hH)
              · refine g_aload_n F (q := 64) (dk dX7_findMarks 38 rfl) rfl rfl 1 rfl ?_
                refine g_getf F (q := 67) h3 rfl inX7 (by omega) (j := 11) (by decide) tq_634 rfl rfl (dk dX7_findMarks 39 rfl) rfl ?_
                refine g_aload_n F (q := 68) (dk dX7_findMarks 40 rfl) rfl rfl 1 rfl ?_
                refine g_getf F (q := 71) h3 rfl inX7 (by omega) (j := 10) (by decide) tq_633 rfl rfl (dk dX7_findMarks 41 rfl) rfl ?_
                refine g_iload_n F (q := 72) (dk dX7_findMarks 42 rfl) rfl rfl 0 rfl ?_
                refine g_iast F (q := 73) ((mC r e i)) hrd (by omega) rfl (by omega) (by decide) (dk dX7_findMarks 43 rfl) rfl (fun E72 hE72 hO72 => ?_)
                refine g_aload_n F (q := 74) (dk dX7_findMarks 44 rfl) rfl rfl 1 rfl ?_
                have hc16 := (hO72 233 (by omega)).trans h3
                refine g_getf F (q := 77) hc16 rfl inX7 (by omega) (j := 12) (by decide) tq_635 rfl rfl (dk dX7_findMarks 45 rfl) rfl ?_
                refine g_aload_n F (q := 78) (dk dX7_findMarks 46 rfl) rfl rfl 1 rfl ?_
                refine g_getf F (q := 81) hc16 rfl inX7 (by omega) (j := 10) (by decide) tq_633 rfl rfl (dk dX7_findMarks 47 rfl) rfl ?_
                refine g_iload_n F (q := 82) (dk dX7_findMarks 48 rfl) rfl rfl 0 rfl ?_
                refine g_aload_n F (q := 83) (dk dX7_findMarks 49 rfl) rfl rfl 1 rfl ?_
                refine g_iconst F (q := 84) (v := 0) (dk dX7_findMarks 50 rfl) rfl (by decide) ?_
                refine g_iload_n F (q := 85) (dk dX7_findMarks 51 rfl) rfl rfl 3 rfl ?_
                refine g_iconst F (q := 86) (v := 1) (dk dX7_findMarks 52 rfl) rfl (by decide) ?_
                have hc17 := (hO72 234 (by omega)).trans hc2
                refine g_callVI F (q := 89) (av := [.int 0, .int (nI i), .int 1]) (st := [.int (r (146 + 100 * 0 + 10 * i + e)), .int (nI ((mC r e i))), .ref (ad 240)]) (c_X7_come (k := 0) (m := i) (w := 1) hc16 hc17 (by first | assumption | decide | omega)) kv_X7_come tq_770 hc16 rfl (by omega) ⟨rfl, rfl⟩ (by decide) ⟨Nat.le_refl _, Nat.le_refl _⟩ rfl rfl (Nat.le_of_ble_eq_true rfl) (dk dX7_findMarks 53 rfl) rfl (fun r86 E86 hp86 => ?_)
                obtain ⟨rfl, rfl⟩ := hp86
                refine g_aload_n F (q := 90) (dk dX7_findMarks 54 rfl) rfl rfl 1 rfl ?_
                refine g_iconst F (q := 91) (v := 0) (dk dX7_findMarks 55 rfl) rfl (by decide) ?_
                refine g_iload_n F (q := 92) (dk dX7_findMarks 56 rfl) rfl rfl 3 rfl ?_
                refine g_iconst F (q := 93) (v := 3) (dk dX7_findMarks 57 rfl) rfl (by decide) ?_
                refine g_callVI F (q := 96) (av := [.int 0, .int (nI i), .int 3]) (st := [.int (r (46 + 50 * 0 + 5 * i + 1)), .int (r (146 + 100 * 0 + 10 * i + e)), .int (nI ((mC r e i))), .ref (ad 240)]) (c_X7_come (k := 0) (m := i) (w := 3) hc16 hc17 (by first | assumption | decide | omega)) kv_X7_come tq_770 hc16 rfl (by omega) ⟨rfl, rfl⟩ (by decide) ⟨Nat.le_refl _, Nat.le_refl _⟩ rfl rfl (Nat.le_of_ble_eq_true rfl) (dk dX7_findMarks 58 rfl) rfl (fun r93 E93 hp93 => ?_)
                obtain ⟨rfl, rfl⟩ := hp93
                refine g_aload_n F (q := 97) (dk dX7_findMarks 59 rfl) rfl rfl 1 rfl ?_
                refine g_iconst F (q := 98) (v := 0) (dk dX7_findMarks 60 rfl) rfl (by decide) ?_
                refine g_iload_n F (q := 99) (dk dX7_findMarks 61 rfl) rfl rfl 3 rfl ?_
                refine g_iconst F (q := 100) (v := 0) (dk dX7_findMarks 62 rfl) rfl (by decide) ?_
                refine g_callVI F (q := 103) (av := [.int 0, .int (nI i), .int 0]) (st := [.int (r (46 + 50 * 0 + 5 * i + 3)), .int (r (46 + 50 * 0 + 5 * i + 1)), .int (r (146 + 100 * 0 + 10 * i + e)), .int (nI ((mC r e i))), .ref (ad 240)]) (c_X7_come (k := 0) (m := i) (w := 0) hc16 hc17 (by first | assumption | decide | omega)) kv_X7_come tq_770 hc16 rfl (by omega) ⟨rfl, rfl⟩ (by decide) ⟨Nat.le_refl _, Nat.le_refl _⟩ rfl rfl (Nat.le_of_ble_eq_true rfl) (dk dX7_findMarks 63 rfl) rfl (fun r100 E100 hp100 => ?_)
                obtain ⟨rfl, rfl⟩ := hp100
                refine g_aload_n F (q := 104) (dk dX7_findMarks 64 rfl) rfl rfl 1 rfl ?_
                refine g_iload_n F (q := 105) (dk dX7_findMarks 65 rfl) rfl rfl 2 rfl ?_
                refine g_iconst F (q := 106) (v := 0) (dk dX7_findMarks 66 rfl) rfl (by decide) ?_
                refine g_callVI F (q := 109) (av := [.int (nI e), .int 0]) (st := [.int (r (46 + 50 * 0 + 5 * i + 0)), .int (r (46 + 50 * 0 + 5 * i + 3)), .int (r (46 + 50 * 0 + 5 * i + 1)), .int (r (146 + 100 * 0 + 10 * i + e)), .int (nI ((mC r e i))), .ref (ad 240)]) (c_X7_of (e := e) (w := 0) hc16 hc17 (by first | assumption | decide | omega)) kv_X7_of tq_718 hc16 rfl (by omega) ⟨rfl, rfl⟩ (by decide) ⟨Nat.le_refl _, Nat.le_refl _⟩ rfl rfl (Nat.le_of_ble_eq_true rfl) (dk dX7_findMarks 67 rfl) rfl (fun r106 E106 hp106 => ?_)
                obtain ⟨rfl, rfl⟩ := hp106
                refine g_callSI F (q := 112) (av := [.int (r (46 + 50 * 0 + 5 * i + 0)), .int (r (6 + 4 * e + 0))]) (st := [.int (r (46 + 50 * 0 + 5 * i + 3)), .int (r (46 + 50 * 0 + 5 * i + 1)), .int (r (146 + 100 * 0 + 10 * i + e)), .int (nI ((mC r e i))), .ref (ad 240)]) (c_X7_far (a := (r (46 + 50 * 0 + 5 * i + 0))) (b := (r (6 + 4 * e + 0)))) ks_X7_far tq_747 ⟨rfl, rfl⟩ (by decide) ⟨Nat.le_refl _, Nat.le_refl _⟩ rfl rfl (Nat.le_of_ble_eq_true rfl) (dk dX7_findMarks 68 rfl) rfl (fun r109 E109 hp109 => ?_)
                obtain ⟨rfl, rfl⟩ := hp109
                refine g_imul F (q := 113) (dk dX7_findMarks 69 rfl) rfl ?_
                refine g_iadd F (q := 114) (dk dX7_findMarks 70 rfl) rfl ?_
                refine g_isub F (q := 115) (dk dX7_findMarks 71 rfl) rfl ?_
                have hc18 := (hO72 240 (by omega)).trans her
                refine g_iast F (q := 116) ((mC r e i)) hc18 (by omega) rfl (by omega) (by decide) (dk dX7_findMarks 72 rfl) rfl (fun E115 hE115 hO115 => ?_)
                refine g_aload_n F (q := 117) (dk dX7_findMarks 73 rfl) rfl rfl 1 rfl ?_
                have hc19 := (hO115 233 (by omega)).trans hc16
                refine g_getf F (q := 120) hc19 rfl inX7 (by omega) (j := 13) (by decide) tq_636 rfl rfl (dk dX7_findMarks 74 rfl) rfl ?_
                refine g_aload_n F (q := 121) (dk dX7_findMarks 75 rfl) rfl rfl 1 rfl ?_
                refine g_getf F (q := 124) hc19 rfl inX7 (by omega) (j := 10) (by decide) tq_633 rfl rfl (dk dX7_findMarks 76 rfl) rfl ?_
                refine g_iload_n F (q := 125) (dk dX7_findMarks 77 rfl) rfl rfl 3 rfl ?_
                have hc20 := (hO72 241 (by omega)).trans hth
                have hc21 := (hO115 241 (by omega)).trans hc20
                refine g_iast F (q := 126) ((mC r e i)) hc21 (by omega) rfl (by omega) (by decide) (dk dX7_findMarks 78 rfl) rfl (fun E125 hE125 hO125 => ?_)
                refine g_aload_n F (q := 127) (dk dX7_findMarks 79 rfl) rfl rfl 1 rfl ?_
                refine g_dup F (q := 128) (dk dX7_findMarks 80 rfl) rfl rfl ?_
                have hc22 := (hO125 233 (by omega)).trans hc19
                refine g_getf F (q := 131) hc22 rfl inX7 (by omega) (j := 10) (by decide) tq_633 rfl rfl (dk dX7_findMarks 81 rfl) rfl ?_
                refine g_iconst F (q := 132) (v := 1) (dk dX7_findMarks 82 rfl) rfl (by decide) ?_
                refine g_iadd F (q := 133) (dk dX7_findMarks 83 rfl) rfl ?_
                refine g_sti (nA rfl rfl) ?_
                refine g_putf F (q := 136) (ty := .int) hc22 rfl inX7 tyX7 tyX7_ok nmX7 (by omega) (j := 10) (by decide) tq_633 rfl rfl (by decide +kernel) rfl rfl (Nat.le_of_ble_eq_true rfl) (dk dX7_findMarks 84 rfl) rfl (fun E133 hE133 hO133 => ?_)
                have hE133 : E133 233 = .inr (7, [.ref (ad 234), .ref (ad 235), .ref (ad 236), .ref (ad 237), .int s0, .int s1, .ref (ad 238), .int s2, .int s3, .int s4, .int (nI (((mC r e i) + 1))), .ref (ad 239), .ref (ad 240), .ref (ad 241), .long lo, .long mo, .ref (ad 242)]) := hE133
                refine g_iinc F (q := 139) (v := (nI ((i + 1)))) (lv' := [(2, .int (nI ((i + 1)))), (3, .int (r (146 + 100 * 0 + 10 * i + e))), (0, .ref (ad 233)), (1, .int (nI e))]) (dk dX7_findMarks 85 rfl) rfl 3 rfl (nI_1 _) (Nat.le_of_ble_eq_true rfl) rfl ?_
                refine g_goto F (tgt := 7) (dk dX7_findMarks 86 rfl) (by decide) ?_
                have hg : mG r e i (mC r e i) (mRd r e i) := ⟨c28, c38, Or.inr (Int32.not_le.mp c60)⟩
                have hc23 := (hO115 239 (by omega)).trans hE72
                have hc24 := (hO125 239 (by omega)).trans hc23
                have hc25 := (hO133 239 (by omega)).trans hc24
                have hc26 := (hO125 240 (by omega)).trans hE115
                have hc27 := (hO133 240 (by omega)).trans hc26
                have hc28 := (hO133 241 (by omega)).trans hE125
                refine g_lv (lv' := [(0, .ref (ad 233)), (1, .int (nI e)), (2, .int (nI ((i + 1))))]) [2, 3, 0] rfl ?_
                exact ih (i + 1) (upd rd1 ((mC r e i)) (r (146 + 100 * 0 + 10 * i + e))) (upd er1 ((mC r e i)) ((r (146 + 100 * 0 + 10 * i + e)) - ((r (46 + 50 * 0 + 5 * i + 1)) + ((r (46 + 50 * 0 + 5 * i + 3)) * (far (r (46 + 50 * 0 + 5 * i + 0)) (r (6 + 4 * e + 0))))))) (upd th1 ((mC r e i)) (nI i)) E133 (by omega) (by rw [mC_t hg]; exact hE133) hc25 hc27 hc28 (fun j hj => (((((hO133 j (by omega)).trans (hO125 j (by omega))).trans (hO115 j (by omega))).trans (hO72 j (by omega))).trans (hfr7 j (by omega)))) (by omega) (mH_t hg hH rfl rfl)
  refine g_lv (lv' := [(0, .ref (ad 233)), (1, .int (nI e)), (2, .int 0)]) [1, 2, 0] rfl ?_
  have hc29 := (hO2 239 (by omega)).trans h239
  have hc30 := (hO2 240 (by omega)).trans h240
  have hc31 := (hO2 241 (by omega)).trans h241
  exact K7 _ 0 rd er th E2 (Nat.lt_succ_self _) hE2 hc29 hc30 hc31 (fun j _ => rfl) (by omega) mH_0
theorem kv_X7_findMarks : KV yX7_findMarks "ThumpEarsModel" cX7_findMarks 4 (none) 1 := ⟨tq_820, tq_27, tq_47, tq_821, by decide +kernel⟩
