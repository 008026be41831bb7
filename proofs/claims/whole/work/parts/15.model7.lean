abbrev rm_X7_errorAt : Room := { frames := 2, cells := 0, slots := 0, locals := 46 }
set_option maxHeartbeats 4000000 in
set_option maxRecDepth 100000 in
theorem c_X7_errorAt {l : Launch} {D : va_G} {cA : Nat → ClassId} {ad : Nat → Nat} {E : Nat → va_E} {s0 s1 s2 s3 s4 s5 : Int32} {lo mo : Int64} {r rd er th : Nat → Int32} {ne nt nk : Nat} {e : Nat} {c : Int32} (h233 : E 233 = .inr (7, [.ref (ad 234), .ref (ad 235), .ref (ad 236), .ref (ad 237), .int s0, .int s1, .ref (ad 238), .int s2, .int s3, .int s4, .int s5, .ref (ad 239), .ref (ad 240), .ref (ad 241), .long lo, .long mo, .ref (ad 242)])) (h234 : E 234 = .inl (cA 0, 346, .inl r)) (h239 : E 239 = .inl (cA 0, 10, .inl rd)) (h240 : E 240 = .inl (cA 0, 10, .inl er)) (h241 : E 241 = .inl (cA 0, 10, .inl th))  (he : e < 10) (hI : Inv r ne nt nk) : CtL l D cA yX7_errorAt cX7_errorAt 6 rm_X7_errorAt 243 ad E [.ref (ad 233), .int (nI e), .int c] (fun x E' => ∃ (m2 : Int32) (rd1 : Nat → Int32) (er1 : Nat → Int32) (th1 : Nat → Int32), (errR r e nt c) = x ∧ E' 233 = .inr (7, [.ref (ad 234), .ref (ad 235), .ref (ad 236), .ref (ad 237), .int s0, .int s1, .ref (ad 238), .int s2, .int s3, .int s4, .int m2, .ref (ad 239), .ref (ad 240), .ref (ad 241), .long lo, .long mo, .ref (ad 242)]) ∧ E' 239 = .inl (cA 0, 10, .inl rd1) ∧ E' 240 = .inl (cA 0, 10, .inl er1) ∧ E' 241 = .inl (cA 0, 10, .inl th1) ∧ ∀ j, (j ≠ 233 ∧ j ≠ 239 ∧ j ≠ 240 ∧ j ≠ 241) → E' j = E j) := by
  refine CtL.of (by decide +kernel) (Nat.le_of_ble_eq_true rfl) (fun X F hret => ?_)
  have F : Fr "ThumpEarsModel" cX7_errorAt 6 D cA X := F
  refine (show GG rm_X7_errorAt 6 l D X 0 0 243 ad E 0 [(0, .ref (ad 233)), (1, .int (nI e)), (2, .int c)] [] from ?_)
  refine g_aload_n F (q := 1) (dk dX7_errorAt 0 rfl) rfl rfl 0 rfl ?_
  refine g_iload_n F (q := 2) (dk dX7_errorAt 1 rfl) rfl rfl 1 rfl ?_
  refine g_callVV F (q := 5) (av := [.int (nI e)]) (st := []) (c_X7_findMarks (e := e) h233 h234 h239 h240 h241 (by first | assumption | decide | omega) hI.h1 hI.e1) kv_X7_findMarks tq_818 h233 rfl (by omega) ⟨rfl, rfl⟩ (by decide) ⟨Nat.le_refl _, Nat.le_refl _⟩ rfl rfl (Nat.le_of_ble_eq_true rfl) (dk dX7_errorAt 2 rfl) rfl (fun E2 hp2 => ?_)
  obtain ⟨rd1_2, er1_2, th1_2, hK233_2, hK239_2, hK240_2, hK241_2, hH_2, hF2⟩ := hp2
  have hml := mC_le (r := r) (e := e) nt
  have hnt := hI.e1
  refine g_aload_n F (q := 6) (dk dX7_errorAt 3 rfl) rfl rfl 0 rfl ?_
  refine g_getf F (q := 9) hK233_2 rfl inX7 (by omega) (j := 10) (by decide) tq_633 rfl rfl (dk dX7_errorAt 4 rfl) rfl ?_
  refine g_iconst F (q := 10) (v := 2) (dk dX7_errorAt 5 rfl) rfl (by decide) ?_
  refine g_icmp_ge F (q := 13) (tgt := 36) (dk dX7_errorAt 6 rfl) (by decide) rfl (fun c10 => ?_) (fun c10 => ?_)
  · have nc10 : 2 ≤ (mC r e nt) := (nI_leI (a := 2) (b := (mC r e nt)) (by omega) (by omega)).mp c10
    refine g_iconst F (q := 37) (v := 0) (dk dX7_errorAt 20 rfl) rfl (by decide) ?_
    refine g_istore_n F (q := 38) (lv' := [(3, .int 0), (0, .ref (ad 233)), (1, .int (nI e)), (2, .int c)]) (dk dX7_errorAt 21 rfl) rfl rfl (Nat.le_of_ble_eq_true rfl) rfl ?_
    have K38 : ∀ (fu : Nat) (k : Nat), 10 - k < fu → (hk : k ≤ mC r e nt - 2) → (hkle : k = 0 ∨ mRd r e nt k ≤ c) → GG rm_X7_errorAt 6 l D X 0 0 243 ad E2 38 [(0, .ref (ad 233)), (1, .int (nI e)), (2, .int c), (3, .int (nI k))] [] := by
      intro fu
      induction fu with
      | zero => intro k hfu_; exact absurd hfu_ (Nat.not_lt_zero _)
      | succ fu ih =>
        intro k hfu_ hk hkle
        refine g_iload_n F (q := 39) (dk dX7_errorAt 22 rfl) rfl rfl 3 rfl ?_
        refine g_aload_n F (q := 40) (dk dX7_errorAt 23 rfl) rfl rfl 0 rfl ?_
        refine g_getf F (q := 43) hK233_2 rfl inX7 (by omega) (j := 10) (by decide) tq_633 rfl rfl (dk dX7_errorAt 24 rfl) rfl ?_
        refine g_iconst F (q := 44) (v := 2) (dk dX7_errorAt 25 rfl) rfl (by decide) ?_
        refine g_isub F (q := 45) (dk dX7_errorAt 26 rfl) rfl ?_
        refine g_sti (y := (nI ((mC r e nt - 2)))) (by rw [show (2 : Int32) = nI 2 from rfl, pk_sub (by omega)]) ?_
        refine g_icmp_ge F (q := 48) (tgt := 66) (dk dX7_errorAt 27 rfl) (by decide) rfl (fun c45 => ?_) (fun c45 => ?_)
        · have nc45 : (mC r e nt - 2) ≤ k := (nI_leI (a := (mC r e nt - 2)) (b := k) (by omega) (by omega)).mp c45
          have hnz : ¬ (rd1_2 (k + 1) - rd1_2 k).toInt64 = 0 := by rw [(hH_2 k (by omega)).1, (hH_2 (k + 1) (by omega)).1]; exact (df_nz (mRd_b hI he (by omega)) (mRd_b hI he (by omega)) (mRd_mono nt k (by omega))).2
          refine g_ldc2 F (q := 69) (v := 1000) (dk dX7_errorAt 38 rfl) rfl tq_852 ?_
          refine g_aload_n F (q := 70) (dk dX7_errorAt 39 rfl) rfl rfl 0 rfl ?_
          refine g_getf F (q := 73) hK233_2 rfl inX7 (by omega) (j := 12) (by decide) tq_635 rfl rfl (dk dX7_errorAt 40 rfl) rfl ?_
          refine g_iload_n F (q := 74) (dk dX7_errorAt 41 rfl) rfl rfl 3 rfl ?_
          refine g_iconst F (q := 75) (v := 1) (dk dX7_errorAt 42 rfl) rfl (by decide) ?_
          refine g_iadd F (q := 76) (dk dX7_errorAt 43 rfl) rfl ?_
          refine g_sti (y := (nI ((k + 1)))) (nI_1 k) ?_
          refine g_iald F (q := 77) ((k + 1)) hK240_2 (by omega) rfl (by omega) (by decide) (dk dX7_errorAt 44 rfl) rfl ?_
          refine g_aload_n F (q := 78) (dk dX7_errorAt 45 rfl) rfl rfl 0 rfl ?_
          refine g_getf F (q := 81) hK233_2 rfl inX7 (by omega) (j := 12) (by decide) tq_635 rfl rfl (dk dX7_errorAt 46 rfl) rfl ?_
          refine g_iload_n F (q := 82) (dk dX7_errorAt 47 rfl) rfl rfl 3 rfl ?_
          refine g_iald F (q := 83) k hK240_2 (by omega) rfl (by omega) (by decide) (dk dX7_errorAt 48 rfl) rfl ?_
          refine g_isub F (q := 84) (dk dX7_errorAt 49 rfl) rfl ?_
          refine g_i2l F (q := 85) (dk dX7_errorAt 50 rfl) rfl ?_
          refine g_lmul F (q := 86) (dk dX7_errorAt 51 rfl) rfl ?_
          refine g_iload_n F (q := 87) (dk dX7_errorAt 52 rfl) rfl rfl 2 rfl ?_
          refine g_aload_n F (q := 88) (dk dX7_errorAt 53 rfl) rfl rfl 0 rfl ?_
          refine g_getf F (q := 91) hK233_2 rfl inX7 (by omega) (j := 11) (by decide) tq_634 rfl rfl (dk dX7_errorAt 54 rfl) rfl ?_
          refine g_iload_n F (q := 92) (dk dX7_errorAt 55 rfl) rfl rfl 3 rfl ?_
          refine g_iald F (q := 93) k hK239_2 (by omega) rfl (by omega) (by decide) (dk dX7_errorAt 56 rfl) rfl ?_
          refine g_isub F (q := 94) (dk dX7_errorAt 57 rfl) rfl ?_
          refine g_i2l F (q := 95) (dk dX7_errorAt 58 rfl) rfl ?_
          refine g_lmul F (q := 96) (dk dX7_errorAt 59 rfl) rfl ?_
          refine g_lstore F (q := 98) (lv' := [(4, .long ((1000 * ((er1_2 ((k + 1))) - (er1_2 k)).toInt64) * (c - (rd1_2 k)).toInt64)), (0, .ref (ad 233)), (1, .int (nI e)), (2, .int c), (3, .int (nI k))]) (dk dX7_errorAt 60 rfl) rfl (Nat.le_of_ble_eq_true rfl) rfl ?_
          refine g_ldc2 F (q := 101) (v := 1000) (dk dX7_errorAt 61 rfl) rfl tq_852 ?_
          refine g_aload_n F (q := 102) (dk dX7_errorAt 62 rfl) rfl rfl 1 rfl ?_
          refine g_getf F (q := 105) hK233_2 rfl inX7 (by omega) (j := 12) (by decide) tq_635 rfl rfl (dk dX7_errorAt 63 rfl) rfl ?_
          refine g_iload_n F (q := 106) (dk dX7_errorAt 64 rfl) rfl rfl 4 rfl ?_
          refine g_iald F (q := 107) k hK240_2 (by omega) rfl (by omega) (by decide) (dk dX7_errorAt 65 rfl) rfl ?_
          refine g_i2l F (q := 108) (dk dX7_errorAt 66 rfl) rfl ?_
          refine g_lmul F (q := 109) (dk dX7_errorAt 67 rfl) rfl ?_
          refine g_lload F (q := 111) (dk dX7_errorAt 68 rfl) rfl 0 rfl ?_
          refine g_aload_n F (q := 112) (dk dX7_errorAt 69 rfl) rfl rfl 1 rfl ?_
          refine g_getf F (q := 115) hK233_2 rfl inX7 (by omega) (j := 11) (by decide) tq_634 rfl rfl (dk dX7_errorAt 70 rfl) rfl ?_
          refine g_iload_n F (q := 116) (dk dX7_errorAt 71 rfl) rfl rfl 4 rfl ?_
          refine g_iconst F (q := 117) (v := 1) (dk dX7_errorAt 72 rfl) rfl (by decide) ?_
          refine g_iadd F (q := 118) (dk dX7_errorAt 73 rfl) rfl ?_
          refine g_sti (y := (nI ((k + 1)))) (nI_1 k) ?_
          refine g_iald F (q := 119) ((k + 1)) hK239_2 (by omega) rfl (by omega) (by decide) (dk dX7_errorAt 74 rfl) rfl ?_
          refine g_aload_n F (q := 120) (dk dX7_errorAt 75 rfl) rfl rfl 1 rfl ?_
          refine g_getf F (q := 123) hK233_2 rfl inX7 (by omega) (j := 11) (by decide) tq_634 rfl rfl (dk dX7_errorAt 76 rfl) rfl ?_
          refine g_iload_n F (q := 124) (dk dX7_errorAt 77 rfl) rfl rfl 4 rfl ?_
          refine g_iald F (q := 125) k hK239_2 (by omega) rfl (by omega) (by decide) (dk dX7_errorAt 78 rfl) rfl ?_
          refine g_isub F (q := 126) (dk dX7_errorAt 79 rfl) rfl ?_
          refine g_i2l F (q := 127) (dk dX7_errorAt 80 rfl) rfl ?_
          refine g_callSL F (q := 130) (av := [.long ((1000 * ((er1_2 ((k + 1))) - (er1_2 k)).toInt64) * (c - (rd1_2 k)).toInt64), .long ((rd1_2 ((k + 1))) - (rd1_2 k)).toInt64]) (st := [.long (1000 * (er1_2 k).toInt64)]) (c_X7_down (a := ((1000 * ((er1_2 ((k + 1))) - (er1_2 k)).toInt64) * (c - (rd1_2 k)).toInt64)) (b := ((rd1_2 ((k + 1))) - (rd1_2 k)).toInt64) (by first | assumption | decide | omega)) ks_X7_down tq_755 ⟨rfl, rfl⟩ (by decide) ⟨Nat.le_refl _, Nat.le_refl _⟩ rfl rfl (Nat.le_of_ble_eq_true rfl) (dk dX7_errorAt 81 rfl) rfl (fun r127 E127 hp127 => ?_)
          obtain ⟨rfl, rfl⟩ := hp127
          refine g_ladd F (q := 131) (dk dX7_errorAt 82 rfl) rfl ?_
          have hfk : fI (mRd r e nt) c (mC r e nt - 2) = k := fI_ex (fun j hj => mRd_mono nt j hj) _ (by omega) hk hkle (Or.inl (by omega))
          refine hret ((1000 * (er1_2 k).toInt64) + (dn ((1000 * ((er1_2 ((k + 1))) - (er1_2 k)).toInt64) * (c - (rd1_2 k)).toInt64) (((rd1_2 ((k + 1))) - (rd1_2 k)).toInt64))) E2 _ _ (dk dX7_errorAt 83 rfl) ?_
          exact ⟨_, _, _, _, (by unfold errR eA; rw [if_neg (by omega), hfk, (hH_2 k (by omega)).2.1, (hH_2 (k + 1) (by omega)).2.1, (hH_2 k (by omega)).1, (hH_2 (k + 1) (by omega)).1]), hK233_2, hK239_2, hK240_2, hK241_2, (fun j hj => (hF2 j (by omega)))⟩
        · have nc45 : ¬ (mC r e nt - 2) ≤ k := fun h => c45 ((nI_leI (a := (mC r e nt - 2)) (b := k) (by omega) (by omega)).mpr h)
          refine g_aload_n F (q := 49) (dk dX7_errorAt 28 rfl) rfl rfl 0 rfl ?_
          refine g_getf F (q := 52) hK233_2 rfl inX7 (by omega) (j := 11) (by decide) tq_634 rfl rfl (dk dX7_errorAt 29 rfl) rfl ?_
          refine g_iload_n F (q := 53) (dk dX7_errorAt 30 rfl) rfl rfl 3 rfl ?_
          refine g_iconst F (q := 54) (v := 1) (dk dX7_errorAt 31 rfl) rfl (by decide) ?_
          refine g_iadd F (q := 55) (dk dX7_errorAt 32 rfl) rfl ?_
          refine g_sti (y := (nI ((k + 1)))) (nI_1 k) ?_
          refine g_iald F (q := 56) ((k + 1)) hK239_2 (by omega) rfl (by omega) (by decide) (dk dX7_errorAt 33 rfl) rfl ?_
          refine g_iload_n F (q := 57) (dk dX7_errorAt 34 rfl) rfl rfl 2 rfl ?_
          refine g_icmp_gt F (q := 60) (tgt := 66) (dk dX7_errorAt 35 rfl) (by decide) rfl (fun c57 => ?_) (fun c57 => ?_)
          · have hnz : ¬ (rd1_2 (k + 1) - rd1_2 k).toInt64 = 0 := by rw [(hH_2 k (by omega)).1, (hH_2 (k + 1) (by omega)).1]; exact (df_nz (mRd_b hI he (by omega)) (mRd_b hI he (by omega)) (mRd_mono nt k (by omega))).2
            refine g_ldc2 F (q := 69) (v := 1000) (dk dX7_errorAt 38 rfl) rfl tq_852 ?_
            refine g_aload_n F (q := 70) (dk dX7_errorAt 39 rfl) rfl rfl 0 rfl ?_
            refine g_getf F (q := 73) hK233_2 rfl inX7 (by omega) (j := 12) (by decide) tq_635 rfl rfl (dk dX7_errorAt 40 rfl) rfl ?_
            refine g_iload_n F (q := 74) (dk dX7_errorAt 41 rfl) rfl rfl 3 rfl ?_
            refine g_iconst F (q := 75) (v := 1) (dk dX7_errorAt 42 rfl) rfl (by decide) ?_
            refine g_iadd F (q := 76) (dk dX7_errorAt 43 rfl) rfl ?_
            refine g_sti (y := (nI ((k + 1)))) (nI_1 k) ?_
            refine g_iald F (q := 77) ((k + 1)) hK240_2 (by omega) rfl (by omega) (by decide) (dk dX7_errorAt 44 rfl) rfl ?_
            refine g_aload_n F (q := 78) (dk dX7_errorAt 45 rfl) rfl rfl 0 rfl ?_
            refine g_getf F (q := 81) hK233_2 rfl inX7 (by omega) (j := 12) (by decide) tq_635 rfl rfl (dk dX7_errorAt 46 rfl) rfl ?_
            refine g_iload_n F (q := 82) (dk dX7_errorAt 47 rfl) rfl rfl 3 rfl ?_
            refine g_iald F (q := 83) k hK240_2 (by omega) rfl (by omega) (by decide) (dk dX7_errorAt 48 rfl) rfl ?_
            refine g_isub F (q := 84) (dk dX7_errorAt 49 rfl) rfl ?_
            refine g_i2l F (q := 85) (dk dX7_errorAt 50 rfl) rfl ?_
            refine g_lmul F (q := 86) (dk dX7_errorAt 51 rfl) rfl ?_
            refine g_iload_n F (q := 87) (dk dX7_errorAt 52 rfl) rfl rfl 2 rfl ?_
            refine g_aload_n F (q := 88) (dk dX7_errorAt 53 rfl) rfl rfl 0 rfl ?_
            refine g_getf F (q := 91) hK233_2 rfl inX7 (by omega) (j := 11) (by decide) tq_634 rfl rfl (dk dX7_errorAt 54 rfl) rfl ?_
            refine g_iload_n F (q := 92) (dk dX7_errorAt 55 rfl) rfl rfl 3 rfl ?_
            refine g_iald F (q := 93) k hK239_2 (by omega) rfl (by omega) (by decide) (dk dX7_errorAt 56 rfl) rfl ?_
            refine g_isub F (q := 94) (dk dX7_errorAt 57 rfl) rfl ?_
            refine g_i2l F (q := 95) (dk dX7_errorAt 58 rfl) rfl ?_
            refine g_lmul F (q := 96) (dk dX7_errorAt 59 rfl) rfl ?_
            refine g_lstore F (q := 98) (lv' := [(4, .long ((1000 * ((er1_2 ((k + 1))) - (er1_2 k)).toInt64) * (c - (rd1_2 k)).toInt64)), (0, .ref (ad 233)), (1, .int (nI e)), (2, .int c), (3, .int (nI k))]) (dk dX7_errorAt 60 rfl) rfl (Nat.le_of_ble_eq_true rfl) rfl ?_
            refine g_ldc2 F (q := 101) (v := 1000) (dk dX7_errorAt 61 rfl) rfl tq_852 ?_
            refine g_aload_n F (q := 102) (dk dX7_errorAt 62 rfl) rfl rfl 1 rfl ?_
            refine g_getf F (q := 105) hK233_2 rfl inX7 (by omega) (j := 12) (by decide) tq_635 rfl rfl (dk dX7_errorAt 63 rfl) rfl ?_
            refine g_iload_n F (q := 106) (dk dX7_errorAt 64 rfl) rfl rfl 4 rfl ?_
            refine g_iald F (q := 107) k hK240_2 (by omega) rfl (by omega) (by decide) (dk dX7_errorAt 65 rfl) rfl ?_
            refine g_i2l F (q := 108) (dk dX7_errorAt 66 rfl) rfl ?_
            refine g_lmul F (q := 109) (dk dX7_errorAt 67 rfl) rfl ?_
            refine g_lload F (q := 111) (dk dX7_errorAt 68 rfl) rfl 0 rfl ?_
            refine g_aload_n F (q := 112) (dk dX7_errorAt 69 rfl) rfl rfl 1 rfl ?_
            refine g_getf F (q := 115) hK233_2 rfl inX7 (by omega) (j := 11) (by decide) tq_634 rfl rfl (dk dX7_errorAt 70 rfl) rfl ?_
            refine g_iload_n F (q := 116) (dk dX7_errorAt 71 rfl) rfl rfl 4 rfl ?_
            refine g_iconst F (q := 117) (v := 1) (dk dX7_errorAt 72 rfl) rfl (by decide) ?_
            refine g_iadd F (q := 118) (dk dX7_errorAt 73 rfl) rfl ?_
            refine g_sti (y := (nI ((k + 1)))) (nI_1 k) ?_
            refine g_iald F (q := 119) ((k + 1)) hK239_2 (by omega) rfl (by omega) (by decide) (dk dX7_errorAt 74 rfl) rfl ?_
            refine g_aload_n F (q := 120) (dk dX7_errorAt 75 rfl) rfl rfl 1 rfl ?_
            refine g_getf F (q := 123) hK233_2 rfl inX7 (by omega) (j := 11) (by decide) tq_634 rfl rfl (dk dX7_errorAt 76 rfl) rfl ?_
            refine g_iload_n F (q := 124) (dk dX7_errorAt 77 rfl) rfl rfl 4 rfl ?_
            refine g_iald F (q := 125) k hK239_2 (by omega) rfl (by omega) (by decide) (dk dX7_errorAt 78 rfl) rfl ?_
            refine g_isub F (q := 126) (dk dX7_errorAt 79 rfl) rfl ?_
            refine g_i2l F (q := 127) (dk dX7_errorAt 80 rfl) rfl ?_
            refine g_callSL F (q := 130) (av := [.long ((1000 * ((er1_2 ((k + 1))) - (er1_2 k)).toInt64) * (c - (rd1_2 k)).toInt64), .long ((rd1_2 ((k + 1))) - (rd1_2 k)).toInt64]) (st := [.long (1000 * (er1_2 k).toInt64)]) (c_X7_down (a := ((1000 * ((er1_2 ((k + 1))) - (er1_2 k)).toInt64) * (c - (rd1_2 k)).toInt64)) (b := ((rd1_2 ((k + 1))) - (rd1_2 k)).toInt64) (by first | assumption | decide | omega)) ks_X7_down tq_755 ⟨rfl, rfl⟩ (by decide) ⟨Nat.le_refl _, Nat.le_refl _⟩ rfl rfl (Nat.le_of_ble_eq_true rfl) (dk dX7_errorAt 81 rfl) rfl (fun r127 E127 hp127 => ?_)
            obtain ⟨rfl, rfl⟩ := hp127
            refine g_ladd F (q := 131) (dk dX7_errorAt 82 rfl) rfl ?_
            have hfk : fI (mRd r e nt) c (mC r e nt - 2) = k := fI_ex (fun j hj => mRd_mono nt j hj) _ (by omega) hk hkle (Or.inr (by rw [← (hH_2 (k + 1) (by omega)).1]; exact c57))
            refine hret ((1000 * (er1_2 k).toInt64) + (dn ((1000 * ((er1_2 ((k + 1))) - (er1_2 k)).toInt64) * (c - (rd1_2 k)).toInt64) (((rd1_2 ((k + 1))) - (rd1_2 k)).toInt64))) E2 _ _ (dk dX7_errorAt 83 rfl) ?_
            exact ⟨_, _, _, _, (by unfold errR eA; rw [if_neg (by omega), hfk, (hH_2 k (by omega)).2.1, (hH_2 (k + 1) (by omega)).2.1, (hH_2 k (by omega)).1, (hH_2 (k + 1) (by omega)).1]), hK233_2, hK239_2, hK240_2, hK241_2, (fun j hj => (hF2 j (by omega)))⟩
          · refine g_iinc F (q := 63) (v := (nI ((k + 1)))) (lv' := [(3, .int (nI ((k + 1)))), (0, .ref (ad 233)), (1, .int (nI e)), (2, .int c)]) (dk dX7_errorAt 36 rfl) rfl 3 rfl (nI_1 _) (Nat.le_of_ble_eq_true rfl) rfl ?_
            refine g_goto F (tgt := 38) (dk dX7_errorAt 37 rfl) (by decide) ?_
            refine g_lv (lv' := [(0, .ref (ad 233)), (1, .int (nI e)), (2, .int c), (3, .int (nI ((k + 1))))]) [1, 2, 3, 0] rfl ?_
            exact ih (k + 1) (by omega) (by omega) (Or.inr (by rw [← (hH_2 (k + 1) (by omega)).1]; exact Int32.not_lt.mp c57))
    refine g_lv (lv' := [(0, .ref (ad 233)), (1, .int (nI e)), (2, .int c), (3, .int 0)]) [1, 2, 3, 0] rfl ?_
    exact K38 _ 0 (Nat.lt_succ_self _) (by omega) (Or.inl rfl)
  · have nc10 : ¬ 2 ≤ (mC r e nt) := fun h => c10 ((nI_leI (a := 2) (b := (mC r e nt)) (by omega) (by omega)).mpr h)
    refine g_aload_n F (q := 14) (dk dX7_errorAt 7 rfl) rfl rfl 0 rfl ?_
    refine g_getf F (q := 17) hK233_2 rfl inX7 (by omega) (j := 10) (by decide) tq_633 rfl rfl (dk dX7_errorAt 8 rfl) rfl ?_
    refine g_if_ne F (q := 20) (tgt := 24) (dk dX7_errorAt 9 rfl) (by decide) rfl (fun c17 => ?_) (fun c17 => ?_)
    · have nc17 : ¬ (mC r e nt) = 0 := fun h => c17 ((nI_eq (a := (mC r e nt)) (b := 0) (by omega) (by omega)).mpr h)
      refine g_ldc2 F (q := 27) (v := 1000) (dk dX7_errorAt 12 rfl) rfl tq_852 ?_
      refine g_aload_n F (q := 28) (dk dX7_errorAt 13 rfl) rfl rfl 0 rfl ?_
      refine g_getf F (q := 31) hK233_2 rfl inX7 (by omega) (j := 12) (by decide) tq_635 rfl rfl (dk dX7_errorAt 14 rfl) rfl ?_
      refine g_iconst F (q := 32) (v := 0) (dk dX7_errorAt 15 rfl) rfl (by decide) ?_
      refine g_iald F (q := 33) 0 hK240_2 (by omega) rfl (by omega) (by decide) (dk dX7_errorAt 16 rfl) rfl ?_
      refine g_i2l F (q := 34) (dk dX7_errorAt 17 rfl) rfl ?_
      refine g_lmul F (q := 35) (dk dX7_errorAt 18 rfl) rfl ?_
      refine hret (1000 * (er1_2 0).toInt64) E2 _ _ (dk dX7_errorAt 19 rfl) ?_
      exact ⟨_, _, _, _, (by unfold errR eA; rw [if_pos (by omega), if_neg nc17, (hH_2 0 (by omega)).2.1]), hK233_2, hK239_2, hK240_2, hK241_2, (fun j hj => (hF2 j (by omega)))⟩
    · have nc17 : (mC r e nt) = 0 := (nI_eq (a := (mC r e nt)) (b := 0) (by omega) (by omega)).mp c17
      refine g_lconst F (q := 21) (v := 0) (dk dX7_errorAt 10 rfl) rfl (by decide) ?_
      refine g_goto F (tgt := 35) (dk dX7_errorAt 11 rfl) (by decide) ?_
      refine hret 0 E2 _ _ (dk dX7_errorAt 19 rfl) ?_
      exact ⟨_, _, _, _, (by unfold errR eA; rw [if_pos (by omega), if_pos nc17]), hK233_2, hK239_2, hK240_2, hK241_2, (fun j hj => (hF2 j (by omega)))⟩
theorem kv_X7_errorAt : KV yX7_errorAt "ThumpEarsModel" cX7_errorAt 6 (some .long) 2 := ⟨tq_850, tq_30, tq_47, tq_851, by decide +kernel⟩
