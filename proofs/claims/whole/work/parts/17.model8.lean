abbrev rm_X7_rightOf : Room := { frames := 3, cells := 0, slots := 0, locals := 71 }
set_option maxHeartbeats 4000000 in
set_option maxRecDepth 100000 in
theorem c_X7_rightOf {l : Launch} {D : va_G} {cA : Nat → ClassId} {ad : Nat → Nat} {E : Nat → va_E} {s0 s1 s2 s3 s4 s5 : Int32} {lo mo : Int64} {r rd er th : Nat → Int32} {ne nt nk : Nat} {kn e : Nat}  (h233 : E 233 = .inr (7, [.ref (ad 234), .ref (ad 235), .ref (ad 236), .ref (ad 237), .int s0, .int s1, .ref (ad 238), .int s2, .int s3, .int s4, .int s5, .ref (ad 239), .ref (ad 240), .ref (ad 241), .long lo, .long mo, .ref (ad 242)])) (h234 : E 234 = .inl (cA 0, 346, .inl r)) (h239 : E 239 = .inl (cA 0, 10, .inl rd)) (h240 : E 240 = .inl (cA 0, 10, .inl er)) (h241 : E 241 = .inl (cA 0, 10, .inl th))  (hk : kn < nk) (he : e < 10) (hI : Inv r ne nt nk) : CtL l D cA yX7_rightOf cX7_rightOf 4 rm_X7_rightOf 243 ad E [.ref (ad 233), .int (nI kn), .int (nI e)] (fun x E' => ∃ (m2 : Int32) (rd1 : Nat → Int32) (er1 : Nat → Int32) (th1 : Nat → Int32), (rgt r nt kn e) = x ∧ E' 233 = .inr (7, [.ref (ad 234), .ref (ad 235), .ref (ad 236), .ref (ad 237), .int s0, .int s1, .ref (ad 238), .int s2, .int s3, .int s4, .int m2, .ref (ad 239), .ref (ad 240), .ref (ad 241), .long lo, .long mo, .ref (ad 242)]) ∧ E' 239 = .inl (cA 0, 10, .inl rd1) ∧ E' 240 = .inl (cA 0, 10, .inl er1) ∧ E' 241 = .inl (cA 0, 10, .inl th1) ∧ ∀ j, (j ≠ 233 ∧ j ≠ 239 ∧ j ≠ 240 ∧ j ≠ 241) → E' j = E j) := by
  refine CtL.of (by decide +kernel) (Nat.le_of_ble_eq_true rfl) (fun X F hret => ?_)
  have F : Fr "ThumpEarsModel" cX7_rightOf 4 D cA X := F
  refine (show GG rm_X7_rightOf 4 l D X 0 0 243 ad E 0 [(0, .ref (ad 233)), (1, .int (nI kn)), (2, .int (nI e))] [] from ?_)
  have hnk := hI.e2
  refine g_aload_n F (q := 1) (dk dX7_rightOf 0 rfl) rfl rfl 0 rfl ?_
  refine g_iconst F (q := 2) (v := 1) (dk dX7_rightOf 1 rfl) rfl (by decide) ?_
  refine g_iload_n F (q := 3) (dk dX7_rightOf 2 rfl) rfl rfl 1 rfl ?_
  refine g_iload_n F (q := 4) (dk dX7_rightOf 3 rfl) rfl rfl 2 rfl ?_
  refine g_callVI F (q := 7) (av := [.int 1, .int (nI kn), .int (nI e)]) (st := []) (c_X7_heardOf (k := 1) (m := kn) (e := e) h233 h234 (by first | assumption | decide | omega)) kv_X7_heardOf tq_822 h233 rfl (by omega) ⟨rfl, rfl⟩ (by decide) ⟨Nat.le_refl _, Nat.le_refl _⟩ rfl rfl (Nat.le_of_ble_eq_true rfl) (dk dX7_rightOf 4 rfl) rfl (fun r4 E4 hp4 => ?_)
  obtain ⟨rfl, rfl⟩ := hp4
  refine g_istore_n F (q := 8) (lv' := [(3, .int (r (146 + 100 * 1 + 10 * kn + e))), (0, .ref (ad 233)), (1, .int (nI kn)), (2, .int (nI e))]) (dk dX7_rightOf 5 rfl) rfl rfl (Nat.le_of_ble_eq_true rfl) rfl ?_
  refine g_ldc2 F (q := 11) (v := 1000) (dk dX7_rightOf 6 rfl) rfl tq_852 ?_
  refine g_iload_n F (q := 12) (dk dX7_rightOf 7 rfl) rfl rfl 0 rfl ?_
  refine g_i2l F (q := 13) (dk dX7_rightOf 8 rfl) rfl ?_
  refine g_lmul F (q := 14) (dk dX7_rightOf 9 rfl) rfl ?_
  refine g_aload_n F (q := 15) (dk dX7_rightOf 10 rfl) rfl rfl 1 rfl ?_
  refine g_iload_n F (q := 16) (dk dX7_rightOf 11 rfl) rfl rfl 3 rfl ?_
  refine g_iload_n F (q := 17) (dk dX7_rightOf 12 rfl) rfl rfl 0 rfl ?_
  refine g_callVL F (q := 20) (av := [.int (nI e), .int (r (146 + 100 * 1 + 10 * kn + e))]) (st := [.long (1000 * (r (146 + 100 * 1 + 10 * kn + e)).toInt64)]) (c_X7_errorAt (e := e) (c := (r (146 + 100 * 1 + 10 * kn + e))) h233 h234 h239 h240 h241 (by first | assumption | decide | omega) (by first | assumption | decide | omega)) kv_X7_errorAt tq_848 h233 rfl (by omega) ⟨rfl, rfl⟩ (by decide) ⟨Nat.le_refl _, Nat.le_refl _⟩ rfl rfl (Nat.le_of_ble_eq_true rfl) (dk dX7_rightOf 13 rfl) rfl (fun r17 E17 hp17 => ?_)
  obtain ⟨m2_17, rd1_17, er1_17, th1_17, rfl, hK233_17, hK239_17, hK240_17, hK241_17, hF17⟩ := hp17
  refine g_lsub F (q := 21) (dk dX7_rightOf 14 rfl) rfl ?_
  refine hret ((1000 * (r (146 + 100 * 1 + 10 * kn + e)).toInt64) - (errR r e nt (r (146 + 100 * 1 + 10 * kn + e)))) E17 _ _ (dk dX7_rightOf 15 rfl) ?_
  exact ⟨_, _, _, _, rfl, hK233_17, hK239_17, hK240_17, hK241_17, (fun j hj => (hF17 j (by omega)))⟩
theorem kv_X7_rightOf : KV yX7_rightOf "ThumpEarsModel" cX7_rightOf 4 (some .long) 2 := ⟨tq_867, tq_31, tq_47, tq_868, by decide +kernel⟩
abbrev rm_X7_knocksHeard : Room := { frames := 1, cells := 0, slots := 0, locals := 23 }
set_option maxHeartbeats 4000000 in
set_option maxRecDepth 100000 in
theorem c_X7_knocksHeard {l : Launch} {D : va_G} {cA : Nat → ClassId} {ad : Nat → Nat} {E : Nat → va_E} {s0 s1 s2 s3 s4 s5 : Int32} {lo mo : Int64} {r : Nat → Int32} {ne nt nk e : Nat} (h233 : E 233 = .inr (7, [.ref (ad 234), .ref (ad 235), .ref (ad 236), .ref (ad 237), .int s0, .int s1, .ref (ad 238), .int s2, .int s3, .int s4, .int s5, .ref (ad 239), .ref (ad 240), .ref (ad 241), .long lo, .long mo, .ref (ad 242)])) (h234 : E 234 = .inl (cA 0, 346, .inl r))  (he : e < 10) (hI : Inv r ne nt nk) : CtI l D cA yX7_knocksHeard cX7_knocksHeard 4 .int rm_X7_knocksHeard 243 ad E [.ref (ad 233), .int (nI e)] (fun x E' => (nI ((kC r e nk))) = x ∧ E = E') := by
  refine CtI.of (by decide +kernel) (Nat.le_of_ble_eq_true rfl) (fun X F hret => ?_)
  have F : Fr "ThumpEarsModel" cX7_knocksHeard 4 D cA X := F
  refine (show GG rm_X7_knocksHeard 4 l D X 0 0 243 ad E 0 [(0, .ref (ad 233)), (1, .int (nI e))] [] from ?_)
  have hnk := hI.e2
  refine g_iconst F (q := 1) (v := 0) (dk dX7_knocksHeard 0 rfl) rfl (by decide) ?_
  refine g_istore_n F (q := 2) (lv' := [(2, .int 0), (0, .ref (ad 233)), (1, .int (nI e))]) (dk dX7_knocksHeard 1 rfl) rfl rfl (Nat.le_of_ble_eq_true rfl) rfl ?_
  refine g_iconst F (q := 3) (v := 0) (dk dX7_knocksHeard 2 rfl) rfl (by decide) ?_
  refine g_istore_n F (q := 4) (lv' := [(3, .int 0), (2, .int 0), (0, .ref (ad 233)), (1, .int (nI e))]) (dk dX7_knocksHeard 3 rfl) rfl rfl (Nat.le_of_ble_eq_true rfl) rfl ?_
  have K4 : ∀ (fu : Nat) (i : Nat), nk - i < fu → (hi : i ≤ nk) → GG rm_X7_knocksHeard 4 l D X 0 0 243 ad E 4 [(0, .ref (ad 233)), (1, .int (nI e)), (2, .int (nI ((kC r e i)))), (3, .int (nI i))] [] := by
    intro fu
    induction fu with
    | zero => intro i hfu_; exact absurd hfu_ (Nat.not_lt_zero _)
    | succ fu ih =>
      intro i hfu_ hi
      refine g_iload_n F (q := 5) (dk dX7_knocksHeard 4 rfl) rfl rfl 3 rfl ?_
      refine g_aload_n F (q := 6) (dk dX7_knocksHeard 5 rfl) rfl rfl 0 rfl ?_
      refine g_getf F (q := 9) h233 rfl inX7 (by omega) (j := 0) (by decide) tq_623 rfl rfl (dk dX7_knocksHeard 6 rfl) rfl ?_
      refine g_iconst F (q := 10) (v := 2) (dk dX7_knocksHeard 7 rfl) rfl (by decide) ?_
      refine g_iald F (q := 11) 2 h234 (by omega) rfl (by omega) (by decide) (dk dX7_knocksHeard 8 rfl) rfl ?_
      refine g_sti (y := (nI nk)) hI.h2 ?_
      refine g_icmp_ge F (q := 14) (tgt := 40) (dk dX7_knocksHeard 9 rfl) (by decide) rfl (fun c11 => ?_) (fun c11 => ?_)
      · have nc11 : nk ≤ i := (nI_leI (a := nk) (b := i) (by omega) (by omega)).mp c11
        refine g_iload_n F (q := 41) (dk dX7_knocksHeard 25 rfl) rfl rfl 2 rfl ?_
        refine hret (nI ((kC r e i))) E _ _ (dk dX7_knocksHeard 26 rfl) (nint _) ?_
        exact ⟨by rw [show nk = i by omega], rfl⟩
      · have nc11 : ¬ nk ≤ i := fun h => c11 ((nI_leI (a := nk) (b := i) (by omega) (by omega)).mpr h)
        refine g_iload_n F (q := 15) (dk dX7_knocksHeard 10 rfl) rfl rfl 2 rfl ?_
        refine g_aload_n F (q := 16) (dk dX7_knocksHeard 11 rfl) rfl rfl 0 rfl ?_
        refine g_iconst F (q := 17) (v := 1) (dk dX7_knocksHeard 12 rfl) rfl (by decide) ?_
        refine g_iload_n F (q := 18) (dk dX7_knocksHeard 13 rfl) rfl rfl 3 rfl ?_
        refine g_iload_n F (q := 19) (dk dX7_knocksHeard 14 rfl) rfl rfl 1 rfl ?_
        refine g_callVI F (q := 22) (av := [.int 1, .int (nI i), .int (nI e)]) (st := [.int (nI ((kC r e i)))]) (c_X7_heardOf (k := 1) (m := i) (e := e) h233 h234 (by first | assumption | decide | omega)) kv_X7_heardOf tq_822 h233 rfl (by omega) ⟨rfl, rfl⟩ (by decide) ⟨Nat.le_refl _, Nat.le_refl _⟩ rfl rfl (Nat.le_of_ble_eq_true rfl) (dk dX7_knocksHeard 15 rfl) rfl (fun r19 E19 hp19 => ?_)
        obtain ⟨rfl, rfl⟩ := hp19
        refine g_ldc F (q := 24) (v := (-1000000000)) (dk dX7_knocksHeard 16 rfl) rfl tq_622 ?_
        refine g_sti (y := MISS) rfl ?_
        refine g_icmp_ne F (q := 27) (tgt := 31) (dk dX7_knocksHeard 17 rfl) (by decide) rfl (fun c24 => ?_) (fun c24 => ?_)
        · refine g_iconst F (q := 32) (v := 1) (dk dX7_knocksHeard 20 rfl) rfl (by decide) ?_
          refine g_iadd F (q := 33) (dk dX7_knocksHeard 21 rfl) rfl ?_
          refine g_sti (y := (nI ((kC r e (i + 1))))) (kN_t c24) ?_
          refine g_istore_n F (q := 34) (lv' := [(2, .int (nI ((kC r e (i + 1))))), (0, .ref (ad 233)), (1, .int (nI e)), (3, .int (nI i))]) (dk dX7_knocksHeard 22 rfl) rfl rfl (Nat.le_of_ble_eq_true rfl) rfl ?_
          refine g_iinc F (q := 37) (v := (nI ((i + 1)))) (lv' := [(3, .int (nI ((i + 1)))), (2, .int (nI ((kC r e (i + 1))))), (0, .ref (ad 233)), (1, .int (nI e))]) (dk dX7_knocksHeard 23 rfl) rfl 3 rfl (nI_1 _) (Nat.le_of_ble_eq_true rfl) rfl ?_
          refine g_goto F (tgt := 4) (dk dX7_knocksHeard 24 rfl) (by decide) ?_
          refine g_lv (lv' := [(0, .ref (ad 233)), (1, .int (nI e)), (2, .int (nI ((kC r e (i + 1))))), (3, .int (nI ((i + 1))))]) [2, 3, 1, 0] rfl ?_
          exact ih (i + 1) (by omega) (by omega)
        · refine g_iconst F (q := 28) (v := 0) (dk dX7_knocksHeard 18 rfl) rfl (by decide) ?_
          refine g_goto F (tgt := 32) (dk dX7_knocksHeard 19 rfl) (by decide) ?_
          refine g_iadd F (q := 33) (dk dX7_knocksHeard 21 rfl) rfl ?_
          refine g_sti (y := (nI ((kC r e (i + 1))))) (kN_f c24) ?_
          refine g_istore_n F (q := 34) (lv' := [(2, .int (nI ((kC r e (i + 1))))), (0, .ref (ad 233)), (1, .int (nI e)), (3, .int (nI i))]) (dk dX7_knocksHeard 22 rfl) rfl rfl (Nat.le_of_ble_eq_true rfl) rfl ?_
          refine g_iinc F (q := 37) (v := (nI ((i + 1)))) (lv' := [(3, .int (nI ((i + 1)))), (2, .int (nI ((kC r e (i + 1))))), (0, .ref (ad 233)), (1, .int (nI e))]) (dk dX7_knocksHeard 23 rfl) rfl 3 rfl (nI_1 _) (Nat.le_of_ble_eq_true rfl) rfl ?_
          refine g_goto F (tgt := 4) (dk dX7_knocksHeard 24 rfl) (by decide) ?_
          refine g_lv (lv' := [(0, .ref (ad 233)), (1, .int (nI e)), (2, .int (nI ((kC r e (i + 1))))), (3, .int (nI ((i + 1))))]) [2, 3, 1, 0] rfl ?_
          exact ih (i + 1) (by omega) (by omega)
  refine g_lv (lv' := [(0, .ref (ad 233)), (1, .int (nI e)), (2, .int 0), (3, .int 0)]) [2, 3, 1, 0] rfl ?_
  exact K4 _ 0 (Nat.lt_succ_self _) (by omega)
theorem kv_X7_knocksHeard : KV yX7_knocksHeard "ThumpEarsModel" cX7_knocksHeard 4 (some .int) 1 := ⟨tq_828, tq_29, tq_47, tq_829, by decide +kernel⟩
abbrev rm_X7_hearers : Room := { frames := 1, cells := 0, slots := 0, locals := 23 }
set_option maxHeartbeats 4000000 in
set_option maxRecDepth 100000 in
theorem c_X7_hearers {l : Launch} {D : va_G} {cA : Nat → ClassId} {ad : Nat → Nat} {E : Nat → va_E} {s0 s1 s2 s3 s4 s5 : Int32} {lo mo : Int64} {r : Nat → Int32} {ne nt nk kn : Nat} (h233 : E 233 = .inr (7, [.ref (ad 234), .ref (ad 235), .ref (ad 236), .ref (ad 237), .int s0, .int s1, .ref (ad 238), .int s2, .int s3, .int s4, .int s5, .ref (ad 239), .ref (ad 240), .ref (ad 241), .long lo, .long mo, .ref (ad 242)])) (h234 : E 234 = .inl (cA 0, 346, .inl r))  (hk : kn < nk) (hI : Inv r ne nt nk) : CtI l D cA yX7_hearers cX7_hearers 4 .int rm_X7_hearers 243 ad E [.ref (ad 233), .int (nI kn)] (fun x E' => (nI ((hC r kn ne))) = x ∧ E = E') := by
  refine CtI.of (by decide +kernel) (Nat.le_of_ble_eq_true rfl) (fun X F hret => ?_)
  have F : Fr "ThumpEarsModel" cX7_hearers 4 D cA X := F
  refine (show GG rm_X7_hearers 4 l D X 0 0 243 ad E 0 [(0, .ref (ad 233)), (1, .int (nI kn))] [] from ?_)
  have hnk := hI.e2
  have hne := hI.e0
  refine g_iconst F (q := 1) (v := 0) (dk dX7_hearers 0 rfl) rfl (by decide) ?_
  refine g_istore_n F (q := 2) (lv' := [(2, .int 0), (0, .ref (ad 233)), (1, .int (nI kn))]) (dk dX7_hearers 1 rfl) rfl rfl (Nat.le_of_ble_eq_true rfl) rfl ?_
  refine g_iconst F (q := 3) (v := 0) (dk dX7_hearers 2 rfl) rfl (by decide) ?_
  refine g_istore_n F (q := 4) (lv' := [(3, .int 0), (2, .int 0), (0, .ref (ad 233)), (1, .int (nI kn))]) (dk dX7_hearers 3 rfl) rfl rfl (Nat.le_of_ble_eq_true rfl) rfl ?_
  have K4 : ∀ (fu : Nat) (i : Nat), ne - i < fu → (hi : i ≤ ne) → GG rm_X7_hearers 4 l D X 0 0 243 ad E 4 [(0, .ref (ad 233)), (1, .int (nI kn)), (2, .int (nI ((hC r kn i)))), (3, .int (nI i))] [] := by
    intro fu
    induction fu with
    | zero => intro i hfu_; exact absurd hfu_ (Nat.not_lt_zero _)
    | succ fu ih =>
      intro i hfu_ hi
      refine g_iload_n F (q := 5) (dk dX7_hearers 4 rfl) rfl rfl 3 rfl ?_
      refine g_aload_n F (q := 6) (dk dX7_hearers 5 rfl) rfl rfl 0 rfl ?_
      refine g_getf F (q := 9) h233 rfl inX7 (by omega) (j := 0) (by decide) tq_623 rfl rfl (dk dX7_hearers 6 rfl) rfl ?_
      refine g_iconst F (q := 10) (v := 0) (dk dX7_hearers 7 rfl) rfl (by decide) ?_
      refine g_iald F (q := 11) 0 h234 (by omega) rfl (by omega) (by decide) (dk dX7_hearers 8 rfl) rfl ?_
      refine g_sti (y := (nI ne)) hI.h0 ?_
      refine g_icmp_ge F (q := 14) (tgt := 40) (dk dX7_hearers 9 rfl) (by decide) rfl (fun c11 => ?_) (fun c11 => ?_)
      · have nc11 : ne ≤ i := (nI_leI (a := ne) (b := i) (by omega) (by omega)).mp c11
        refine g_iload_n F (q := 41) (dk dX7_hearers 25 rfl) rfl rfl 2 rfl ?_
        refine hret (nI ((hC r kn i))) E _ _ (dk dX7_hearers 26 rfl) (nint _) ?_
        exact ⟨by rw [show ne = i by omega], rfl⟩
      · have nc11 : ¬ ne ≤ i := fun h => c11 ((nI_leI (a := ne) (b := i) (by omega) (by omega)).mpr h)
        refine g_iload_n F (q := 15) (dk dX7_hearers 10 rfl) rfl rfl 2 rfl ?_
        refine g_aload_n F (q := 16) (dk dX7_hearers 11 rfl) rfl rfl 0 rfl ?_
        refine g_iconst F (q := 17) (v := 1) (dk dX7_hearers 12 rfl) rfl (by decide) ?_
        refine g_iload_n F (q := 18) (dk dX7_hearers 13 rfl) rfl rfl 1 rfl ?_
        refine g_iload_n F (q := 19) (dk dX7_hearers 14 rfl) rfl rfl 3 rfl ?_
        refine g_callVI F (q := 22) (av := [.int 1, .int (nI kn), .int (nI i)]) (st := [.int (nI ((hC r kn i)))]) (c_X7_heardOf (k := 1) (m := kn) (e := i) h233 h234 (by first | assumption | decide | omega)) kv_X7_heardOf tq_822 h233 rfl (by omega) ⟨rfl, rfl⟩ (by decide) ⟨Nat.le_refl _, Nat.le_refl _⟩ rfl rfl (Nat.le_of_ble_eq_true rfl) (dk dX7_hearers 15 rfl) rfl (fun r19 E19 hp19 => ?_)
        obtain ⟨rfl, rfl⟩ := hp19
        refine g_ldc F (q := 24) (v := (-1000000000)) (dk dX7_hearers 16 rfl) rfl tq_622 ?_
        refine g_sti (y := MISS) rfl ?_
        refine g_icmp_ne F (q := 27) (tgt := 31) (dk dX7_hearers 17 rfl) (by decide) rfl (fun c24 => ?_) (fun c24 => ?_)
        · refine g_iconst F (q := 32) (v := 1) (dk dX7_hearers 20 rfl) rfl (by decide) ?_
          refine g_iadd F (q := 33) (dk dX7_hearers 21 rfl) rfl ?_
          refine g_sti (y := (nI ((hC r kn (i + 1))))) (hN_t c24) ?_
          refine g_istore_n F (q := 34) (lv' := [(2, .int (nI ((hC r kn (i + 1))))), (0, .ref (ad 233)), (1, .int (nI kn)), (3, .int (nI i))]) (dk dX7_hearers 22 rfl) rfl rfl (Nat.le_of_ble_eq_true rfl) rfl ?_
          refine g_iinc F (q := 37) (v := (nI ((i + 1)))) (lv' := [(3, .int (nI ((i + 1)))), (2, .int (nI ((hC r kn (i + 1))))), (0, .ref (ad 233)), (1, .int (nI kn))]) (dk dX7_hearers 23 rfl) rfl 3 rfl (nI_1 _) (Nat.le_of_ble_eq_true rfl) rfl ?_
          refine g_goto F (tgt := 4) (dk dX7_hearers 24 rfl) (by decide) ?_
          refine g_lv (lv' := [(0, .ref (ad 233)), (1, .int (nI kn)), (2, .int (nI ((hC r kn (i + 1))))), (3, .int (nI ((i + 1))))]) [2, 3, 1, 0] rfl ?_
          exact ih (i + 1) (by omega) (by omega)
        · refine g_iconst F (q := 28) (v := 0) (dk dX7_hearers 18 rfl) rfl (by decide) ?_
          refine g_goto F (tgt := 32) (dk dX7_hearers 19 rfl) (by decide) ?_
          refine g_iadd F (q := 33) (dk dX7_hearers 21 rfl) rfl ?_
          refine g_sti (y := (nI ((hC r kn (i + 1))))) (hN_f c24) ?_
          refine g_istore_n F (q := 34) (lv' := [(2, .int (nI ((hC r kn (i + 1))))), (0, .ref (ad 233)), (1, .int (nI kn)), (3, .int (nI i))]) (dk dX7_hearers 22 rfl) rfl rfl (Nat.le_of_ble_eq_true rfl) rfl ?_
          refine g_iinc F (q := 37) (v := (nI ((i + 1)))) (lv' := [(3, .int (nI ((i + 1)))), (2, .int (nI ((hC r kn (i + 1))))), (0, .ref (ad 233)), (1, .int (nI kn))]) (dk dX7_hearers 23 rfl) rfl 3 rfl (nI_1 _) (Nat.le_of_ble_eq_true rfl) rfl ?_
          refine g_goto F (tgt := 4) (dk dX7_hearers 24 rfl) (by decide) ?_
          refine g_lv (lv' := [(0, .ref (ad 233)), (1, .int (nI kn)), (2, .int (nI ((hC r kn (i + 1))))), (3, .int (nI ((i + 1))))]) [2, 3, 1, 0] rfl ?_
          exact ih (i + 1) (by omega) (by omega)
  refine g_lv (lv' := [(0, .ref (ad 233)), (1, .int (nI kn)), (2, .int 0), (3, .int 0)]) [2, 3, 1, 0] rfl ?_
  exact K4 _ 0 (Nat.lt_succ_self _) (by omega)
theorem kv_X7_hearers : KV yX7_hearers "ThumpEarsModel" cX7_hearers 4 (some .int) 1 := ⟨tq_875, tq_32, tq_47, tq_876, by decide +kernel⟩
abbrev rm_X7_clock : Room := { frames := 2, cells := 0, slots := 0, locals := 47 }
set_option maxHeartbeats 4000000 in
set_option maxRecDepth 100000 in
theorem c_X7_clock {l : Launch} {D : va_G} {cA : Nat → ClassId} {ad : Nat → Nat} {E : Nat → va_E} {s0 s1 s2 s3 s4 s5 : Int32} {lo mo : Int64} {r : Nat → Int32} {ne nt nk : Nat} {ear t : Int32} (h233 : E 233 = .inr (7, [.ref (ad 234), .ref (ad 235), .ref (ad 236), .ref (ad 237), .int s0, .int s1, .ref (ad 238), .int s2, .int s3, .int s4, .int s5, .ref (ad 239), .ref (ad 240), .ref (ad 241), .long lo, .long mo, .ref (ad 242)])) (h234 : E 234 = .inl (cA 0, 346, .inl r))  (hI : Inv r ne nt nk) : CtI l D cA yX7_clock cX7_clock 3 .int rm_X7_clock 243 ad E [.ref (ad 233), .int ear, .int t] (fun x E' => (sCk r ne ear t) = x ∧ E = E') := by
  refine CtI.of (by decide +kernel) (Nat.le_of_ble_eq_true rfl) (fun X F hret => ?_)
  have F : Fr "ThumpEarsModel" cX7_clock 3 D cA X := F
  refine (show GG rm_X7_clock 3 l D X 0 0 243 ad E 0 [(0, .ref (ad 233)), (1, .int ear), (2, .int t)] [] from ?_)
  have hnk := hI.e2
  have hne := hI.e0
  have hnt := hI.e1
  refine g_aload_n F (q := 1) (dk dX7_clock 0 rfl) rfl rfl 0 rfl ?_
  refine g_iload_n F (q := 2) (dk dX7_clock 1 rfl) rfl rfl 1 rfl ?_
  refine g_callVI F (q := 5) (av := [.int ear]) (st := []) (c_X7_noEar (ear := ear) h233 h234 hI.h0 hI.e0) kv_X7_noEar tq_714 h233 rfl (by omega) ⟨rfl, rfl⟩ (by decide) ⟨Nat.le_refl _, Nat.le_refl _⟩ rfl rfl (Nat.le_of_ble_eq_true rfl) (dk dX7_clock 2 rfl) rfl (fun r2 E2 hp2 => ?_)
  rcases hp2 with ⟨rfl, rfl, b2⟩ | ⟨rfl, rfl, b2⟩
  · refine g_if_eq F (q := 8) (tgt := 10) (dk dX7_clock 3 rfl) (by decide) rfl (fun h => absurd h (by decide)) (fun _ => ?_)
    refine g_iconst F (q := 9) (v := (-1)) (dk dX7_clock 4 rfl) rfl (by decide) ?_
    refine hret (-1) E _ _ (dk dX7_clock 5 rfl) (nint _) ?_
    exact ⟨(by unfold sCk; rw [if_pos b2]), rfl⟩
  · obtain ⟨e, he, rfl⟩ := b2
    refine g_if_eq F (q := 8) (tgt := 10) (dk dX7_clock 3 rfl) (by decide) rfl (fun _ => ?_) (fun h => absurd h (by decide))
    refine g_iload_n F (q := 11) (dk dX7_clock 6 rfl) rfl rfl 2 rfl ?_
    refine g_iconst F (q := 12) (v := 0) (dk dX7_clock 7 rfl) rfl (by decide) ?_
    refine g_ldc F (q := 14) (v := 200000) (dk dX7_clock 8 rfl) rfl tq_834 ?_
    refine g_callSI F (q := 17) (av := [.int t, .int 0, .int 200000]) (st := []) (c_X7_in (v := t) (a := 0) (b := 200000)) ks_X7_in tq_707 ⟨rfl, rfl⟩ (by decide) ⟨Nat.le_refl _, Nat.le_refl _⟩ rfl rfl (Nat.le_of_ble_eq_true rfl) (dk dX7_clock 9 rfl) rfl (fun r14 E14 hp14 => ?_)
    rcases hp14 with ⟨rfl, rfl, b14⟩ | ⟨rfl, rfl, b14⟩
    · refine g_if_eq F (q := 20) (tgt := 33) (dk dX7_clock 10 rfl) (by decide) rfl (fun h => absurd h (by decide)) (fun _ => ?_)
      refine g_aload_n F (q := 21) (dk dX7_clock 11 rfl) rfl rfl 0 rfl ?_
      refine g_iload_n F (q := 22) (dk dX7_clock 12 rfl) rfl rfl 1 rfl ?_
      refine g_iload_n F (q := 23) (dk dX7_clock 13 rfl) rfl rfl 2 rfl ?_
      refine g_callVI F (q := 26) (av := [.int (nI e), .int t]) (st := []) (c_X7_reads (e := e) (t := t) h233 h234 (by first | assumption | decide | omega)) kv_X7_reads tq_750 h233 rfl (by omega) ⟨rfl, rfl⟩ (by decide) ⟨Nat.le_refl _, Nat.le_refl _⟩ rfl rfl (Nat.le_of_ble_eq_true rfl) (dk dX7_clock 14 rfl) rfl (fun r23 E23 hp23 => ?_)
      obtain ⟨rfl, rfl⟩ := hp23
      refine g_sipush F (q := 29) (v := 10000) (dk dX7_clock 15 rfl) rfl (by decide) ?_
      refine g_iadd F (q := 30) (dk dX7_clock 16 rfl) rfl ?_
      refine g_goto F (tgt := 35) (dk dX7_clock 17 rfl) (by decide) ?_
      refine hret ((rdc r e t) + 10000) E _ _ (dk dX7_clock 19 rfl) (nint _) ?_
      exact ⟨(by unfold sCk; rw [if_neg (ixN he (by omega)), nI_c (by omega), if_pos b14]), rfl⟩
    · refine g_if_eq F (q := 20) (tgt := 33) (dk dX7_clock 10 rfl) (by decide) rfl (fun _ => ?_) (fun h => absurd h (by decide))
      refine g_bipush F (q := 35) (v := (-2)) (dk dX7_clock 18 rfl) rfl (by decide) ?_
      refine hret (-2) E _ _ (dk dX7_clock 19 rfl) (nint _) ?_
      exact ⟨(by unfold sCk; rw [if_neg (ixN he (by omega)), nI_c (by omega), if_neg b14]), rfl⟩
theorem kv_X7_clock : KV yX7_clock "ThumpEarsModel" cX7_clock 3 (some .int) 2 := ⟨tq_831, tq_832, tq_47, tq_833, by decide +kernel⟩
abbrev rm_X7_mark : Room := { frames := 2, cells := 0, slots := 0, locals := 46 }
set_option maxHeartbeats 4000000 in
set_option maxRecDepth 100000 in
theorem c_X7_mark {l : Launch} {D : va_G} {cA : Nat → ClassId} {ad : Nat → Nat} {E : Nat → va_E} {s0 s1 s2 s3 s4 s5 : Int32} {lo mo : Int64} {r rd er th : Nat → Int32} {ne nt nk : Nat} {ear mk what : Int32} (h233 : E 233 = .inr (7, [.ref (ad 234), .ref (ad 235), .ref (ad 236), .ref (ad 237), .int s0, .int s1, .ref (ad 238), .int s2, .int s3, .int s4, .int s5, .ref (ad 239), .ref (ad 240), .ref (ad 241), .long lo, .long mo, .ref (ad 242)])) (h234 : E 234 = .inl (cA 0, 346, .inl r)) (h239 : E 239 = .inl (cA 0, 10, .inl rd)) (h240 : E 240 = .inl (cA 0, 10, .inl er)) (h241 : E 241 = .inl (cA 0, 10, .inl th))  (hI : Inv r ne nt nk) : CtI l D cA yX7_mark cX7_mark 4 .int rm_X7_mark 243 ad E [.ref (ad 233), .int ear, .int mk, .int what] (fun x E' => ∃ (m2 : Int32) (rd1 : Nat → Int32) (er1 : Nat → Int32) (th1 : Nat → Int32), (sMark r ne nt ear mk what) = x ∧ E' 233 = .inr (7, [.ref (ad 234), .ref (ad 235), .ref (ad 236), .ref (ad 237), .int s0, .int s1, .ref (ad 238), .int s2, .int s3, .int s4, .int m2, .ref (ad 239), .ref (ad 240), .ref (ad 241), .long lo, .long mo, .ref (ad 242)]) ∧ E' 239 = .inl (cA 0, 10, .inl rd1) ∧ E' 240 = .inl (cA 0, 10, .inl er1) ∧ E' 241 = .inl (cA 0, 10, .inl th1) ∧ ∀ j, (j ≠ 233 ∧ j ≠ 239 ∧ j ≠ 240 ∧ j ≠ 241) → E' j = E j) := by
  refine CtI.of (by decide +kernel) (Nat.le_of_ble_eq_true rfl) (fun X F hret => ?_)
  have F : Fr "ThumpEarsModel" cX7_mark 4 D cA X := F
  refine (show GG rm_X7_mark 4 l D X 0 0 243 ad E 0 [(0, .ref (ad 233)), (1, .int ear), (2, .int mk), (3, .int what)] [] from ?_)
  have hnk := hI.e2
  have hne := hI.e0
  have hnt := hI.e1
  refine g_aload_n F (q := 1) (dk dX7_mark 0 rfl) rfl rfl 0 rfl ?_
  refine g_iload_n F (q := 2) (dk dX7_mark 1 rfl) rfl rfl 1 rfl ?_
  refine g_callVI F (q := 5) (av := [.int ear]) (st := []) (c_X7_noEar (ear := ear) h233 h234 hI.h0 hI.e0) kv_X7_noEar tq_714 h233 rfl (by omega) ⟨rfl, rfl⟩ (by decide) ⟨Nat.le_refl _, Nat.le_refl _⟩ rfl rfl (Nat.le_of_ble_eq_true rfl) (dk dX7_mark 2 rfl) rfl (fun r2 E2 hp2 => ?_)
  rcases hp2 with ⟨rfl, rfl, b2⟩ | ⟨rfl, rfl, b2⟩
  · refine g_if_eq F (q := 8) (tgt := 10) (dk dX7_mark 3 rfl) (by decide) rfl (fun h => absurd h (by decide)) (fun _ => ?_)
    refine g_iconst F (q := 9) (v := (-1)) (dk dX7_mark 4 rfl) rfl (by decide) ?_
    refine hret (-1) E _ _ (dk dX7_mark 5 rfl) (nint _) ?_
    exact ⟨_, _, _, _, (by unfold sMark; rw [if_pos b2]), h233, h239, h240, h241, (fun j _ => rfl)⟩
  · obtain ⟨e, he, rfl⟩ := b2
    refine g_if_eq F (q := 8) (tgt := 10) (dk dX7_mark 3 rfl) (by decide) rfl (fun _ => ?_) (fun h => absurd h (by decide))
    refine g_iload_n F (q := 11) (dk dX7_mark 6 rfl) rfl rfl 2 rfl ?_
    refine g_if_lt F (q := 14) (tgt := 23) (dk dX7_mark 7 rfl) (by decide) rfl (fun c11 => ?_) (fun c11 => ?_)
    · refine g_bipush F (q := 25) (v := (-2)) (dk dX7_mark 13 rfl) rfl (by decide) ?_
      refine hret (-2) E _ _ (dk dX7_mark 14 rfl) (nint _) ?_
      exact ⟨_, _, _, _, (by unfold sMark; rw [if_neg (ixN he (by omega)), nI_c (by omega), if_pos (Or.inl c11)]), h233, h239, h240, h241, (fun j _ => rfl)⟩
    · refine g_iload_n F (q := 15) (dk dX7_mark 8 rfl) rfl rfl 3 rfl ?_
      refine g_iconst F (q := 16) (v := 0) (dk dX7_mark 9 rfl) rfl (by decide) ?_
      refine g_iconst F (q := 17) (v := 2) (dk dX7_mark 10 rfl) rfl (by decide) ?_
      refine g_callSI F (q := 20) (av := [.int what, .int 0, .int 2]) (st := []) (c_X7_in (v := what) (a := 0) (b := 2)) ks_X7_in tq_707 ⟨rfl, rfl⟩ (by decide) ⟨Nat.le_refl _, Nat.le_refl _⟩ rfl rfl (Nat.le_of_ble_eq_true rfl) (dk dX7_mark 11 rfl) rfl (fun r17 E17 hp17 => ?_)
      rcases hp17 with ⟨rfl, rfl, b17⟩ | ⟨rfl, rfl, b17⟩
      · refine g_if_ne F (q := 23) (tgt := 26) (dk dX7_mark 12 rfl) (by decide) rfl (fun _ => ?_) (fun h => absurd h (by decide))
        obtain ⟨j, hj, rfl⟩ := nI_of c11
        refine g_aload_n F (q := 27) (dk dX7_mark 15 rfl) rfl rfl 0 rfl ?_
        refine g_iload_n F (q := 28) (dk dX7_mark 16 rfl) rfl rfl 1 rfl ?_
        refine g_callVV F (q := 31) (av := [.int (nI e)]) (st := []) (c_X7_findMarks (e := e) h233 h234 h239 h240 h241 (by first | assumption | decide | omega) hI.h1 hI.e1) kv_X7_findMarks tq_818 h233 rfl (by omega) ⟨rfl, rfl⟩ (by decide) ⟨Nat.le_refl _, Nat.le_refl _⟩ rfl rfl (Nat.le_of_ble_eq_true rfl) (dk dX7_mark 17 rfl) rfl (fun E28 hp28 => ?_)
        obtain ⟨rd1_28, er1_28, th1_28, hK233_28, hK239_28, hK240_28, hK241_28, hH_28, hF28⟩ := hp28
        have hml := mC_le (r := r) (e := e) nt
        refine g_iload_n F (q := 32) (dk dX7_mark 18 rfl) rfl rfl 2 rfl ?_
        refine g_aload_n F (q := 33) (dk dX7_mark 19 rfl) rfl rfl 0 rfl ?_
        refine g_getf F (q := 36) hK233_28 rfl inX7 (by omega) (j := 10) (by decide) tq_633 rfl rfl (dk dX7_mark 20 rfl) rfl ?_
        refine g_icmp_lt F (q := 39) (tgt := 42) (dk dX7_mark 21 rfl) (by decide) rfl (fun c36 => ?_) (fun c36 => ?_)
        · have nc36 : j < (mC r e nt) := (nI_ltI (a := j) (b := (mC r e nt)) (by omega) (by omega)).mp c36
          refine g_iload_n F (q := 43) (dk dX7_mark 24 rfl) rfl rfl 3 rfl ?_
          refine g_if_ne F (q := 46) (tgt := 59) (dk dX7_mark 25 rfl) (by decide) rfl (fun c43 => ?_) (fun c43 => ?_)
          · refine g_iload_n F (q := 60) (dk dX7_mark 33 rfl) rfl rfl 3 rfl ?_
            refine g_iconst F (q := 61) (v := 1) (dk dX7_mark 34 rfl) rfl (by decide) ?_
            refine g_icmp_ne F (q := 64) (tgt := 77) (dk dX7_mark 35 rfl) (by decide) rfl (fun c61 => ?_) (fun c61 => ?_)
            · refine g_aload_n F (q := 78) (dk dX7_mark 43 rfl) rfl rfl 0 rfl ?_
              refine g_getf F (q := 81) hK233_28 rfl inX7 (by omega) (j := 13) (by decide) tq_636 rfl rfl (dk dX7_mark 44 rfl) rfl ?_
              refine g_iload_n F (q := 82) (dk dX7_mark 45 rfl) rfl rfl 2 rfl ?_
              refine g_iald F (q := 83) j hK241_28 (by omega) rfl (by omega) (by decide) (dk dX7_mark 46 rfl) rfl ?_
              refine g_sti (y := (mTh r e nt j)) (hH_28 j (by omega)).2.2 ?_
              refine hret (mTh r e nt j) E28 _ _ (dk dX7_mark 47 rfl) (nint _) ?_
              exact ⟨_, _, _, _, (by unfold sMark; rw [if_neg (ixN he (by omega)), nI_c (by omega), if_neg (fun h => h.elim c11 (fun q => q b17)), nI_c (by omega), if_neg (by omega), if_neg c43, if_neg c61]), hK233_28, hK239_28, hK240_28, hK241_28, (fun j hj => (hF28 j (by omega)))⟩
            · refine g_aload_n F (q := 65) (dk dX7_mark 36 rfl) rfl rfl 0 rfl ?_
              refine g_getf F (q := 68) hK233_28 rfl inX7 (by omega) (j := 12) (by decide) tq_635 rfl rfl (dk dX7_mark 37 rfl) rfl ?_
              refine g_iload_n F (q := 69) (dk dX7_mark 38 rfl) rfl rfl 2 rfl ?_
              refine g_iald F (q := 70) j hK240_28 (by omega) rfl (by omega) (by decide) (dk dX7_mark 39 rfl) rfl ?_
              refine g_sti (y := (mEr r e nt j)) (hH_28 j (by omega)).2.1 ?_
              refine g_sipush F (q := 73) (v := 10000) (dk dX7_mark 40 rfl) rfl (by decide) ?_
              refine g_iadd F (q := 74) (dk dX7_mark 41 rfl) rfl ?_
              refine g_goto F (tgt := 83) (dk dX7_mark 42 rfl) (by decide) ?_
              refine hret ((mEr r e nt j) + 10000) E28 _ _ (dk dX7_mark 47 rfl) (nint _) ?_
              exact ⟨_, _, _, _, (by unfold sMark; rw [if_neg (ixN he (by omega)), nI_c (by omega), if_neg (fun h => h.elim c11 (fun q => q b17)), nI_c (by omega), if_neg (by omega), if_neg c43, if_pos c61]), hK233_28, hK239_28, hK240_28, hK241_28, (fun j hj => (hF28 j (by omega)))⟩
          · refine g_aload_n F (q := 47) (dk dX7_mark 26 rfl) rfl rfl 0 rfl ?_
            refine g_getf F (q := 50) hK233_28 rfl inX7 (by omega) (j := 11) (by decide) tq_634 rfl rfl (dk dX7_mark 27 rfl) rfl ?_
            refine g_iload_n F (q := 51) (dk dX7_mark 28 rfl) rfl rfl 2 rfl ?_
            refine g_iald F (q := 52) j hK239_28 (by omega) rfl (by omega) (by decide) (dk dX7_mark 29 rfl) rfl ?_
            refine g_sti (y := (mRd r e nt j)) (hH_28 j (by omega)).1 ?_
            refine g_sipush F (q := 55) (v := 10000) (dk dX7_mark 30 rfl) rfl (by decide) ?_
            refine g_iadd F (q := 56) (dk dX7_mark 31 rfl) rfl ?_
            refine g_goto F (tgt := 83) (dk dX7_mark 32 rfl) (by decide) ?_
            refine hret ((mRd r e nt j) + 10000) E28 _ _ (dk dX7_mark 47 rfl) (nint _) ?_
            exact ⟨_, _, _, _, (by unfold sMark; rw [if_neg (ixN he (by omega)), nI_c (by omega), if_neg (fun h => h.elim c11 (fun q => q b17)), nI_c (by omega), if_neg (by omega), if_pos c43]), hK233_28, hK239_28, hK240_28, hK241_28, (fun j hj => (hF28 j (by omega)))⟩
        · have nc36 : ¬ j < (mC r e nt) := fun h => c36 ((nI_ltI (a := j) (b := (mC r e nt)) (by omega) (by omega)).mpr h)
          refine g_bipush F (q := 41) (v := (-5)) (dk dX7_mark 22 rfl) rfl (by decide) ?_
          refine hret (-5) E28 _ _ (dk dX7_mark 23 rfl) (nint _) ?_
          exact ⟨_, _, _, _, (by unfold sMark; rw [if_neg (ixN he (by omega)), nI_c (by omega), if_neg (fun h => h.elim c11 (fun q => q b17)), nI_c (by omega), if_pos (by omega)]), hK233_28, hK239_28, hK240_28, hK241_28, (fun j hj => (hF28 j (by omega)))⟩
      · refine g_if_ne F (q := 23) (tgt := 26) (dk dX7_mark 12 rfl) (by decide) rfl (fun h => absurd h (by decide)) (fun _ => ?_)
        refine g_bipush F (q := 25) (v := (-2)) (dk dX7_mark 13 rfl) rfl (by decide) ?_
        refine hret (-2) E _ _ (dk dX7_mark 14 rfl) (nint _) ?_
        exact ⟨_, _, _, _, (by unfold sMark; rw [if_neg (ixN he (by omega)), nI_c (by omega), if_pos (Or.inr b17)]), h233, h239, h240, h241, (fun j _ => rfl)⟩
theorem kv_X7_mark : KV yX7_mark "ThumpEarsModel" cX7_mark 4 (some .int) 3 := ⟨tq_836, tq_837, tq_47, tq_838, by decide +kernel⟩
abbrev rm_X7_error : Room := { frames := 3, cells := 0, slots := 0, locals := 71 }
set_option maxHeartbeats 4000000 in
set_option maxRecDepth 100000 in
theorem c_X7_error {l : Launch} {D : va_G} {cA : Nat → ClassId} {ad : Nat → Nat} {E : Nat → va_E} {s0 s1 s2 s3 s4 s5 : Int32} {lo mo : Int64} {r rd er th : Nat → Int32} {ne nt nk : Nat} {ear c : Int32} (h233 : E 233 = .inr (7, [.ref (ad 234), .ref (ad 235), .ref (ad 236), .ref (ad 237), .int s0, .int s1, .ref (ad 238), .int s2, .int s3, .int s4, .int s5, .ref (ad 239), .ref (ad 240), .ref (ad 241), .long lo, .long mo, .ref (ad 242)])) (h234 : E 234 = .inl (cA 0, 346, .inl r)) (h239 : E 239 = .inl (cA 0, 10, .inl rd)) (h240 : E 240 = .inl (cA 0, 10, .inl er)) (h241 : E 241 = .inl (cA 0, 10, .inl th))  (hI : Inv r ne nt nk) : CtL l D cA yX7_error cX7_error 3 rm_X7_error 243 ad E [.ref (ad 233), .int ear, .int c] (fun x E' => ∃ (m2 : Int32) (rd1 : Nat → Int32) (er1 : Nat → Int32) (th1 : Nat → Int32), (sErr r ne nt ear c) = x ∧ E' 233 = .inr (7, [.ref (ad 234), .ref (ad 235), .ref (ad 236), .ref (ad 237), .int s0, .int s1, .ref (ad 238), .int s2, .int s3, .int s4, .int m2, .ref (ad 239), .ref (ad 240), .ref (ad 241), .long lo, .long mo, .ref (ad 242)]) ∧ E' 239 = .inl (cA 0, 10, .inl rd1) ∧ E' 240 = .inl (cA 0, 10, .inl er1) ∧ E' 241 = .inl (cA 0, 10, .inl th1) ∧ ∀ j, (j ≠ 233 ∧ j ≠ 239 ∧ j ≠ 240 ∧ j ≠ 241) → E' j = E j) := by
  refine CtL.of (by decide +kernel) (Nat.le_of_ble_eq_true rfl) (fun X F hret => ?_)
  have F : Fr "ThumpEarsModel" cX7_error 3 D cA X := F
  refine (show GG rm_X7_error 3 l D X 0 0 243 ad E 0 [(0, .ref (ad 233)), (1, .int ear), (2, .int c)] [] from ?_)
  have hnk := hI.e2
  have hne := hI.e0
  have hnt := hI.e1
  refine g_aload_n F (q := 1) (dk dX7_error 0 rfl) rfl rfl 0 rfl ?_
  refine g_iload_n F (q := 2) (dk dX7_error 1 rfl) rfl rfl 1 rfl ?_
  refine g_callVI F (q := 5) (av := [.int ear]) (st := []) (c_X7_noEar (ear := ear) h233 h234 hI.h0 hI.e0) kv_X7_noEar tq_714 h233 rfl (by omega) ⟨rfl, rfl⟩ (by decide) ⟨Nat.le_refl _, Nat.le_refl _⟩ rfl rfl (Nat.le_of_ble_eq_true rfl) (dk dX7_error 2 rfl) rfl (fun r2 E2 hp2 => ?_)
  rcases hp2 with ⟨rfl, rfl, b2⟩ | ⟨rfl, rfl, b2⟩
  · refine g_if_eq F (q := 8) (tgt := 13) (dk dX7_error 3 rfl) (by decide) rfl (fun h => absurd h (by decide)) (fun _ => ?_)
    refine g_iconst F (q := 9) (v := (-1)) (dk dX7_error 4 rfl) rfl (by decide) ?_
    refine g_callSL F (q := 12) (av := [.int (-1)]) (st := []) (c_X7_toldAs (a := (-1))) ks_X7_toldAs tq_843 ⟨rfl, rfl⟩ (by decide) ⟨Nat.le_refl _, Nat.le_refl _⟩ rfl rfl (Nat.le_of_ble_eq_true rfl) (dk dX7_error 5 rfl) rfl (fun r9 E9 hp9 => ?_)
    obtain ⟨rfl, rfl⟩ := hp9
    refine hret (toldAs (-1)) E _ _ (dk dX7_error 6 rfl) ?_
    exact ⟨_, _, _, _, (by unfold sErr; rw [if_pos b2]), h233, h239, h240, h241, (fun j _ => rfl)⟩
  · obtain ⟨e, he, rfl⟩ := b2
    refine g_if_eq F (q := 8) (tgt := 13) (dk dX7_error 3 rfl) (by decide) rfl (fun _ => ?_) (fun h => absurd h (by decide))
    refine g_iload_n F (q := 14) (dk dX7_error 7 rfl) rfl rfl 2 rfl ?_
    refine g_sipush F (q := 17) (v := (-10000)) (dk dX7_error 8 rfl) rfl (by decide) ?_
    refine g_ldc F (q := 19) (v := 300000) (dk dX7_error 9 rfl) rfl tq_847 ?_
    refine g_callSI F (q := 22) (av := [.int c, .int (-10000), .int 300000]) (st := []) (c_X7_in (v := c) (a := (-10000)) (b := 300000)) ks_X7_in tq_707 ⟨rfl, rfl⟩ (by decide) ⟨Nat.le_refl _, Nat.le_refl _⟩ rfl rfl (Nat.le_of_ble_eq_true rfl) (dk dX7_error 10 rfl) rfl (fun r19 E19 hp19 => ?_)
    rcases hp19 with ⟨rfl, rfl, b19⟩ | ⟨rfl, rfl, b19⟩
    · refine g_if_eq F (q := 25) (tgt := 34) (dk dX7_error 11 rfl) (by decide) rfl (fun h => absurd h (by decide)) (fun _ => ?_)
      refine g_aload_n F (q := 26) (dk dX7_error 12 rfl) rfl rfl 0 rfl ?_
      refine g_iload_n F (q := 27) (dk dX7_error 13 rfl) rfl rfl 1 rfl ?_
      refine g_iload_n F (q := 28) (dk dX7_error 14 rfl) rfl rfl 2 rfl ?_
      refine g_callVL F (q := 31) (av := [.int (nI e), .int c]) (st := []) (c_X7_errorAt (e := e) (c := c) h233 h234 h239 h240 h241 (by first | assumption | decide | omega) (by first | assumption | decide | omega)) kv_X7_errorAt tq_848 h233 rfl (by omega) ⟨rfl, rfl⟩ (by decide) ⟨Nat.le_refl _, Nat.le_refl _⟩ rfl rfl (Nat.le_of_ble_eq_true rfl) (dk dX7_error 15 rfl) rfl (fun r28 E28 hp28 => ?_)
      obtain ⟨m2_28, rd1_28, er1_28, th1_28, rfl, hK233_28, hK239_28, hK240_28, hK241_28, hF28⟩ := hp28
      refine g_goto F (tgt := 39) (dk dX7_error 16 rfl) (by decide) ?_
      refine hret (errR r e nt c) E28 _ _ (dk dX7_error 19 rfl) ?_
      exact ⟨_, _, _, _, (by unfold sErr; rw [if_neg (ixN he (by omega)), nI_c (by omega), if_pos b19]), hK233_28, hK239_28, hK240_28, hK241_28, (fun j hj => (hF28 j (by omega)))⟩
    · refine g_if_eq F (q := 25) (tgt := 34) (dk dX7_error 11 rfl) (by decide) rfl (fun _ => ?_) (fun h => absurd h (by decide))
      refine g_bipush F (q := 36) (v := (-2)) (dk dX7_error 17 rfl) rfl (by decide) ?_
      refine g_callSL F (q := 39) (av := [.int (-2)]) (st := []) (c_X7_toldAs (a := (-2))) ks_X7_toldAs tq_843 ⟨rfl, rfl⟩ (by decide) ⟨Nat.le_refl _, Nat.le_refl _⟩ rfl rfl (Nat.le_of_ble_eq_true rfl) (dk dX7_error 18 rfl) rfl (fun r36 E36 hp36 => ?_)
      obtain ⟨rfl, rfl⟩ := hp36
      refine hret (toldAs (-2)) E _ _ (dk dX7_error 19 rfl) ?_
      exact ⟨_, _, _, _, (by unfold sErr; rw [if_neg (ixN he (by omega)), nI_c (by omega), if_neg b19]), h233, h239, h240, h241, (fun j _ => rfl)⟩
theorem kv_X7_error : KV yX7_error "ThumpEarsModel" cX7_error 3 (some .long) 2 := ⟨tq_840, tq_841, tq_47, tq_842, by decide +kernel⟩
abbrev rm_X7_stalest : Room := { frames := 2, cells := 0, slots := 0, locals := 46 }
set_option maxHeartbeats 4000000 in
set_option maxRecDepth 100000 in
theorem c_X7_stalest {l : Launch} {D : va_G} {cA : Nat → ClassId} {ad : Nat → Nat} {E : Nat → va_E} {s0 s1 s2 s3 s4 s5 : Int32} {lo mo : Int64} {r rd er th : Nat → Int32} {ne nt nk : Nat}  (h233 : E 233 = .inr (7, [.ref (ad 234), .ref (ad 235), .ref (ad 236), .ref (ad 237), .int s0, .int s1, .ref (ad 238), .int s2, .int s3, .int s4, .int s5, .ref (ad 239), .ref (ad 240), .ref (ad 241), .long lo, .long mo, .ref (ad 242)])) (h234 : E 234 = .inl (cA 0, 346, .inl r)) (h239 : E 239 = .inl (cA 0, 10, .inl rd)) (h240 : E 240 = .inl (cA 0, 10, .inl er)) (h241 : E 241 = .inl (cA 0, 10, .inl th))  (hI : Inv r ne nt nk) : CtI l D cA yX7_stalest cX7_stalest 5 .int rm_X7_stalest 243 ad E [.ref (ad 233)] (fun x E' => ∃ (m2 : Int32) (rd1 : Nat → Int32) (er1 : Nat → Int32) (th1 : Nat → Int32), (stF r nt ne).1 = x ∧ E' 233 = .inr (7, [.ref (ad 234), .ref (ad 235), .ref (ad 236), .ref (ad 237), .int s0, .int s1, .ref (ad 238), .int s2, .int s3, .int s4, .int m2, .ref (ad 239), .ref (ad 240), .ref (ad 241), .long lo, .long mo, .ref (ad 242)]) ∧ E' 239 = .inl (cA 0, 10, .inl rd1) ∧ E' 240 = .inl (cA 0, 10, .inl er1) ∧ E' 241 = .inl (cA 0, 10, .inl th1) ∧ ∀ j, (j ≠ 233 ∧ j ≠ 239 ∧ j ≠ 240 ∧ j ≠ 241) → E' j = E j) := by
  refine CtI.of (by decide +kernel) (Nat.le_of_ble_eq_true rfl) (fun X F hret => ?_)
  have F : Fr "ThumpEarsModel" cX7_stalest 5 D cA X := F
  refine (show GG rm_X7_stalest 5 l D X 0 0 243 ad E 0 [(0, .ref (ad 233))] [] from ?_)
  have hnk := hI.e2
  have hne := hI.e0
  have hnt := hI.e1
  refine g_bipush F (q := 2) (v := (-5)) (dk dX7_stalest 0 rfl) rfl (by decide) ?_
  refine g_istore_n F (q := 3) (lv' := [(1, .int (-5)), (0, .ref (ad 233))]) (dk dX7_stalest 1 rfl) rfl rfl (Nat.le_of_ble_eq_true rfl) rfl ?_
  refine g_bipush F (q := 5) (v := 10) (dk dX7_stalest 2 rfl) rfl (by decide) ?_
  refine g_istore_n F (q := 6) (lv' := [(2, .int 10), (1, .int (-5)), (0, .ref (ad 233))]) (dk dX7_stalest 3 rfl) rfl rfl (Nat.le_of_ble_eq_true rfl) rfl ?_
  refine g_iconst F (q := 7) (v := 0) (dk dX7_stalest 4 rfl) rfl (by decide) ?_
  refine g_istore_n F (q := 8) (lv' := [(3, .int 0), (2, .int 10), (1, .int (-5)), (0, .ref (ad 233))]) (dk dX7_stalest 5 rfl) rfl rfl (Nat.le_of_ble_eq_true rfl) rfl ?_
  have K8 : ∀ (fu : Nat) (i : Nat) (b1 : Int32) (b2 : Int32) (m3 : Int32) (rd2 : Nat → Int32) (er2 : Nat → Int32) (th2 : Nat → Int32) (E1 : Nat → va_E), ne - i < fu → (h3 : E1 233 = .inr (7, [.ref (ad 234), .ref (ad 235), .ref (ad 236), .ref (ad 237), .int s0, .int s1, .ref (ad 238), .int s2, .int s3, .int s4, .int m3, .ref (ad 239), .ref (ad 240), .ref (ad 241), .long lo, .long mo, .ref (ad 242)])) → (h9 : E1 239 = .inl (cA 0, 10, .inl rd2)) → (h40 : E1 240 = .inl (cA 0, 10, .inl er2)) → (h41 : E1 241 = .inl (cA 0, 10, .inl th2)) → (hfr8 : ∀ j, (j ≠ 233 ∧ j ≠ 239 ∧ j ≠ 240 ∧ j ≠ 241) → E1 j = E j) → (hi : i ≤ ne) → (hb1 : b1 = (stF r nt i).1) → (hb2 : b2 = (stF r nt i).2) → GG rm_X7_stalest 5 l D X 0 0 243 ad E1 8 [(0, .ref (ad 233)), (1, .int b1), (2, .int b2), (3, .int (nI i))] [] := by
    intro fu
    induction fu with
    | zero => intro i b1 b2 m3 rd2 er2 th2 E1 hfu_; exact absurd hfu_ (Nat.not_lt_zero _)
    | succ fu ih =>
      intro i b1 b2 m3 rd2 er2 th2 E1 hfu_ h3 h9 h40 h41 hfr8 hi hb1 hb2
      refine g_iload_n F (q := 9) (dk dX7_stalest 6 rfl) rfl rfl 3 rfl ?_
      refine g_aload_n F (q := 10) (dk dX7_stalest 7 rfl) rfl rfl 0 rfl ?_
      refine g_getf F (q := 13) h3 rfl inX7 (by omega) (j := 0) (by decide) tq_623 rfl rfl (dk dX7_stalest 8 rfl) rfl ?_
      refine g_iconst F (q := 14) (v := 0) (dk dX7_stalest 9 rfl) rfl (by decide) ?_
      have hc1 := (hfr8 234 (by omega)).trans h234
      refine g_iald F (q := 15) 0 hc1 (by omega) rfl (by omega) (by decide) (dk dX7_stalest 10 rfl) rfl ?_
      refine g_sti (y := (nI ne)) hI.h0 ?_
      refine g_icmp_ge F (q := 18) (tgt := 64) (dk dX7_stalest 11 rfl) (by decide) rfl (fun c15 => ?_) (fun c15 => ?_)
      · have nc15 : ne ≤ i := (nI_leI (a := ne) (b := i) (by omega) (by omega)).mp c15
        refine g_iload_n F (q := 65) (dk dX7_stalest 37 rfl) rfl rfl 1 rfl ?_
        refine hret b1 E1 _ _ (dk dX7_stalest 38 rfl) (nint _) ?_
        exact ⟨_, _, _, _, (by rw [show ne = i by omega]; exact hb1.symm), h3, h9, h40, h41, (fun j hj => (hfr8 j (by omega)))⟩
      · have nc15 : ¬ ne ≤ i := fun h => c15 ((nI_leI (a := ne) (b := i) (by omega) (by omega)).mpr h)
        refine g_aload_n F (q := 19) (dk dX7_stalest 12 rfl) rfl rfl 0 rfl ?_
        refine g_iload_n F (q := 20) (dk dX7_stalest 13 rfl) rfl rfl 3 rfl ?_
        refine g_callVV F (q := 23) (av := [.int (nI i)]) (st := []) (c_X7_findMarks (e := i) h3 hc1 h9 h40 h41 (by first | assumption | decide | omega) hI.h1 hI.e1) kv_X7_findMarks tq_818 h3 rfl (by omega) ⟨rfl, rfl⟩ (by decide) ⟨Nat.le_refl _, Nat.le_refl _⟩ rfl rfl (Nat.le_of_ble_eq_true rfl) (dk dX7_stalest 14 rfl) rfl (fun E20 hp20 => ?_)
        obtain ⟨rd1_20, er1_20, th1_20, hK233_20, hK239_20, hK240_20, hK241_20, hH_20, hF20⟩ := hp20
        have hml := mC_le (r := r) (e := i) nt
        refine g_aload_n F (q := 24) (dk dX7_stalest 15 rfl) rfl rfl 0 rfl ?_
        refine g_getf F (q := 27) hK233_20 rfl inX7 (by omega) (j := 10) (by decide) tq_633 rfl rfl (dk dX7_stalest 16 rfl) rfl ?_
        refine g_if_ne F (q := 30) (tgt := 34) (dk dX7_stalest 17 rfl) (by decide) rfl (fun c27 => ?_) (fun c27 => ?_)
        · have nc27 : ¬ (mC r i nt) = 0 := fun h => c27 ((nI_eq (a := (mC r i nt)) (b := 0) (by omega) (by omega)).mpr h)
          refine g_aload_n F (q := 35) (dk dX7_stalest 20 rfl) rfl rfl 0 rfl ?_
          refine g_getf F (q := 38) hK233_20 rfl inX7 (by omega) (j := 13) (by decide) tq_636 rfl rfl (dk dX7_stalest 21 rfl) rfl ?_
          refine g_aload_n F (q := 39) (dk dX7_stalest 22 rfl) rfl rfl 0 rfl ?_
          refine g_getf F (q := 42) hK233_20 rfl inX7 (by omega) (j := 10) (by decide) tq_633 rfl rfl (dk dX7_stalest 23 rfl) rfl ?_
          refine g_iconst F (q := 43) (v := 1) (dk dX7_stalest 24 rfl) rfl (by decide) ?_
          refine g_isub F (q := 44) (dk dX7_stalest 25 rfl) rfl ?_
          refine g_sti (y := (nI ((mC r i nt - 1)))) (nI_sub1 (by omega)) ?_
          refine g_iald F (q := 45) ((mC r i nt - 1)) hK241_20 (by omega) rfl (by omega) (by decide) (dk dX7_stalest 26 rfl) rfl ?_
          refine g_sti (y := (lth r nt i)) ((if_neg nc27).trans (hH_20 _ (by omega)).2.2.symm).symm ?_
          refine g_istore F (q := 47) (lv' := [(4, .int (lth r nt i)), (0, .ref (ad 233)), (1, .int b1), (2, .int b2), (3, .int (nI i))]) (dk dX7_stalest 27 rfl) rfl (Nat.le_of_ble_eq_true rfl) rfl ?_
          refine g_iload F (q := 49) (dk dX7_stalest 28 rfl) rfl 0 rfl ?_
          refine g_iload_n F (q := 50) (dk dX7_stalest 29 rfl) rfl rfl 3 rfl ?_
          refine g_icmp_ge F (q := 53) (tgt := 58) (dk dX7_stalest 30 rfl) (by decide) rfl (fun c50 => ?_) (fun c50 => ?_)
          · refine g_iinc F (q := 61) (v := (nI ((i + 1)))) (lv' := [(3, .int (nI ((i + 1)))), (4, .int (lth r nt i)), (0, .ref (ad 233)), (1, .int b1), (2, .int b2)]) (dk dX7_stalest 35 rfl) rfl 4 rfl (nI_1 _) (Nat.le_of_ble_eq_true rfl) rfl ?_
            refine g_goto F (tgt := 8) (dk dX7_stalest 36 rfl) (by decide) ?_
            have hst := stF_f (r := r) (nt := nt) (e := i) (by rw [← hb2]; exact Int32.not_lt.mpr c50)
            refine g_lv (lv' := [(0, .ref (ad 233)), (1, .int b1), (2, .int b2), (3, .int (nI ((i + 1))))]) [2, 3, 4, 0] rfl ?_
            exact ih (i + 1) b1 b2 (nI ((mC r i nt))) rd1_20 er1_20 th1_20 E20 (by omega) hK233_20 hK239_20 hK240_20 hK241_20 (fun j hj => ((hF20 j (by omega)).trans (hfr8 j (by omega)))) (by omega) (by rw [hst]; exact hb1) (by rw [hst]; exact hb2)
          · refine g_iload_n F (q := 54) (dk dX7_stalest 31 rfl) rfl rfl 4 rfl ?_
            refine g_istore_n F (q := 55) (lv' := [(1, .int (nI i)), (4, .int (lth r nt i)), (0, .ref (ad 233)), (2, .int b2), (3, .int (nI i))]) (dk dX7_stalest 32 rfl) rfl rfl (Nat.le_of_ble_eq_true rfl) rfl ?_
            refine g_iload F (q := 57) (dk dX7_stalest 33 rfl) rfl 1 rfl ?_
            refine g_istore_n F (q := 58) (lv' := [(2, .int (lth r nt i)), (1, .int (nI i)), (4, .int (lth r nt i)), (0, .ref (ad 233)), (3, .int (nI i))]) (dk dX7_stalest 34 rfl) rfl rfl (Nat.le_of_ble_eq_true rfl) rfl ?_
            refine g_iinc F (q := 61) (v := (nI ((i + 1)))) (lv' := [(3, .int (nI ((i + 1)))), (2, .int (lth r nt i)), (1, .int (nI i)), (4, .int (lth r nt i)), (0, .ref (ad 233))]) (dk dX7_stalest 35 rfl) rfl 4 rfl (nI_1 _) (Nat.le_of_ble_eq_true rfl) rfl ?_
            refine g_goto F (tgt := 8) (dk dX7_stalest 36 rfl) (by decide) ?_
            have hst := stF_t (r := r) (nt := nt) (e := i) (by rw [← hb2]; exact Int32.not_le.mp c50)
            refine g_lv (lv' := [(0, .ref (ad 233)), (1, .int (nI i)), (2, .int (lth r nt i)), (3, .int (nI ((i + 1))))]) [4, 2, 1, 0] rfl ?_
            exact ih (i + 1) (nI i) (lth r nt i) (nI ((mC r i nt))) rd1_20 er1_20 th1_20 E20 (by omega) hK233_20 hK239_20 hK240_20 hK241_20 (fun j hj => ((hF20 j (by omega)).trans (hfr8 j (by omega)))) (by omega) (by rw [hst]) (by rw [hst])
        · have nc27 : (mC r i nt) = 0 := (nI_eq (a := (mC r i nt)) (b := 0) (by omega) (by omega)).mp c27
          refine g_iconst F (q := 31) (v := (-1)) (dk dX7_stalest 18 rfl) rfl (by decide) ?_
          refine g_goto F (tgt := 45) (dk dX7_stalest 19 rfl) (by decide) ?_
          refine g_sti (y := (lth r nt i)) (if_pos nc27).symm ?_
          refine g_istore F (q := 47) (lv' := [(4, .int (lth r nt i)), (0, .ref (ad 233)), (1, .int b1), (2, .int b2), (3, .int (nI i))]) (dk dX7_stalest 27 rfl) rfl (Nat.le_of_ble_eq_true rfl) rfl ?_
          refine g_iload F (q := 49) (dk dX7_stalest 28 rfl) rfl 0 rfl ?_
          refine g_iload_n F (q := 50) (dk dX7_stalest 29 rfl) rfl rfl 3 rfl ?_
          refine g_icmp_ge F (q := 53) (tgt := 58) (dk dX7_stalest 30 rfl) (by decide) rfl (fun c50 => ?_) (fun c50 => ?_)
          · refine g_iinc F (q := 61) (v := (nI ((i + 1)))) (lv' := [(3, .int (nI ((i + 1)))), (4, .int (lth r nt i)), (0, .ref (ad 233)), (1, .int b1), (2, .int b2)]) (dk dX7_stalest 35 rfl) rfl 4 rfl (nI_1 _) (Nat.le_of_ble_eq_true rfl) rfl ?_
            refine g_goto F (tgt := 8) (dk dX7_stalest 36 rfl) (by decide) ?_
            have hst := stF_f (r := r) (nt := nt) (e := i) (by rw [← hb2]; exact Int32.not_lt.mpr c50)
            refine g_lv (lv' := [(0, .ref (ad 233)), (1, .int b1), (2, .int b2), (3, .int (nI ((i + 1))))]) [2, 3, 4, 0] rfl ?_
            exact ih (i + 1) b1 b2 (nI ((mC r i nt))) rd1_20 er1_20 th1_20 E20 (by omega) hK233_20 hK239_20 hK240_20 hK241_20 (fun j hj => ((hF20 j (by omega)).trans (hfr8 j (by omega)))) (by omega) (by rw [hst]; exact hb1) (by rw [hst]; exact hb2)
          · refine g_iload_n F (q := 54) (dk dX7_stalest 31 rfl) rfl rfl 4 rfl ?_
            refine g_istore_n F (q := 55) (lv' := [(1, .int (nI i)), (4, .int (lth r nt i)), (0, .ref (ad 233)), (2, .int b2), (3, .int (nI i))]) (dk dX7_stalest 32 rfl) rfl rfl (Nat.le_of_ble_eq_true rfl) rfl ?_
            refine g_iload F (q := 57) (dk dX7_stalest 33 rfl) rfl 1 rfl ?_
            refine g_istore_n F (q := 58) (lv' := [(2, .int (lth r nt i)), (1, .int (nI i)), (4, .int (lth r nt i)), (0, .ref (ad 233)), (3, .int (nI i))]) (dk dX7_stalest 34 rfl) rfl rfl (Nat.le_of_ble_eq_true rfl) rfl ?_
            refine g_iinc F (q := 61) (v := (nI ((i + 1)))) (lv' := [(3, .int (nI ((i + 1)))), (2, .int (lth r nt i)), (1, .int (nI i)), (4, .int (lth r nt i)), (0, .ref (ad 233))]) (dk dX7_stalest 35 rfl) rfl 4 rfl (nI_1 _) (Nat.le_of_ble_eq_true rfl) rfl ?_
            refine g_goto F (tgt := 8) (dk dX7_stalest 36 rfl) (by decide) ?_
            have hst := stF_t (r := r) (nt := nt) (e := i) (by rw [← hb2]; exact Int32.not_le.mp c50)
            refine g_lv (lv' := [(0, .ref (ad 233)), (1, .int (nI i)), (2, .int (lth r nt i)), (3, .int (nI ((i + 1))))]) [4, 2, 1, 0] rfl ?_
            exact ih (i + 1) (nI i) (lth r nt i) (nI ((mC r i nt))) rd1_20 er1_20 th1_20 E20 (by omega) hK233_20 hK239_20 hK240_20 hK241_20 (fun j hj => ((hF20 j (by omega)).trans (hfr8 j (by omega)))) (by omega) (by rw [hst]) (by rw [hst])
  refine g_lv (lv' := [(0, .ref (ad 233)), (1, .int (-5)), (2, .int 10), (3, .int 0)]) [3, 2, 1, 0] rfl ?_
  exact K8 _ 0 (-5) 10 s5 rd er th E (Nat.lt_succ_self _) h233 h239 h240 h241 (fun j _ => rfl) (by omega) rfl rfl
theorem kv_X7_stalest : KV yX7_stalest "ThumpEarsModel" cX7_stalest 5 (some .int) 0 := ⟨tq_854, tq_855, tq_47, tq_856, by decide +kernel⟩
