abbrev rm_X6_isWithin : Room := { frames := 0, cells := 0, slots := 0, locals := 0 }
set_option maxHeartbeats 4000000 in
set_option maxRecDepth 100000 in
theorem c_X6_isWithin {l : Launch} {D : va_G} {cA : Nat → ClassId} {ad : Nat → Nat} {E : Nat → va_E} {y a b : Int32}    : CtI l D cA yX6_isWithin cX6_isWithin 3 .boolean rm_X6_isWithin 235 ad E [.int y, .int a, .int b] (fun x E' => (E = E' ∧ 1 = x ∧ (a ≤ y ∧ y ≤ b)) ∨ (E = E' ∧ 0 = x ∧ ¬ (a ≤ y ∧ y ≤ b))) := by
  refine CtI.of (by decide +kernel) (Nat.le_of_ble_eq_true rfl) (fun X F hret => ?_)
  have F : Fr "ThumpEars" cX6_isWithin 3 D cA X := F
  refine (show GG rm_X6_isWithin 3 l D X 0 0 235 ad E 0 [(0, .int y), (1, .int a), (2, .int b)] [] from ?_)
  refine g_iload_n F (q := 1) (dk dX6_isWithin 0 rfl) rfl rfl 0 rfl ?_
  refine g_iload_n F (q := 2) (dk dX6_isWithin 1 rfl) rfl rfl 1 rfl ?_
  refine g_icmp_lt F (q := 5) (tgt := 14) (dk dX6_isWithin 2 rfl) (by decide) rfl (fun c2 => ?_) (fun c2 => ?_)
  · refine g_iconst F (q := 15) (v := 0) (dk dX6_isWithin 8 rfl) rfl (by decide) ?_
    refine hret 0 E _ _ (dk dX6_isWithin 9 rfl) rfl ?_
    exact Or.inr ⟨rfl, rfl, (fun h => absurd h.1 (Int32.not_le.mpr c2))⟩
  · refine g_iload_n F (q := 6) (dk dX6_isWithin 3 rfl) rfl rfl 0 rfl ?_
    refine g_iload_n F (q := 7) (dk dX6_isWithin 4 rfl) rfl rfl 2 rfl ?_
    refine g_icmp_gt F (q := 10) (tgt := 14) (dk dX6_isWithin 5 rfl) (by decide) rfl (fun c7 => ?_) (fun c7 => ?_)
    · refine g_iconst F (q := 15) (v := 0) (dk dX6_isWithin 8 rfl) rfl (by decide) ?_
      refine hret 0 E _ _ (dk dX6_isWithin 9 rfl) rfl ?_
      exact Or.inr ⟨rfl, rfl, (fun h => absurd h.2 (Int32.not_le.mpr c7))⟩
    · refine g_iconst F (q := 11) (v := 1) (dk dX6_isWithin 6 rfl) rfl (by decide) ?_
      refine g_goto F (tgt := 15) (dk dX6_isWithin 7 rfl) (by decide) ?_
      refine hret 1 E _ _ (dk dX6_isWithin 9 rfl) rfl ?_
      exact Or.inl ⟨rfl, rfl, ⟨Int32.not_lt.mp c2, Int32.not_lt.mp c7⟩⟩
theorem ks_X6_isWithin : KS yX6_isWithin "ThumpEars" cX6_isWithin 3 (some .boolean) 3 := ⟨tq_267, tq_9, tq_268, by decide +kernel⟩
abbrev rm_X6_longError : Room := { frames := 0, cells := 0, slots := 0, locals := 0 }
set_option maxHeartbeats 4000000 in
set_option maxRecDepth 100000 in
theorem c_X6_longError {l : Launch} {D : va_G} {cA : Nat → ClassId} {ad : Nat → Nat} {E : Nat → va_E} {a : Int32}    : CtL l D cA yX6_longError cX6_longError 1 rm_X6_longError 235 ad E [.int a] (fun x E' => (toldAs a) = x ∧ E = E') := by
  refine CtL.of (by decide +kernel) (Nat.le_of_ble_eq_true rfl) (fun X F hret => ?_)
  have F : Fr "ThumpEars" cX6_longError 1 D cA X := F
  refine (show GG rm_X6_longError 1 l D X 0 0 235 ad E 0 [(0, .int a)] [] from ?_)
  refine g_ldc2 F (q := 3) (v := (-9223372036854775808)) (dk dX6_longError 0 rfl) rfl tq_428 ?_
  refine g_iload_n F (q := 4) (dk dX6_longError 1 rfl) rfl rfl 0 rfl ?_
  refine g_i2l F (q := 5) (dk dX6_longError 2 rfl) rfl ?_
  refine g_lsub F (q := 6) (dk dX6_longError 3 rfl) rfl ?_
  refine hret ((-9223372036854775808) - a.toInt64) E _ _ (dk dX6_longError 4 rfl) ?_
  exact ⟨rfl, rfl⟩
theorem ks_X6_longError : KS yX6_longError "ThumpEars" cX6_longError 1 (some .long) 1 := ⟨tq_426, tq_9, tq_427, by decide +kernel⟩
abbrev rm_X6_countFlags_a : Room := { frames := 0, cells := 0, slots := 0, locals := 0 }
set_option maxHeartbeats 4000000 in
set_option maxRecDepth 100000 in
theorem c_X6_countFlags_a {l : Launch} {D : va_G} {cA : Nat → ClassId} {ad : Nat → Nat} {E : Nat → va_E} {n : Nat} {f : Nat → Int32}  (hf : E 5 = .inl (cA 2, 10, .inl f))  (hn : n ≤ 10) (hb : Bz f) : CtI l D cA yX6_countFlags cX6_countFlags 4 .int rm_X6_countFlags_a 235 ad E [.ref (ad 5), .int (nI n)] (fun x E' => (sumN f n) = x ∧ E = E') := by
  refine CtI.of (by decide +kernel) (Nat.le_of_ble_eq_true rfl) (fun X F hret => ?_)
  have F : Fr "ThumpEars" cX6_countFlags 4 D cA X := F
  refine (show GG rm_X6_countFlags_a 4 l D X 0 0 235 ad E 0 [(0, .ref (ad 5)), (1, .int (nI n))] [] from ?_)
  refine g_iconst F (q := 1) (v := 0) (dk dX6_countFlags 0 rfl) rfl (by decide) ?_
  refine g_istore_n F (q := 2) (lv' := [(2, .int 0), (0, .ref (ad 5)), (1, .int (nI n))]) (dk dX6_countFlags 1 rfl) rfl rfl (Nat.le_of_ble_eq_true rfl) rfl ?_
  refine g_iconst F (q := 3) (v := 0) (dk dX6_countFlags 2 rfl) rfl (by decide) ?_
  refine g_istore_n F (q := 4) (lv' := [(3, .int 0), (2, .int 0), (0, .ref (ad 5)), (1, .int (nI n))]) (dk dX6_countFlags 3 rfl) rfl rfl (Nat.le_of_ble_eq_true rfl) rfl ?_
  have K4 : ∀ (fu : Nat) (i : Nat) (s : Int32), n - i < fu → (hi : i ≤ n) → (hs : s = sumN f i) → GG rm_X6_countFlags_a 4 l D X 0 0 235 ad E 4 [(0, .ref (ad 5)), (1, .int (nI n)), (2, .int s), (3, .int (nI i))] [] := by
    intro fu
    induction fu with
    | zero => intro i s hfu_; exact absurd hfu_ (Nat.not_lt_zero _)
    | succ fu ih =>
      intro i s hfu_ hi hs
      refine g_iload_n F (q := 5) (dk dX6_countFlags 4 rfl) rfl rfl 3 rfl ?_
      refine g_iload_n F (q := 6) (dk dX6_countFlags 5 rfl) rfl rfl 1 rfl ?_
      refine g_icmp_ge F (q := 9) (tgt := 24) (dk dX6_countFlags 6 rfl) (by decide) rfl (fun c6 => ?_) (fun c6 => ?_)
      · have nc6 : n ≤ i := (nI_leI (a := n) (b := i) (by omega) (by omega)).mp c6
        refine g_iload_n F (q := 25) (dk dX6_countFlags 14 rfl) rfl rfl 2 rfl ?_
        refine hret s E _ _ (dk dX6_countFlags 15 rfl) (nint _) ?_
        exact ⟨by rw [hs, show n = i by omega], rfl⟩
      · have nc6 : ¬ n ≤ i := fun h => c6 ((nI_leI (a := n) (b := i) (by omega) (by omega)).mpr h)
        refine g_aload_n F (q := 10) (dk dX6_countFlags 7 rfl) rfl rfl 0 rfl ?_
        refine g_iload_n F (q := 11) (dk dX6_countFlags 8 rfl) rfl rfl 3 rfl ?_
        refine g_zald F (q := 12) i hf (by omega) rfl (by omega) (by decide) (dk dX6_countFlags 9 rfl) rfl ?_
        refine g_if_eq F (q := 15) (tgt := 18) (dk dX6_countFlags 10 rfl) (by decide) rfl (fun c12 => ?_) (fun c12 => ?_)
        · refine g_iinc F (q := 21) (v := (nI ((i + 1)))) (lv' := [(3, .int (nI ((i + 1)))), (0, .ref (ad 5)), (1, .int (nI n)), (2, .int s)]) (dk dX6_countFlags 12 rfl) rfl 3 rfl (nI_1 _) (Nat.le_of_ble_eq_true rfl) rfl ?_
          refine g_goto F (tgt := 4) (dk dX6_countFlags 13 rfl) (by decide) ?_
          refine g_lv (lv' := [(0, .ref (ad 5)), (1, .int (nI n)), (2, .int s), (3, .int (nI ((i + 1))))]) [1, 2, 3, 0] rfl ?_
          exact ih (i + 1) s (by omega) (by omega) (by rw [hs]; exact (sumN_b (hb i (by omega))).2 c12)
        · refine g_iinc F (q := 18) (v := (s + 1)) (lv' := [(2, .int (s + 1)), (0, .ref (ad 5)), (1, .int (nI n)), (3, .int (nI i))]) (dk dX6_countFlags 11 rfl) rfl 2 rfl rfl (Nat.le_of_ble_eq_true rfl) rfl ?_
          refine g_iinc F (q := 21) (v := (nI ((i + 1)))) (lv' := [(3, .int (nI ((i + 1)))), (2, .int (s + 1)), (0, .ref (ad 5)), (1, .int (nI n))]) (dk dX6_countFlags 12 rfl) rfl 3 rfl (nI_1 _) (Nat.le_of_ble_eq_true rfl) rfl ?_
          refine g_goto F (tgt := 4) (dk dX6_countFlags 13 rfl) (by decide) ?_
          refine g_lv (lv' := [(0, .ref (ad 5)), (1, .int (nI n)), (2, .int (s + 1)), (3, .int (nI ((i + 1))))]) [2, 3, 1, 0] rfl ?_
          exact ih (i + 1) (s + 1) (by omega) (by omega) (by rw [hs]; exact (sumN_b (hb i (by omega))).1 c12)
  refine g_lv (lv' := [(0, .ref (ad 5)), (1, .int (nI n)), (2, .int 0), (3, .int 0)]) [2, 3, 1, 0] rfl ?_
  exact K4 _ 0 0 (Nat.lt_succ_self _) (by omega) rfl
theorem ks_X6_countFlags : KS yX6_countFlags "ThumpEars" cX6_countFlags 4 (some .int) 2 := ⟨tq_298, tq_9, tq_299, by decide +kernel⟩
abbrev rm_X6_countFlags_b : Room := { frames := 0, cells := 0, slots := 0, locals := 0 }
set_option maxHeartbeats 4000000 in
set_option maxRecDepth 100000 in
theorem c_X6_countFlags_b {l : Launch} {D : va_G} {cA : Nat → ClassId} {ad : Nat → Nat} {E : Nat → va_E} {n : Nat} {f : Nat → Int32}  (hf : E 6 = .inl (cA 2, 10, .inl f))  (hn : n ≤ 10) (hb : Bz f) : CtI l D cA yX6_countFlags cX6_countFlags 4 .int rm_X6_countFlags_b 235 ad E [.ref (ad 6), .int (nI n)] (fun x E' => (sumN f n) = x ∧ E = E') := by
  refine CtI.of (by decide +kernel) (Nat.le_of_ble_eq_true rfl) (fun X F hret => ?_)
  have F : Fr "ThumpEars" cX6_countFlags 4 D cA X := F
  refine (show GG rm_X6_countFlags_b 4 l D X 0 0 235 ad E 0 [(0, .ref (ad 6)), (1, .int (nI n))] [] from ?_)
  refine g_iconst F (q := 1) (v := 0) (dk dX6_countFlags 0 rfl) rfl (by decide) ?_
  refine g_istore_n F (q := 2) (lv' := [(2, .int 0), (0, .ref (ad 6)), (1, .int (nI n))]) (dk dX6_countFlags 1 rfl) rfl rfl (Nat.le_of_ble_eq_true rfl) rfl ?_
  refine g_iconst F (q := 3) (v := 0) (dk dX6_countFlags 2 rfl) rfl (by decide) ?_
  refine g_istore_n F (q := 4) (lv' := [(3, .int 0), (2, .int 0), (0, .ref (ad 6)), (1, .int (nI n))]) (dk dX6_countFlags 3 rfl) rfl rfl (Nat.le_of_ble_eq_true rfl) rfl ?_
  have K4 : ∀ (fu : Nat) (i : Nat) (s : Int32), n - i < fu → (hi : i ≤ n) → (hs : s = sumN f i) → GG rm_X6_countFlags_b 4 l D X 0 0 235 ad E 4 [(0, .ref (ad 6)), (1, .int (nI n)), (2, .int s), (3, .int (nI i))] [] := by
    intro fu
    induction fu with
    | zero => intro i s hfu_; exact absurd hfu_ (Nat.not_lt_zero _)
    | succ fu ih =>
      intro i s hfu_ hi hs
      refine g_iload_n F (q := 5) (dk dX6_countFlags 4 rfl) rfl rfl 3 rfl ?_
      refine g_iload_n F (q := 6) (dk dX6_countFlags 5 rfl) rfl rfl 1 rfl ?_
      refine g_icmp_ge F (q := 9) (tgt := 24) (dk dX6_countFlags 6 rfl) (by decide) rfl (fun c6 => ?_) (fun c6 => ?_)
      · have nc6 : n ≤ i := (nI_leI (a := n) (b := i) (by omega) (by omega)).mp c6
        refine g_iload_n F (q := 25) (dk dX6_countFlags 14 rfl) rfl rfl 2 rfl ?_
        refine hret s E _ _ (dk dX6_countFlags 15 rfl) (nint _) ?_
        exact ⟨by rw [hs, show n = i by omega], rfl⟩
      · have nc6 : ¬ n ≤ i := fun h => c6 ((nI_leI (a := n) (b := i) (by omega) (by omega)).mpr h)
        refine g_aload_n F (q := 10) (dk dX6_countFlags 7 rfl) rfl rfl 0 rfl ?_
        refine g_iload_n F (q := 11) (dk dX6_countFlags 8 rfl) rfl rfl 3 rfl ?_
        refine g_zald F (q := 12) i hf (by omega) rfl (by omega) (by decide) (dk dX6_countFlags 9 rfl) rfl ?_
        refine g_if_eq F (q := 15) (tgt := 18) (dk dX6_countFlags 10 rfl) (by decide) rfl (fun c12 => ?_) (fun c12 => ?_)
        · refine g_iinc F (q := 21) (v := (nI ((i + 1)))) (lv' := [(3, .int (nI ((i + 1)))), (0, .ref (ad 6)), (1, .int (nI n)), (2, .int s)]) (dk dX6_countFlags 12 rfl) rfl 3 rfl (nI_1 _) (Nat.le_of_ble_eq_true rfl) rfl ?_
          refine g_goto F (tgt := 4) (dk dX6_countFlags 13 rfl) (by decide) ?_
          refine g_lv (lv' := [(0, .ref (ad 6)), (1, .int (nI n)), (2, .int s), (3, .int (nI ((i + 1))))]) [1, 2, 3, 0] rfl ?_
          exact ih (i + 1) s (by omega) (by omega) (by rw [hs]; exact (sumN_b (hb i (by omega))).2 c12)
        · refine g_iinc F (q := 18) (v := (s + 1)) (lv' := [(2, .int (s + 1)), (0, .ref (ad 6)), (1, .int (nI n)), (3, .int (nI i))]) (dk dX6_countFlags 11 rfl) rfl 2 rfl rfl (Nat.le_of_ble_eq_true rfl) rfl ?_
          refine g_iinc F (q := 21) (v := (nI ((i + 1)))) (lv' := [(3, .int (nI ((i + 1)))), (2, .int (s + 1)), (0, .ref (ad 6)), (1, .int (nI n))]) (dk dX6_countFlags 12 rfl) rfl 3 rfl (nI_1 _) (Nat.le_of_ble_eq_true rfl) rfl ?_
          refine g_goto F (tgt := 4) (dk dX6_countFlags 13 rfl) (by decide) ?_
          refine g_lv (lv' := [(0, .ref (ad 6)), (1, .int (nI n)), (2, .int (s + 1)), (3, .int (nI ((i + 1))))]) [2, 3, 1, 0] rfl ?_
          exact ih (i + 1) (s + 1) (by omega) (by omega) (by rw [hs]; exact (sumN_b (hb i (by omega))).1 c12)
  refine g_lv (lv' := [(0, .ref (ad 6)), (1, .int (nI n)), (2, .int 0), (3, .int 0)]) [2, 3, 1, 0] rfl ?_
  exact K4 _ 0 0 (Nat.lt_succ_self _) (by omega) rfl
abbrev rm_X6_latestReading : Room := { frames := 3, cells := 0, slots := 0, locals := 72 }
set_option maxHeartbeats 4000000 in
set_option maxRecDepth 100000 in
theorem c_X6_latestReading {l : Launch} {D : va_G} {cA : Nat → ClassId} {ad : Nat → Nat} {E : Nat → va_E} {r : Nat → Int32} {ne nt nk nh : Nat} {H : Nat → Nat → Int32} {s1 : Int32} {asd : Nat → Int32} {ln : Nat} {txt : Nat → Int32} {e : Nat}  (hco : Core cA ad E r ne nt nk nh H s1 asd ln txt) (hmk : MkP cA ad E) (hsr : SrP cA ad E) (he : e < ne) : CtI l D cA yX6_latestReading cX6_latestReading 2 .int rm_X6_latestReading 235 ad E [.ref (ad 0), .int (nI e)] (fun x E' => (if mC r e nt = 0 then -5 else mRd r e nt (mC r e nt - 1) + 10000) = x ∧ (Core cA ad E' r ne nt nk nh H s1 asd ln txt) ∧ (MkP cA ad E') ∧ (SrP cA ad E') ∧ ∀ j, (233 ≤ j) → E' j = E j) := by
  refine CtI.of (by decide +kernel) (Nat.le_of_ble_eq_true rfl) (fun X F hret => ?_)
  have F : Fr "ThumpEars" cX6_latestReading 2 D cA X := F
  refine (show GG rm_X6_latestReading 2 l D X 0 0 235 ad E 0 [(0, .ref (ad 0)), (1, .int (nI e))] [] from ?_)
  have hco2 := hco
  obtain ⟨v, vs, tg, vh, od, po, nu, ar, pla, ti, re, h0, hst, hsn, h73, h74, hhs, h219, h220, h221, h222, h223, h224, htg, hnh, hln, hcn, hhc, hss⟩ := hco2
  have hmk2 := hmk
  obtain ⟨m0, th, rd, er, h225, hth, hrd, her⟩ := hmk2
  have hsr2 := hsr
  obtain ⟨s0, px, pp, ls, gr, ea, pl, rt, h229, hsea, hspl, hsrt⟩ := hsr2
  have hne := hcn.i.e0
  have hnt := hcn.i.e1
  have hnk := hcn.i.e2
  have h1 : E 1 = .inr (5, [.ref (ad 2), .ref (ad 3), .ref (ad 4), .ref (ad 5), .ref (ad 6), .ref (ad 7), .ref (ad 22), .int (nI ne), .int (r 3), .int (r 4), .int (r 5)]) := by have q := hst.o; rw [hcn.n0, hcn.r3, hcn.r4, hcn.r5] at q; exact q
  have h7 : E 7 = .inr (3, [.ref (ad 8), .ref (ad 9), .ref (ad 10), .ref (ad 11), .int (nI nt)]) := by have q := hst.t; rw [hcn.n1] at q; exact q
  have h22 : E 22 = .inr (3, [.ref (ad 23), .ref (ad 24), .ref (ad 25), .ref (ad 26), .int (nI nk)]) := by have q := hst.k; rw [hcn.n2] at q; exact q
  refine g_aload_n F (q := 1) (dk dX6_latestReading 0 rfl) rfl rfl 0 rfl ?_
  refine g_getf F (q := 4) h0 rfl inX6 (by omega) (j := 5) (by decide) tq_245 rfl rfl (dk dX6_latestReading 1 rfl) rfl ?_
  refine g_aload_n F (q := 5) (dk dX6_latestReading 2 rfl) rfl rfl 0 rfl ?_
  refine g_getf F (q := 8) h0 rfl inX6 (by omega) (j := 0) (by decide) tq_240 rfl rfl (dk dX6_latestReading 3 rfl) rfl ?_
  refine g_iload_n F (q := 9) (dk dX6_latestReading 4 rfl) rfl rfl 1 rfl ?_
  refine g_callVV F (q := 12) (av := [.ref (ad 1), .int (nI e)]) (st := []) (c_X1_gather (e := e) h225 hth hrd her hst (by first | assumption | decide | omega) (by first | assumption | decide | omega)) kv_X1_gather tq_403 h225 rfl (by omega) ⟨rfl, rfl⟩ (by decide) ⟨Nat.le_refl _, Nat.le_refl _⟩ rfl rfl (Nat.le_of_ble_eq_true rfl) (dk dX6_latestReading 5 rfl) rfl (fun E9 hp9 => ?_)
  obtain ⟨th1_9, rd1_9, er1_9, hK225_9, hK226_9, hK227_9, hK228_9, hH_9, hF9⟩ := hp9
  have hml := mC_le (r := r) (e := e) nt
  refine g_aload_n F (q := 13) (dk dX6_latestReading 6 rfl) rfl rfl 0 rfl ?_
  have hc1 := (hF9 0 (by omega)).trans h0
  refine g_getf F (q := 16) hc1 rfl inX6 (by omega) (j := 5) (by decide) tq_245 rfl rfl (dk dX6_latestReading 7 rfl) rfl ?_
  refine g_getf F (q := 19) hK225_9 rfl inX1 (by omega) (j := 3) (by decide) tq_196 rfl rfl (dk dX6_latestReading 8 rfl) rfl ?_
  refine g_if_ne F (q := 22) (tgt := 27) (dk dX6_latestReading 9 rfl) (by decide) rfl (fun c19 => ?_) (fun c19 => ?_)
  · have nc19 : ¬ (mC r e nt) = 0 := fun h => c19 ((nI_eq (a := (mC r e nt)) (b := 0) (by omega) (by omega)).mpr h)
    refine g_aload_n F (q := 28) (dk dX6_latestReading 12 rfl) rfl rfl 0 rfl ?_
    refine g_getf F (q := 31) hc1 rfl inX6 (by omega) (j := 5) (by decide) tq_245 rfl rfl (dk dX6_latestReading 13 rfl) rfl ?_
    refine g_getf F (q := 34) hK225_9 rfl inX1 (by omega) (j := 1) (by decide) tq_192 rfl rfl (dk dX6_latestReading 14 rfl) rfl ?_
    refine g_aload_n F (q := 35) (dk dX6_latestReading 15 rfl) rfl rfl 0 rfl ?_
    refine g_getf F (q := 38) hc1 rfl inX6 (by omega) (j := 5) (by decide) tq_245 rfl rfl (dk dX6_latestReading 16 rfl) rfl ?_
    refine g_getf F (q := 41) hK225_9 rfl inX1 (by omega) (j := 3) (by decide) tq_196 rfl rfl (dk dX6_latestReading 17 rfl) rfl ?_
    refine g_iconst F (q := 42) (v := 1) (dk dX6_latestReading 18 rfl) rfl (by decide) ?_
    refine g_isub F (q := 43) (dk dX6_latestReading 19 rfl) rfl ?_
    refine g_sti (y := (nI ((mC r e nt - 1)))) (nI_sub1 (by omega)) ?_
    refine g_iald F (q := 44) ((mC r e nt - 1)) hK227_9 (by omega) rfl (by omega) (by decide) (dk dX6_latestReading 20 rfl) rfl ?_
    refine g_sipush F (q := 47) (v := 10000) (dk dX6_latestReading 21 rfl) rfl (by decide) ?_
    refine g_iadd F (q := 48) (dk dX6_latestReading 22 rfl) rfl ?_
    have hb2 := hco.fr (fun j h1 h2 => hF9 j (by omega))
    have hb3 := hsr.fr (fun j h1 h2 => hF9 j (by omega))
    refine hret ((rd1_9 ((mC r e nt - 1))) + 10000) E9 _ _ (dk dX6_latestReading 23 rfl) (nint _) ?_
    exact ⟨(by rw [if_neg nc19, ← (hH_9 _ (by omega)).1]), hb2, ⟨_, _, _, _, hK225_9, hK226_9, hK227_9, hK228_9⟩, hb3, (fun j hj => (hF9 j (by omega)))⟩
  · have nc19 : (mC r e nt) = 0 := (nI_eq (a := (mC r e nt)) (b := 0) (by omega) (by omega)).mp c19
    refine g_bipush F (q := 24) (v := (-5)) (dk dX6_latestReading 10 rfl) rfl (by decide) ?_
    refine g_goto F (tgt := 48) (dk dX6_latestReading 11 rfl) (by decide) ?_
    have hb4 := hco.fr (fun j h1 h2 => hF9 j (by omega))
    have hb5 := hsr.fr (fun j h1 h2 => hF9 j (by omega))
    refine hret (-5) E9 _ _ (dk dX6_latestReading 23 rfl) (nint _) ?_
    exact ⟨(by rw [if_pos nc19]), hb4, ⟨_, _, _, _, hK225_9, hK226_9, hK227_9, hK228_9⟩, hb5, (fun j hj => (hF9 j (by omega)))⟩
theorem kv_X6_latestReading : KV yX6_latestReading "ThumpEars" cX6_latestReading 2 (some .int) 1 := ⟨tq_406, tq_1, tq_9, tq_407, by decide +kernel⟩
abbrev rm_X6_clock : Room := { frames := 2, cells := 0, slots := 0, locals := 44 }
set_option maxHeartbeats 4000000 in
set_option maxRecDepth 100000 in
theorem c_X6_clock {l : Launch} {D : va_G} {cA : Nat → ClassId} {ad : Nat → Nat} {E : Nat → va_E} {r : Nat → Int32} {ne nt nk nh : Nat} {H : Nat → Nat → Int32} {s1 : Int32} {asd : Nat → Int32} {ln : Nat} {txt : Nat → Int32} {ear t : Int32}  (hco : Core cA ad E r ne nt nk nh H s1 asd ln txt) (hmk : MkP cA ad E) (hsr : SrP cA ad E)  : CtI l D cA yX6_clock cX6_clock 3 .int rm_X6_clock 235 ad E [.ref (ad 0), .int ear, .int t] (fun x E' => (sCk r ne ear t) = x ∧ (Core cA ad E' r ne nt nk nh H s1 asd ln txt) ∧ (MkP cA ad E') ∧ (SrP cA ad E') ∧ ∀ j, (233 ≤ j) → E' j = E j) := by
  refine CtI.of (by decide +kernel) (Nat.le_of_ble_eq_true rfl) (fun X F hret => ?_)
  have F : Fr "ThumpEars" cX6_clock 3 D cA X := F
  refine (show GG rm_X6_clock 3 l D X 0 0 235 ad E 0 [(0, .ref (ad 0)), (1, .int ear), (2, .int t)] [] from ?_)
  have hco2 := hco
  obtain ⟨v, vs, tg, vh, od, po, nu, ar, pla, ti, re, h0, hst, hsn, h73, h74, hhs, h219, h220, h221, h222, h223, h224, htg, hnh, hln, hcn, hhc, hss⟩ := hco2
  have hmk2 := hmk
  obtain ⟨m0, th, rd, er, h225, hth, hrd, her⟩ := hmk2
  have hsr2 := hsr
  obtain ⟨s0, px, pp, ls, gr, ea, pl, rt, h229, hsea, hspl, hsrt⟩ := hsr2
  have hne := hcn.i.e0
  have hnt := hcn.i.e1
  have hnk := hcn.i.e2
  have h1 : E 1 = .inr (5, [.ref (ad 2), .ref (ad 3), .ref (ad 4), .ref (ad 5), .ref (ad 6), .ref (ad 7), .ref (ad 22), .int (nI ne), .int (r 3), .int (r 4), .int (r 5)]) := by have q := hst.o; rw [hcn.n0, hcn.r3, hcn.r4, hcn.r5] at q; exact q
  have h7 : E 7 = .inr (3, [.ref (ad 8), .ref (ad 9), .ref (ad 10), .ref (ad 11), .int (nI nt)]) := by have q := hst.t; rw [hcn.n1] at q; exact q
  have h22 : E 22 = .inr (3, [.ref (ad 23), .ref (ad 24), .ref (ad 25), .ref (ad 26), .int (nI nk)]) := by have q := hst.k; rw [hcn.n2] at q; exact q
  refine g_aload_n F (q := 1) (dk dX6_clock 0 rfl) rfl rfl 0 rfl ?_
  refine g_getf F (q := 4) h0 rfl inX6 (by omega) (j := 0) (by decide) tq_240 rfl rfl (dk dX6_clock 1 rfl) rfl ?_
  refine g_iload_n F (q := 5) (dk dX6_clock 2 rfl) rfl rfl 1 rfl ?_
  refine g_callVI F (q := 8) (av := [.int ear]) (st := []) (c_X5_hasEar (ear := ear) h1 (by first | assumption | decide | omega)) kv_X5_hasEar tq_394 h1 rfl (by omega) ⟨rfl, rfl⟩ (by decide) ⟨Nat.le_refl _, Nat.le_refl _⟩ rfl rfl (Nat.le_of_ble_eq_true rfl) (dk dX6_clock 3 rfl) rfl (fun r5 E5 hp5 => ?_)
  rcases hp5 with ⟨rfl, rfl, b5⟩ | ⟨rfl, rfl, b5⟩
  · obtain ⟨e, he, rfl⟩ := b5
    refine g_if_ne F (q := 11) (tgt := 13) (dk dX6_clock 4 rfl) (by decide) rfl (fun _ => ?_) (fun h => absurd h (by decide))
    refine g_iload_n F (q := 14) (dk dX6_clock 7 rfl) rfl rfl 2 rfl ?_
    refine g_iconst F (q := 15) (v := 0) (dk dX6_clock 8 rfl) rfl (by decide) ?_
    refine g_ldc F (q := 17) (v := 200000) (dk dX6_clock 9 rfl) rfl tq_443 ?_
    refine g_callSI F (q := 20) (av := [.int t, .int 0, .int 200000]) (st := []) (c_X6_isWithin (y := t) (a := 0) (b := 200000)) ks_X6_isWithin tq_266 ⟨rfl, rfl⟩ (by decide) ⟨Nat.le_refl _, Nat.le_refl _⟩ rfl rfl (Nat.le_of_ble_eq_true rfl) (dk dX6_clock 10 rfl) rfl (fun r17 E17 hp17 => ?_)
    rcases hp17 with ⟨rfl, rfl, b17⟩ | ⟨rfl, rfl, b17⟩
    · refine g_if_ne F (q := 23) (tgt := 26) (dk dX6_clock 11 rfl) (by decide) rfl (fun _ => ?_) (fun h => absurd h (by decide))
      refine g_aload_n F (q := 27) (dk dX6_clock 14 rfl) rfl rfl 0 rfl ?_
      refine g_getf F (q := 30) h0 rfl inX6 (by omega) (j := 0) (by decide) tq_240 rfl rfl (dk dX6_clock 15 rfl) rfl ?_
      refine g_iload_n F (q := 31) (dk dX6_clock 16 rfl) rfl rfl 1 rfl ?_
      refine g_iload_n F (q := 32) (dk dX6_clock 17 rfl) rfl rfl 2 rfl ?_
      have hc1 : E 3 = .inl (cA 0, 10, .inl (v 2)) := hst.a 2 (by omega)
      have hc2 : E 4 = .inl (cA 0, 10, .inl (v 3)) := hst.a 3 (by omega)
      refine g_callVI F (q := 35) (av := [.int (nI e), .int t]) (st := []) (c_X5_reading (e := e) (t := t) h1 hc1 hc2 (by first | assumption | decide | omega)) kv_X5_reading tq_444 h1 rfl (by omega) ⟨rfl, rfl⟩ (by decide) ⟨Nat.le_refl _, Nat.le_refl _⟩ rfl rfl (Nat.le_of_ble_eq_true rfl) (dk dX6_clock 18 rfl) rfl (fun r32 E32 hp32 => ?_)
      obtain ⟨rfl, rfl⟩ := hp32
      refine g_sipush F (q := 38) (v := 10000) (dk dX6_clock 19 rfl) rfl (by decide) ?_
      refine g_iadd F (q := 39) (dk dX6_clock 20 rfl) rfl ?_
      refine hret ((t + (v 2) e + fdi ((v 3) e * t) 10000) + 10000) E _ _ (dk dX6_clock 21 rfl) (nint _) ?_
      exact ⟨(by unfold sCk; rw [if_neg (ixN he (by omega)), nI_c (by omega), if_pos b17, rdc_of hcn he (i32le (by decide) (by decide) b17)]), hco, hmk, hsr, (fun j _ => rfl)⟩
    · refine g_if_ne F (q := 23) (tgt := 26) (dk dX6_clock 11 rfl) (by decide) rfl (fun h => absurd h (by decide)) (fun _ => ?_)
      refine g_bipush F (q := 25) (v := (-2)) (dk dX6_clock 12 rfl) rfl (by decide) ?_
      refine hret (-2) E _ _ (dk dX6_clock 13 rfl) (nint _) ?_
      exact ⟨(by unfold sCk; rw [if_neg (ixN he (by omega)), nI_c (by omega), if_neg b17]), hco, hmk, hsr, (fun j _ => rfl)⟩
  · refine g_if_ne F (q := 11) (tgt := 13) (dk dX6_clock 4 rfl) (by decide) rfl (fun h => absurd h (by decide)) (fun _ => ?_)
    refine g_iconst F (q := 12) (v := (-1)) (dk dX6_clock 5 rfl) rfl (by decide) ?_
    refine hret (-1) E _ _ (dk dX6_clock 6 rfl) (nint _) ?_
    exact ⟨(by unfold sCk; rw [if_pos b5]), hco, hmk, hsr, (fun j _ => rfl)⟩
theorem kv_X6_clock : KV yX6_clock "ThumpEars" cX6_clock 3 (some .int) 2 := ⟨tq_440, tq_441, tq_9, tq_442, by decide +kernel⟩
abbrev rm_X6_error : Room := { frames := 3, cells := 0, slots := 0, locals := 72 }
set_option maxHeartbeats 4000000 in
set_option maxRecDepth 100000 in
theorem c_X6_error {l : Launch} {D : va_G} {cA : Nat → ClassId} {ad : Nat → Nat} {E : Nat → va_E} {r : Nat → Int32} {ne nt nk nh : Nat} {H : Nat → Nat → Int32} {s1 : Int32} {asd : Nat → Int32} {ln : Nat} {txt : Nat → Int32} {ear c : Int32}  (hco : Core cA ad E r ne nt nk nh H s1 asd ln txt) (hmk : MkP cA ad E) (hsr : SrP cA ad E)  : CtL l D cA yX6_error cX6_error 3 rm_X6_error 235 ad E [.ref (ad 0), .int ear, .int c] (fun x E' => (sErr r ne nt ear c) = x ∧ (Core cA ad E' r ne nt nk nh H s1 asd ln txt) ∧ (MkP cA ad E') ∧ (SrP cA ad E') ∧ ∀ j, (233 ≤ j) → E' j = E j) := by
  refine CtL.of (by decide +kernel) (Nat.le_of_ble_eq_true rfl) (fun X F hret => ?_)
  have F : Fr "ThumpEars" cX6_error 3 D cA X := F
  refine (show GG rm_X6_error 3 l D X 0 0 235 ad E 0 [(0, .ref (ad 0)), (1, .int ear), (2, .int c)] [] from ?_)
  have hco2 := hco
  obtain ⟨v, vs, tg, vh, od, po, nu, ar, pla, ti, re, h0, hst, hsn, h73, h74, hhs, h219, h220, h221, h222, h223, h224, htg, hnh, hln, hcn, hhc, hss⟩ := hco2
  have hmk2 := hmk
  obtain ⟨m0, th, rd, er, h225, hth, hrd, her⟩ := hmk2
  have hsr2 := hsr
  obtain ⟨s0, px, pp, ls, gr, ea, pl, rt, h229, hsea, hspl, hsrt⟩ := hsr2
  have hne := hcn.i.e0
  have hnt := hcn.i.e1
  have hnk := hcn.i.e2
  have h1 : E 1 = .inr (5, [.ref (ad 2), .ref (ad 3), .ref (ad 4), .ref (ad 5), .ref (ad 6), .ref (ad 7), .ref (ad 22), .int (nI ne), .int (r 3), .int (r 4), .int (r 5)]) := by have q := hst.o; rw [hcn.n0, hcn.r3, hcn.r4, hcn.r5] at q; exact q
  have h7 : E 7 = .inr (3, [.ref (ad 8), .ref (ad 9), .ref (ad 10), .ref (ad 11), .int (nI nt)]) := by have q := hst.t; rw [hcn.n1] at q; exact q
  have h22 : E 22 = .inr (3, [.ref (ad 23), .ref (ad 24), .ref (ad 25), .ref (ad 26), .int (nI nk)]) := by have q := hst.k; rw [hcn.n2] at q; exact q
  refine g_aload_n F (q := 1) (dk dX6_error 0 rfl) rfl rfl 0 rfl ?_
  refine g_getf F (q := 4) h0 rfl inX6 (by omega) (j := 0) (by decide) tq_240 rfl rfl (dk dX6_error 1 rfl) rfl ?_
  refine g_iload_n F (q := 5) (dk dX6_error 2 rfl) rfl rfl 1 rfl ?_
  refine g_callVI F (q := 8) (av := [.int ear]) (st := []) (c_X5_hasEar (ear := ear) h1 (by first | assumption | decide | omega)) kv_X5_hasEar tq_394 h1 rfl (by omega) ⟨rfl, rfl⟩ (by decide) ⟨Nat.le_refl _, Nat.le_refl _⟩ rfl rfl (Nat.le_of_ble_eq_true rfl) (dk dX6_error 3 rfl) rfl (fun r5 E5 hp5 => ?_)
  rcases hp5 with ⟨rfl, rfl, b5⟩ | ⟨rfl, rfl, b5⟩
  · obtain ⟨e, he, rfl⟩ := b5
    refine g_if_ne F (q := 11) (tgt := 16) (dk dX6_error 4 rfl) (by decide) rfl (fun _ => ?_) (fun h => absurd h (by decide))
    refine g_iload_n F (q := 17) (dk dX6_error 8 rfl) rfl rfl 2 rfl ?_
    refine g_sipush F (q := 20) (v := (-10000)) (dk dX6_error 9 rfl) rfl (by decide) ?_
    refine g_ldc F (q := 22) (v := 300000) (dk dX6_error 10 rfl) rfl tq_429 ?_
    refine g_callSI F (q := 25) (av := [.int c, .int (-10000), .int 300000]) (st := []) (c_X6_isWithin (y := c) (a := (-10000)) (b := 300000)) ks_X6_isWithin tq_266 ⟨rfl, rfl⟩ (by decide) ⟨Nat.le_refl _, Nat.le_refl _⟩ rfl rfl (Nat.le_of_ble_eq_true rfl) (dk dX6_error 11 rfl) rfl (fun r22 E22 hp22 => ?_)
    rcases hp22 with ⟨rfl, rfl, b22⟩ | ⟨rfl, rfl, b22⟩
    · refine g_if_ne F (q := 28) (tgt := 34) (dk dX6_error 12 rfl) (by decide) rfl (fun _ => ?_) (fun h => absurd h (by decide))
      refine g_aload_n F (q := 35) (dk dX6_error 16 rfl) rfl rfl 0 rfl ?_
      refine g_getf F (q := 38) h0 rfl inX6 (by omega) (j := 5) (by decide) tq_245 rfl rfl (dk dX6_error 17 rfl) rfl ?_
      refine g_aload_n F (q := 39) (dk dX6_error 18 rfl) rfl rfl 0 rfl ?_
      refine g_getf F (q := 42) h0 rfl inX6 (by omega) (j := 0) (by decide) tq_240 rfl rfl (dk dX6_error 19 rfl) rfl ?_
      refine g_iload_n F (q := 43) (dk dX6_error 20 rfl) rfl rfl 1 rfl ?_
      refine g_callVV F (q := 46) (av := [.ref (ad 1), .int (nI e)]) (st := []) (c_X1_gather (e := e) h225 hth hrd her hst (by first | assumption | decide | omega) (by first | assumption | decide | omega)) kv_X1_gather tq_403 h225 rfl (by omega) ⟨rfl, rfl⟩ (by decide) ⟨Nat.le_refl _, Nat.le_refl _⟩ rfl rfl (Nat.le_of_ble_eq_true rfl) (dk dX6_error 21 rfl) rfl (fun E43 hp43 => ?_)
      obtain ⟨th1_43, rd1_43, er1_43, hK225_43, hK226_43, hK227_43, hK228_43, hH_43, hF43⟩ := hp43
      have hml := mC_le (r := r) (e := e) nt
      refine g_aload_n F (q := 47) (dk dX6_error 22 rfl) rfl rfl 0 rfl ?_
      have hc1 := (hF43 0 (by omega)).trans h0
      refine g_getf F (q := 50) hc1 rfl inX6 (by omega) (j := 5) (by decide) tq_245 rfl rfl (dk dX6_error 23 rfl) rfl ?_
      refine g_iload_n F (q := 51) (dk dX6_error 24 rfl) rfl rfl 2 rfl ?_
      refine g_callVL F (q := 54) (av := [.int c]) (st := []) (c_X1_errorAt (y := c) hK225_43 hK227_43 hK228_43 (by first | assumption | decide | omega) (mH_mo hH_43) (mH_b hcn.i (by omega) hH_43)) kv_X1_errorAt tq_430 hK225_43 rfl (by omega) ⟨rfl, rfl⟩ (by decide) ⟨Nat.le_refl _, Nat.le_refl _⟩ rfl rfl (Nat.le_of_ble_eq_true rfl) (dk dX6_error 25 rfl) rfl (fun r51 E51 hp51 => ?_)
      obtain ⟨rfl, rfl⟩ := hp51
      have hb2 := hco.fr (fun j h1 h2 => hF43 j (by omega))
      have hb3 := hsr.fr (fun j h1 h2 => hF43 j (by omega))
      refine hret (eA (mC r e nt) rd1_43 er1_43 c) E43 _ _ (dk dX6_error 26 rfl) ?_
      exact ⟨(by unfold sErr; rw [if_neg (ixN he (by omega)), nI_c (by omega), if_pos b22, errR_of hH_43]), hb2, ⟨_, _, _, _, hK225_43, hK226_43, hK227_43, hK228_43⟩, hb3, (fun j hj => (hF43 j (by omega)))⟩
    · refine g_if_ne F (q := 28) (tgt := 34) (dk dX6_error 12 rfl) (by decide) rfl (fun h => absurd h (by decide)) (fun _ => ?_)
      refine g_bipush F (q := 30) (v := (-2)) (dk dX6_error 13 rfl) rfl (by decide) ?_
      refine g_callSL F (q := 33) (av := [.int (-2)]) (st := []) (c_X6_longError (a := (-2))) ks_X6_longError tq_425 ⟨rfl, rfl⟩ (by decide) ⟨Nat.le_refl _, Nat.le_refl _⟩ rfl rfl (Nat.le_of_ble_eq_true rfl) (dk dX6_error 14 rfl) rfl (fun r30 E30 hp30 => ?_)
      obtain ⟨rfl, rfl⟩ := hp30
      refine hret (toldAs (-2)) E _ _ (dk dX6_error 15 rfl) ?_
      exact ⟨(by unfold sErr; rw [if_neg (ixN he (by omega)), nI_c (by omega), if_neg b22]), hco, hmk, hsr, (fun j _ => rfl)⟩
  · refine g_if_ne F (q := 11) (tgt := 16) (dk dX6_error 4 rfl) (by decide) rfl (fun h => absurd h (by decide)) (fun _ => ?_)
    refine g_iconst F (q := 12) (v := (-1)) (dk dX6_error 5 rfl) rfl (by decide) ?_
    refine g_callSL F (q := 15) (av := [.int (-1)]) (st := []) (c_X6_longError (a := (-1))) ks_X6_longError tq_425 ⟨rfl, rfl⟩ (by decide) ⟨Nat.le_refl _, Nat.le_refl _⟩ rfl rfl (Nat.le_of_ble_eq_true rfl) (dk dX6_error 6 rfl) rfl (fun r12 E12 hp12 => ?_)
    obtain ⟨rfl, rfl⟩ := hp12
    refine hret (toldAs (-1)) E _ _ (dk dX6_error 7 rfl) ?_
    exact ⟨(by unfold sErr; rw [if_pos b5]), hco, hmk, hsr, (fun j _ => rfl)⟩
theorem kv_X6_error : KV yX6_error "ThumpEars" cX6_error 3 (some .long) 2 := ⟨tq_422, tq_423, tq_9, tq_424, by decide +kernel⟩
abbrev rm_X6_mark : Room := { frames := 3, cells := 0, slots := 0, locals := 72 }
set_option maxHeartbeats 4000000 in
set_option maxRecDepth 100000 in
theorem c_X6_mark {l : Launch} {D : va_G} {cA : Nat → ClassId} {ad : Nat → Nat} {E : Nat → va_E} {r : Nat → Int32} {ne nt nk nh : Nat} {H : Nat → Nat → Int32} {s1 : Int32} {asd : Nat → Int32} {ln : Nat} {txt : Nat → Int32} {ear mk what : Int32}  (hco : Core cA ad E r ne nt nk nh H s1 asd ln txt) (hmk : MkP cA ad E) (hsr : SrP cA ad E)  : CtI l D cA yX6_mark cX6_mark 4 .int rm_X6_mark 235 ad E [.ref (ad 0), .int ear, .int mk, .int what] (fun x E' => (sMark r ne nt ear mk what) = x ∧ (Core cA ad E' r ne nt nk nh H s1 asd ln txt) ∧ (MkP cA ad E') ∧ (SrP cA ad E') ∧ ∀ j, (233 ≤ j) → E' j = E j) := by
  refine CtI.of (by decide +kernel) (Nat.le_of_ble_eq_true rfl) (fun X F hret => ?_)
  have F : Fr "ThumpEars" cX6_mark 4 D cA X := F
  refine (show GG rm_X6_mark 4 l D X 0 0 235 ad E 0 [(0, .ref (ad 0)), (1, .int ear), (2, .int mk), (3, .int what)] [] from ?_)
  have hco2 := hco
  obtain ⟨v, vs, tg, vh, od, po, nu, ar, pla, ti, re, h0, hst, hsn, h73, h74, hhs, h219, h220, h221, h222, h223, h224, htg, hnh, hln, hcn, hhc, hss⟩ := hco2
  have hmk2 := hmk
  obtain ⟨m0, th, rd, er, h225, hth, hrd, her⟩ := hmk2
  have hsr2 := hsr
  obtain ⟨s0, px, pp, ls, gr, ea, pl, rt, h229, hsea, hspl, hsrt⟩ := hsr2
  have hne := hcn.i.e0
  have hnt := hcn.i.e1
  have hnk := hcn.i.e2
  have h1 : E 1 = .inr (5, [.ref (ad 2), .ref (ad 3), .ref (ad 4), .ref (ad 5), .ref (ad 6), .ref (ad 7), .ref (ad 22), .int (nI ne), .int (r 3), .int (r 4), .int (r 5)]) := by have q := hst.o; rw [hcn.n0, hcn.r3, hcn.r4, hcn.r5] at q; exact q
  have h7 : E 7 = .inr (3, [.ref (ad 8), .ref (ad 9), .ref (ad 10), .ref (ad 11), .int (nI nt)]) := by have q := hst.t; rw [hcn.n1] at q; exact q
  have h22 : E 22 = .inr (3, [.ref (ad 23), .ref (ad 24), .ref (ad 25), .ref (ad 26), .int (nI nk)]) := by have q := hst.k; rw [hcn.n2] at q; exact q
  refine g_aload_n F (q := 1) (dk dX6_mark 0 rfl) rfl rfl 0 rfl ?_
  refine g_getf F (q := 4) h0 rfl inX6 (by omega) (j := 0) (by decide) tq_240 rfl rfl (dk dX6_mark 1 rfl) rfl ?_
  refine g_iload_n F (q := 5) (dk dX6_mark 2 rfl) rfl rfl 1 rfl ?_
  refine g_callVI F (q := 8) (av := [.int ear]) (st := []) (c_X5_hasEar (ear := ear) h1 (by first | assumption | decide | omega)) kv_X5_hasEar tq_394 h1 rfl (by omega) ⟨rfl, rfl⟩ (by decide) ⟨Nat.le_refl _, Nat.le_refl _⟩ rfl rfl (Nat.le_of_ble_eq_true rfl) (dk dX6_mark 3 rfl) rfl (fun r5 E5 hp5 => ?_)
  rcases hp5 with ⟨rfl, rfl, b5⟩ | ⟨rfl, rfl, b5⟩
  · obtain ⟨e, he, rfl⟩ := b5
    refine g_if_ne F (q := 11) (tgt := 13) (dk dX6_mark 4 rfl) (by decide) rfl (fun _ => ?_) (fun h => absurd h (by decide))
    refine g_iload_n F (q := 14) (dk dX6_mark 7 rfl) rfl rfl 2 rfl ?_
    refine g_if_lt F (q := 17) (tgt := 26) (dk dX6_mark 8 rfl) (by decide) rfl (fun c14 => ?_) (fun c14 => ?_)
    · refine g_bipush F (q := 28) (v := (-2)) (dk dX6_mark 14 rfl) rfl (by decide) ?_
      refine hret (-2) E _ _ (dk dX6_mark 15 rfl) (nint _) ?_
      exact ⟨(by unfold sMark; rw [if_neg (ixN he (by omega)), nI_c (by omega), if_pos (Or.inl c14)]), hco, hmk, hsr, (fun j _ => rfl)⟩
    · refine g_iload_n F (q := 18) (dk dX6_mark 9 rfl) rfl rfl 3 rfl ?_
      refine g_iconst F (q := 19) (v := 0) (dk dX6_mark 10 rfl) rfl (by decide) ?_
      refine g_iconst F (q := 20) (v := 2) (dk dX6_mark 11 rfl) rfl (by decide) ?_
      refine g_callSI F (q := 23) (av := [.int what, .int 0, .int 2]) (st := []) (c_X6_isWithin (y := what) (a := 0) (b := 2)) ks_X6_isWithin tq_266 ⟨rfl, rfl⟩ (by decide) ⟨Nat.le_refl _, Nat.le_refl _⟩ rfl rfl (Nat.le_of_ble_eq_true rfl) (dk dX6_mark 12 rfl) rfl (fun r20 E20 hp20 => ?_)
      rcases hp20 with ⟨rfl, rfl, b20⟩ | ⟨rfl, rfl, b20⟩
      · refine g_if_ne F (q := 26) (tgt := 29) (dk dX6_mark 13 rfl) (by decide) rfl (fun _ => ?_) (fun h => absurd h (by decide))
        obtain ⟨j, hj, rfl⟩ := nI_of c14
        refine g_aload_n F (q := 30) (dk dX6_mark 16 rfl) rfl rfl 0 rfl ?_
        refine g_getf F (q := 33) h0 rfl inX6 (by omega) (j := 5) (by decide) tq_245 rfl rfl (dk dX6_mark 17 rfl) rfl ?_
        refine g_aload_n F (q := 34) (dk dX6_mark 18 rfl) rfl rfl 0 rfl ?_
        refine g_getf F (q := 37) h0 rfl inX6 (by omega) (j := 0) (by decide) tq_240 rfl rfl (dk dX6_mark 19 rfl) rfl ?_
        refine g_iload_n F (q := 38) (dk dX6_mark 20 rfl) rfl rfl 1 rfl ?_
        refine g_callVV F (q := 41) (av := [.ref (ad 1), .int (nI e)]) (st := []) (c_X1_gather (e := e) h225 hth hrd her hst (by first | assumption | decide | omega) (by first | assumption | decide | omega)) kv_X1_gather tq_403 h225 rfl (by omega) ⟨rfl, rfl⟩ (by decide) ⟨Nat.le_refl _, Nat.le_refl _⟩ rfl rfl (Nat.le_of_ble_eq_true rfl) (dk dX6_mark 21 rfl) rfl (fun E38 hp38 => ?_)
        obtain ⟨th1_38, rd1_38, er1_38, hK225_38, hK226_38, hK227_38, hK228_38, hH_38, hF38⟩ := hp38
        have hml := mC_le (r := r) (e := e) nt
        refine g_iload_n F (q := 42) (dk dX6_mark 22 rfl) rfl rfl 2 rfl ?_
        refine g_aload_n F (q := 43) (dk dX6_mark 23 rfl) rfl rfl 0 rfl ?_
        have hc1 := (hF38 0 (by omega)).trans h0
        refine g_getf F (q := 46) hc1 rfl inX6 (by omega) (j := 5) (by decide) tq_245 rfl rfl (dk dX6_mark 24 rfl) rfl ?_
        refine g_getf F (q := 49) hK225_38 rfl inX1 (by omega) (j := 3) (by decide) tq_196 rfl rfl (dk dX6_mark 25 rfl) rfl ?_
        refine g_icmp_lt F (q := 52) (tgt := 55) (dk dX6_mark 26 rfl) (by decide) rfl (fun c49 => ?_) (fun c49 => ?_)
        · have nc49 : j < (mC r e nt) := (nI_ltI (a := j) (b := (mC r e nt)) (by omega) (by omega)).mp c49
          refine g_iload_n F (q := 56) (dk dX6_mark 29 rfl) rfl rfl 3 rfl ?_
          refine g_if_ne F (q := 59) (tgt := 73) (dk dX6_mark 30 rfl) (by decide) rfl (fun c56 => ?_) (fun c56 => ?_)
          · refine g_iload_n F (q := 74) (dk dX6_mark 39 rfl) rfl rfl 3 rfl ?_
            refine g_iconst F (q := 75) (v := 1) (dk dX6_mark 40 rfl) rfl (by decide) ?_
            refine g_icmp_ne F (q := 78) (tgt := 94) (dk dX6_mark 41 rfl) (by decide) rfl (fun c75 => ?_) (fun c75 => ?_)
            · refine g_aload_n F (q := 95) (dk dX6_mark 50 rfl) rfl rfl 0 rfl ?_
              refine g_getf F (q := 98) hc1 rfl inX6 (by omega) (j := 5) (by decide) tq_245 rfl rfl (dk dX6_mark 51 rfl) rfl ?_
              refine g_getf F (q := 101) hK225_38 rfl inX1 (by omega) (j := 0) (by decide) tq_190 rfl rfl (dk dX6_mark 52 rfl) rfl ?_
              refine g_iload_n F (q := 102) (dk dX6_mark 53 rfl) rfl rfl 2 rfl ?_
              refine g_iald F (q := 103) j hK226_38 (by omega) rfl (by omega) (by decide) (dk dX6_mark 54 rfl) rfl ?_
              have hb2 := hco.fr (fun j h1 h2 => hF38 j (by omega))
              have hb3 := hsr.fr (fun j h1 h2 => hF38 j (by omega))
              refine hret (th1_38 j) E38 _ _ (dk dX6_mark 55 rfl) (nint _) ?_
              exact ⟨(by unfold sMark; rw [if_neg (ixN he (by omega)), nI_c (by omega), if_neg (fun h => h.elim c14 (fun q => q b20)), nI_c (by omega), if_neg (by omega), if_neg c56, if_neg c75, ← (hH_38 j (by omega)).2.2]), hb2, ⟨_, _, _, _, hK225_38, hK226_38, hK227_38, hK228_38⟩, hb3, (fun j hj => (hF38 j (by omega)))⟩
            · refine g_aload_n F (q := 79) (dk dX6_mark 42 rfl) rfl rfl 0 rfl ?_
              refine g_getf F (q := 82) hc1 rfl inX6 (by omega) (j := 5) (by decide) tq_245 rfl rfl (dk dX6_mark 43 rfl) rfl ?_
              refine g_getf F (q := 85) hK225_38 rfl inX1 (by omega) (j := 2) (by decide) tq_194 rfl rfl (dk dX6_mark 44 rfl) rfl ?_
              refine g_iload_n F (q := 86) (dk dX6_mark 45 rfl) rfl rfl 2 rfl ?_
              refine g_iald F (q := 87) j hK228_38 (by omega) rfl (by omega) (by decide) (dk dX6_mark 46 rfl) rfl ?_
              refine g_sipush F (q := 90) (v := 10000) (dk dX6_mark 47 rfl) rfl (by decide) ?_
              refine g_iadd F (q := 91) (dk dX6_mark 48 rfl) rfl ?_
              refine g_goto F (tgt := 103) (dk dX6_mark 49 rfl) (by decide) ?_
              have hb4 := hco.fr (fun j h1 h2 => hF38 j (by omega))
              have hb5 := hsr.fr (fun j h1 h2 => hF38 j (by omega))
              refine hret ((er1_38 j) + 10000) E38 _ _ (dk dX6_mark 55 rfl) (nint _) ?_
              exact ⟨(by unfold sMark; rw [if_neg (ixN he (by omega)), nI_c (by omega), if_neg (fun h => h.elim c14 (fun q => q b20)), nI_c (by omega), if_neg (by omega), if_neg c56, if_pos c75, ← (hH_38 j (by omega)).2.1]), hb4, ⟨_, _, _, _, hK225_38, hK226_38, hK227_38, hK228_38⟩, hb5, (fun j hj => (hF38 j (by omega)))⟩
          · refine g_aload_n F (q := 60) (dk dX6_mark 31 rfl) rfl rfl 0 rfl ?_
            refine g_getf F (q := 63) hc1 rfl inX6 (by omega) (j := 5) (by decide) tq_245 rfl rfl (dk dX6_mark 32 rfl) rfl ?_
            refine g_getf F (q := 66) hK225_38 rfl inX1 (by omega) (j := 1) (by decide) tq_192 rfl rfl (dk dX6_mark 33 rfl) rfl ?_
            refine g_iload_n F (q := 67) (dk dX6_mark 34 rfl) rfl rfl 2 rfl ?_
            refine g_iald F (q := 68) j hK227_38 (by omega) rfl (by omega) (by decide) (dk dX6_mark 35 rfl) rfl ?_
            refine g_sipush F (q := 71) (v := 10000) (dk dX6_mark 36 rfl) rfl (by decide) ?_
            refine g_iadd F (q := 72) (dk dX6_mark 37 rfl) rfl ?_
            have hb6 := hco.fr (fun j h1 h2 => hF38 j (by omega))
            have hb7 := hsr.fr (fun j h1 h2 => hF38 j (by omega))
            refine hret ((rd1_38 j) + 10000) E38 _ _ (dk dX6_mark 38 rfl) (nint _) ?_
            exact ⟨(by unfold sMark; rw [if_neg (ixN he (by omega)), nI_c (by omega), if_neg (fun h => h.elim c14 (fun q => q b20)), nI_c (by omega), if_neg (by omega), if_pos c56, ← (hH_38 j (by omega)).1]), hb6, ⟨_, _, _, _, hK225_38, hK226_38, hK227_38, hK228_38⟩, hb7, (fun j hj => (hF38 j (by omega)))⟩
        · have nc49 : ¬ j < (mC r e nt) := fun h => c49 ((nI_ltI (a := j) (b := (mC r e nt)) (by omega) (by omega)).mpr h)
          refine g_bipush F (q := 54) (v := (-5)) (dk dX6_mark 27 rfl) rfl (by decide) ?_
          have hb8 := hco.fr (fun j h1 h2 => hF38 j (by omega))
          have hb9 := hsr.fr (fun j h1 h2 => hF38 j (by omega))
          refine hret (-5) E38 _ _ (dk dX6_mark 28 rfl) (nint _) ?_
          exact ⟨(by unfold sMark; rw [if_neg (ixN he (by omega)), nI_c (by omega), if_neg (fun h => h.elim c14 (fun q => q b20)), nI_c (by omega), if_pos (by omega)]), hb8, ⟨_, _, _, _, hK225_38, hK226_38, hK227_38, hK228_38⟩, hb9, (fun j hj => (hF38 j (by omega)))⟩
      · refine g_if_ne F (q := 26) (tgt := 29) (dk dX6_mark 13 rfl) (by decide) rfl (fun h => absurd h (by decide)) (fun _ => ?_)
        refine g_bipush F (q := 28) (v := (-2)) (dk dX6_mark 14 rfl) rfl (by decide) ?_
        refine hret (-2) E _ _ (dk dX6_mark 15 rfl) (nint _) ?_
        exact ⟨(by unfold sMark; rw [if_neg (ixN he (by omega)), nI_c (by omega), if_pos (Or.inr b20)]), hco, hmk, hsr, (fun j _ => rfl)⟩
  · refine g_if_ne F (q := 11) (tgt := 13) (dk dX6_mark 4 rfl) (by decide) rfl (fun h => absurd h (by decide)) (fun _ => ?_)
    refine g_iconst F (q := 12) (v := (-1)) (dk dX6_mark 5 rfl) rfl (by decide) ?_
    refine hret (-1) E _ _ (dk dX6_mark 6 rfl) (nint _) ?_
    exact ⟨(by unfold sMark; rw [if_pos b5]), hco, hmk, hsr, (fun j _ => rfl)⟩
theorem kv_X6_mark : KV yX6_mark "ThumpEars" cX6_mark 4 (some .int) 3 := ⟨tq_417, tq_418, tq_9, tq_419, by decide +kernel⟩
abbrev rm_X6_heard : Room := { frames := 1, cells := 0, slots := 0, locals := 21 }
set_option maxHeartbeats 4000000 in
set_option maxRecDepth 100000 in
theorem c_X6_heard {l : Launch} {D : va_G} {cA : Nat → ClassId} {ad : Nat → Nat} {E : Nat → va_E} {r : Nat → Int32} {ne nt nk nh : Nat} {H : Nat → Nat → Int32} {s1 : Int32} {asd : Nat → Int32} {ln : Nat} {txt : Nat → Int32} {kb num ear : Int32}  (hco : Core cA ad E r ne nt nk nh H s1 asd ln txt) (hmk : MkP cA ad E) (hsr : SrP cA ad E)  : CtI l D cA yX6_heard cX6_heard 6 .int rm_X6_heard 235 ad E [.ref (ad 0), .int kb, .int num, .int ear] (fun x E' => (sHeard r ne nt nk kb num ear) = x ∧ (Core cA ad E' r ne nt nk nh H s1 asd ln txt) ∧ (MkP cA ad E') ∧ (SrP cA ad E') ∧ ∀ j, (233 ≤ j) → E' j = E j) := by
  refine CtI.of (by decide +kernel) (Nat.le_of_ble_eq_true rfl) (fun X F hret => ?_)
  have F : Fr "ThumpEars" cX6_heard 6 D cA X := F
  refine (show GG rm_X6_heard 6 l D X 0 0 235 ad E 0 [(0, .ref (ad 0)), (1, .int kb), (2, .int num), (3, .int ear)] [] from ?_)
  have hco2 := hco
  obtain ⟨v, vs, tg, vh, od, po, nu, ar, pla, ti, re, h0, hst, hsn, h73, h74, hhs, h219, h220, h221, h222, h223, h224, htg, hnh, hln, hcn, hhc, hss⟩ := hco2
  have hmk2 := hmk
  obtain ⟨m0, th, rd, er, h225, hth, hrd, her⟩ := hmk2
  have hsr2 := hsr
  obtain ⟨s0, px, pp, ls, gr, ea, pl, rt, h229, hsea, hspl, hsrt⟩ := hsr2
  have hne := hcn.i.e0
  have hnt := hcn.i.e1
  have hnk := hcn.i.e2
  have h1 : E 1 = .inr (5, [.ref (ad 2), .ref (ad 3), .ref (ad 4), .ref (ad 5), .ref (ad 6), .ref (ad 7), .ref (ad 22), .int (nI ne), .int (r 3), .int (r 4), .int (r 5)]) := by have q := hst.o; rw [hcn.n0, hcn.r3, hcn.r4, hcn.r5] at q; exact q
  have h7 : E 7 = .inr (3, [.ref (ad 8), .ref (ad 9), .ref (ad 10), .ref (ad 11), .int (nI nt)]) := by have q := hst.t; rw [hcn.n1] at q; exact q
  have h22 : E 22 = .inr (3, [.ref (ad 23), .ref (ad 24), .ref (ad 25), .ref (ad 26), .int (nI nk)]) := by have q := hst.k; rw [hcn.n2] at q; exact q
  refine g_iload_n F (q := 1) (dk dX6_heard 0 rfl) rfl rfl 1 rfl ?_
  refine g_if_eq F (q := 4) (tgt := 14) (dk dX6_heard 1 rfl) (by decide) rfl (fun c1 => ?_) (fun c1 => ?_)
  · refine g_aload_n F (q := 15) (dk dX6_heard 6 rfl) rfl rfl 0 rfl ?_
    refine g_getf F (q := 18) h0 rfl inX6 (by omega) (j := 0) (by decide) tq_240 rfl rfl (dk dX6_heard 7 rfl) rfl ?_
    refine g_getf F (q := 21) h1 rfl inX5 (by omega) (j := 5) (by decide) tq_88 rfl rfl (dk dX6_heard 8 rfl) rfl ?_
    refine g_astore F (q := 23) (lv' := [(4, .ref (ad 7)), (0, .ref (ad 0)), (1, .int kb), (2, .int num), (3, .int ear)]) (dk dX6_heard 9 rfl) rfl (Nat.le_of_ble_eq_true rfl) rfl ?_
    refine g_aload F (q := 25) (dk dX6_heard 10 rfl) rfl 0 rfl ?_
    refine g_iload_n F (q := 26) (dk dX6_heard 11 rfl) rfl rfl 3 rfl ?_
    refine g_callVI F (q := 29) (av := [.int num]) (st := []) (c_X3_has_a (x0 := num) h7 (by first | assumption | decide | omega)) kv_X3_has tq_390 h7 rfl (by omega) ⟨rfl, rfl⟩ (by decide) ⟨Nat.le_refl _, Nat.le_refl _⟩ rfl rfl (Nat.le_of_ble_eq_true rfl) (dk dX6_heard 12 rfl) rfl (fun r26 E26 hp26 => ?_)
    rcases hp26 with ⟨rfl, rfl, b26⟩ | ⟨rfl, rfl, b26⟩
    · obtain ⟨m, hm, rfl⟩ := b26
      refine g_if_eq F (q := 32) (tgt := 43) (dk dX6_heard 13 rfl) (by decide) rfl (fun h => absurd h (by decide)) (fun _ => ?_)
      refine g_aload_n F (q := 33) (dk dX6_heard 14 rfl) rfl rfl 1 rfl ?_
      refine g_getf F (q := 36) h0 rfl inX6 (by omega) (j := 0) (by decide) tq_240 rfl rfl (dk dX6_heard 15 rfl) rfl ?_
      refine g_iload_n F (q := 37) (dk dX6_heard 16 rfl) rfl rfl 4 rfl ?_
      refine g_callVI F (q := 40) (av := [.int ear]) (st := []) (c_X5_hasEar (ear := ear) h1 (by first | assumption | decide | omega)) kv_X5_hasEar tq_394 h1 rfl (by omega) ⟨rfl, rfl⟩ (by decide) ⟨Nat.le_refl _, Nat.le_refl _⟩ rfl rfl (Nat.le_of_ble_eq_true rfl) (dk dX6_heard 17 rfl) rfl (fun r37 E37 hp37 => ?_)
      rcases hp37 with ⟨rfl, rfl, b37⟩ | ⟨rfl, rfl, b37⟩
      · obtain ⟨e, he, rfl⟩ := b37
        refine g_if_ne F (q := 43) (tgt := 45) (dk dX6_heard 18 rfl) (by decide) rfl (fun _ => ?_) (fun h => absurd h (by decide))
        refine g_aload F (q := 47) (dk dX6_heard 21 rfl) rfl 0 rfl ?_
        refine g_getf F (q := 50) h7 rfl inX3 (by omega) (j := 3) (by decide) tq_56 rfl rfl (dk dX6_heard 22 rfl) rfl ?_
        refine g_iload_n F (q := 51) (dk dX6_heard 23 rfl) rfl rfl 3 rfl ?_
        have hc1 : E 11 = .inl (cA 5, 10, .inr (.inr (.inr (.inr (fun i => some (ad (12 + i))))))) := hst.rt
        refine g_aald5 F (q := 52) m hc1 (by omega) rfl (by omega) (by decide) rfl (dk dX6_heard 24 rfl) rfl ?_
        refine g_iload_n F (q := 53) (dk dX6_heard 25 rfl) rfl rfl 4 rfl ?_
        have hc2 : E ((12 + m)) = .inl (cA 0, 10, .inl (v (11 + m))) := (hst.row 11 m (by decide) (by omega))
        refine g_iald F (q := 54) e hc2 (by omega) rfl (by omega) (by decide) (dk dX6_heard 26 rfl) rfl ?_
        refine g_istore F (q := 56) (lv' := [(5, .int ((v (11 + m)) e)), (4, .ref (ad 7)), (0, .ref (ad 0)), (1, .int kb), (2, .int (nI m)), (3, .int (nI e))]) (dk dX6_heard 27 rfl) rfl (Nat.le_of_ble_eq_true rfl) rfl ?_
        refine g_iload F (q := 58) (dk dX6_heard 28 rfl) rfl 0 rfl ?_
        refine g_ldc F (q := 60) (v := (-1000000)) (dk dX6_heard 29 rfl) rfl tq_398 ?_
        refine g_sti (y := SIL) rfl ?_
        refine g_icmp_ne F (q := 63) (tgt := 68) (dk dX6_heard 30 rfl) (by decide) rfl (fun c60 => ?_) (fun c60 => ?_)
        · refine g_iload F (q := 70) (dk dX6_heard 33 rfl) rfl 0 rfl ?_
          refine g_sipush F (q := 73) (v := 10000) (dk dX6_heard 34 rfl) rfl (by decide) ?_
          refine g_iadd F (q := 74) (dk dX6_heard 35 rfl) rfl ?_
          refine hret (((v (11 + m)) e) + 10000) E _ _ (dk dX6_heard 36 rfl) (nint _) ?_
          exact ⟨(by unfold sHeard; simp only [if_pos c1]; rw [if_neg (fun h => h.elim (ixN hm (by omega)) (ixN he (by omega))), nI_c (by omega), nI_c (by omega), if_neg (((hcn.th hm).2.2.2.2 e (by omega)).n c60).2.1, ← (((hcn.th hm).2.2.2.2 e (by omega)).n c60).1]), hco, hmk, hsr, (fun j _ => rfl)⟩
        · refine g_bipush F (q := 65) (v := (-5)) (dk dX6_heard 31 rfl) rfl (by decide) ?_
          refine g_goto F (tgt := 74) (dk dX6_heard 32 rfl) (by decide) ?_
          refine hret (-5) E _ _ (dk dX6_heard 36 rfl) (nint _) ?_
          exact ⟨(by unfold sHeard; simp only [if_pos c1]; rw [if_neg (fun h => h.elim (ixN hm (by omega)) (ixN he (by omega))), nI_c (by omega), nI_c (by omega), if_pos (((hcn.th hm).2.2.2.2 e (by omega)).s c60)]), hco, hmk, hsr, (fun j _ => rfl)⟩
      · refine g_if_ne F (q := 43) (tgt := 45) (dk dX6_heard 18 rfl) (by decide) rfl (fun h => absurd h (by decide)) (fun _ => ?_)
        refine g_iconst F (q := 44) (v := (-1)) (dk dX6_heard 19 rfl) rfl (by decide) ?_
        refine hret (-1) E _ _ (dk dX6_heard 20 rfl) (nint _) ?_
        exact ⟨(by unfold sHeard; simp only [if_pos c1]; rw [if_pos (Or.inr b37)]), hco, hmk, hsr, (fun j _ => rfl)⟩
    · refine g_if_eq F (q := 32) (tgt := 43) (dk dX6_heard 13 rfl) (by decide) rfl (fun _ => ?_) (fun h => absurd h (by decide))
      refine g_iconst F (q := 44) (v := (-1)) (dk dX6_heard 19 rfl) rfl (by decide) ?_
      refine hret (-1) E _ _ (dk dX6_heard 20 rfl) (nint _) ?_
      exact ⟨(by unfold sHeard; simp only [if_pos c1]; rw [if_pos (Or.inl b26)]), hco, hmk, hsr, (fun j _ => rfl)⟩
  · refine g_aload_n F (q := 5) (dk dX6_heard 2 rfl) rfl rfl 0 rfl ?_
    refine g_getf F (q := 8) h0 rfl inX6 (by omega) (j := 0) (by decide) tq_240 rfl rfl (dk dX6_heard 3 rfl) rfl ?_
    refine g_getf F (q := 11) h1 rfl inX5 (by omega) (j := 6) (by decide) tq_91 rfl rfl (dk dX6_heard 4 rfl) rfl ?_
    refine g_goto F (tgt := 21) (dk dX6_heard 5 rfl) (by decide) ?_
    refine g_astore F (q := 23) (lv' := [(4, .ref (ad 22)), (0, .ref (ad 0)), (1, .int kb), (2, .int num), (3, .int ear)]) (dk dX6_heard 9 rfl) rfl (Nat.le_of_ble_eq_true rfl) rfl ?_
    refine g_aload F (q := 25) (dk dX6_heard 10 rfl) rfl 0 rfl ?_
    refine g_iload_n F (q := 26) (dk dX6_heard 11 rfl) rfl rfl 3 rfl ?_
    refine g_callVI F (q := 29) (av := [.int num]) (st := []) (c_X3_has_b (x0 := num) h22 (by first | assumption | decide | omega)) kv_X3_has tq_390 h22 rfl (by omega) ⟨rfl, rfl⟩ (by decide) ⟨Nat.le_refl _, Nat.le_refl _⟩ rfl rfl (Nat.le_of_ble_eq_true rfl) (dk dX6_heard 12 rfl) rfl (fun r26 E26 hp26 => ?_)
    rcases hp26 with ⟨rfl, rfl, b26⟩ | ⟨rfl, rfl, b26⟩
    · obtain ⟨m, hm, rfl⟩ := b26
      refine g_if_eq F (q := 32) (tgt := 43) (dk dX6_heard 13 rfl) (by decide) rfl (fun h => absurd h (by decide)) (fun _ => ?_)
      refine g_aload_n F (q := 33) (dk dX6_heard 14 rfl) rfl rfl 1 rfl ?_
      refine g_getf F (q := 36) h0 rfl inX6 (by omega) (j := 0) (by decide) tq_240 rfl rfl (dk dX6_heard 15 rfl) rfl ?_
      refine g_iload_n F (q := 37) (dk dX6_heard 16 rfl) rfl rfl 4 rfl ?_
      refine g_callVI F (q := 40) (av := [.int ear]) (st := []) (c_X5_hasEar (ear := ear) h1 (by first | assumption | decide | omega)) kv_X5_hasEar tq_394 h1 rfl (by omega) ⟨rfl, rfl⟩ (by decide) ⟨Nat.le_refl _, Nat.le_refl _⟩ rfl rfl (Nat.le_of_ble_eq_true rfl) (dk dX6_heard 17 rfl) rfl (fun r37 E37 hp37 => ?_)
      rcases hp37 with ⟨rfl, rfl, b37⟩ | ⟨rfl, rfl, b37⟩
      · obtain ⟨e, he, rfl⟩ := b37
        refine g_if_ne F (q := 43) (tgt := 45) (dk dX6_heard 18 rfl) (by decide) rfl (fun _ => ?_) (fun h => absurd h (by decide))
        refine g_aload F (q := 47) (dk dX6_heard 21 rfl) rfl 0 rfl ?_
        refine g_getf F (q := 50) h22 rfl inX3 (by omega) (j := 3) (by decide) tq_56 rfl rfl (dk dX6_heard 22 rfl) rfl ?_
        refine g_iload_n F (q := 51) (dk dX6_heard 23 rfl) rfl rfl 3 rfl ?_
        have hc3 : E 26 = .inl (cA 5, 10, .inr (.inr (.inr (.inr (fun i => some (ad (27 + i))))))) := hst.rk
        refine g_aald5 F (q := 52) m hc3 (by omega) rfl (by omega) (by decide) rfl (dk dX6_heard 24 rfl) rfl ?_
        refine g_iload_n F (q := 53) (dk dX6_heard 25 rfl) rfl rfl 4 rfl ?_
        have hc4 : E ((27 + m)) = .inl (cA 0, 10, .inl (v (26 + m))) := (hst.row 26 m (by decide) (by omega))
        refine g_iald F (q := 54) e hc4 (by omega) rfl (by omega) (by decide) (dk dX6_heard 26 rfl) rfl ?_
        refine g_istore F (q := 56) (lv' := [(5, .int ((v (26 + m)) e)), (4, .ref (ad 22)), (0, .ref (ad 0)), (1, .int kb), (2, .int (nI m)), (3, .int (nI e))]) (dk dX6_heard 27 rfl) rfl (Nat.le_of_ble_eq_true rfl) rfl ?_
        refine g_iload F (q := 58) (dk dX6_heard 28 rfl) rfl 0 rfl ?_
        refine g_ldc F (q := 60) (v := (-1000000)) (dk dX6_heard 29 rfl) rfl tq_398 ?_
        refine g_sti (y := SIL) rfl ?_
        refine g_icmp_ne F (q := 63) (tgt := 68) (dk dX6_heard 30 rfl) (by decide) rfl (fun c60 => ?_) (fun c60 => ?_)
        · refine g_iload F (q := 70) (dk dX6_heard 33 rfl) rfl 0 rfl ?_
          refine g_sipush F (q := 73) (v := 10000) (dk dX6_heard 34 rfl) rfl (by decide) ?_
          refine g_iadd F (q := 74) (dk dX6_heard 35 rfl) rfl ?_
          refine hret (((v (26 + m)) e) + 10000) E _ _ (dk dX6_heard 36 rfl) (nint _) ?_
          exact ⟨(by unfold sHeard; simp only [if_neg c1]; rw [if_neg (fun h => h.elim (ixN hm (by omega)) (ixN he (by omega))), nI_c (by omega), nI_c (by omega), if_neg (((hcn.kn hm).2.2.2 e (by omega)).n c60).2.1, ← (((hcn.kn hm).2.2.2 e (by omega)).n c60).1]), hco, hmk, hsr, (fun j _ => rfl)⟩
        · refine g_bipush F (q := 65) (v := (-5)) (dk dX6_heard 31 rfl) rfl (by decide) ?_
          refine g_goto F (tgt := 74) (dk dX6_heard 32 rfl) (by decide) ?_
          refine hret (-5) E _ _ (dk dX6_heard 36 rfl) (nint _) ?_
          exact ⟨(by unfold sHeard; simp only [if_neg c1]; rw [if_neg (fun h => h.elim (ixN hm (by omega)) (ixN he (by omega))), nI_c (by omega), nI_c (by omega), if_pos (((hcn.kn hm).2.2.2 e (by omega)).s c60)]), hco, hmk, hsr, (fun j _ => rfl)⟩
      · refine g_if_ne F (q := 43) (tgt := 45) (dk dX6_heard 18 rfl) (by decide) rfl (fun h => absurd h (by decide)) (fun _ => ?_)
        refine g_iconst F (q := 44) (v := (-1)) (dk dX6_heard 19 rfl) rfl (by decide) ?_
        refine hret (-1) E _ _ (dk dX6_heard 20 rfl) (nint _) ?_
        exact ⟨(by unfold sHeard; simp only [if_neg c1]; rw [if_pos (Or.inr b37)]), hco, hmk, hsr, (fun j _ => rfl)⟩
    · refine g_if_eq F (q := 32) (tgt := 43) (dk dX6_heard 13 rfl) (by decide) rfl (fun _ => ?_) (fun h => absurd h (by decide))
      refine g_iconst F (q := 44) (v := (-1)) (dk dX6_heard 19 rfl) rfl (by decide) ?_
      refine hret (-1) E _ _ (dk dX6_heard 20 rfl) (nint _) ?_
      exact ⟨(by unfold sHeard; simp only [if_neg c1]; rw [if_pos (Or.inl b26)]), hco, hmk, hsr, (fun j _ => rfl)⟩
theorem kv_X6_heard : KV yX6_heard "ThumpEars" cX6_heard 6 (some .int) 3 := ⟨tq_387, tq_388, tq_9, tq_389, by decide +kernel⟩
abbrev rm_X6_putRight : Room := { frames := 3, cells := 0, slots := 0, locals := 75 }
set_option maxHeartbeats 4000000 in
set_option maxRecDepth 100000 in
theorem c_X6_putRight {l : Launch} {D : va_G} {cA : Nat → ClassId} {ad : Nat → Nat} {E : Nat → va_E} {r : Nat → Int32} {ne nt nk nh : Nat} {H : Nat → Nat → Int32} {s1 : Int32} {asd : Nat → Int32} {ln : Nat} {txt : Nat → Int32} {kn ear : Int32}  (hco : Core cA ad E r ne nt nk nh H s1 asd ln txt) (hmk : MkP cA ad E) (hsr : SrP cA ad E)  : CtL l D cA yX6_putRight cX6_putRight 4 rm_X6_putRight 235 ad E [.ref (ad 0), .int kn, .int ear] (fun x E' => (sPut r ne nt nk kn ear) = x ∧ (Core cA ad E' r ne nt nk nh H s1 asd ln txt) ∧ (MkP cA ad E') ∧ (SrP cA ad E') ∧ ∀ j, (233 ≤ j) → E' j = E j) := by
  refine CtL.of (by decide +kernel) (Nat.le_of_ble_eq_true rfl) (fun X F hret => ?_)
  have F : Fr "ThumpEars" cX6_putRight 4 D cA X := F
  refine (show GG rm_X6_putRight 4 l D X 0 0 235 ad E 0 [(0, .ref (ad 0)), (1, .int kn), (2, .int ear)] [] from ?_)
  have hco2 := hco
  obtain ⟨v, vs, tg, vh, od, po, nu, ar, pla, ti, re, h0, hst, hsn, h73, h74, hhs, h219, h220, h221, h222, h223, h224, htg, hnh, hln, hcn, hhc, hss⟩ := hco2
  have hmk2 := hmk
  obtain ⟨m0, th, rd, er, h225, hth, hrd, her⟩ := hmk2
  have hsr2 := hsr
  obtain ⟨s0, px, pp, ls, gr, ea, pl, rt, h229, hsea, hspl, hsrt⟩ := hsr2
  have hne := hcn.i.e0
  have hnt := hcn.i.e1
  have hnk := hcn.i.e2
  have h1 : E 1 = .inr (5, [.ref (ad 2), .ref (ad 3), .ref (ad 4), .ref (ad 5), .ref (ad 6), .ref (ad 7), .ref (ad 22), .int (nI ne), .int (r 3), .int (r 4), .int (r 5)]) := by have q := hst.o; rw [hcn.n0, hcn.r3, hcn.r4, hcn.r5] at q; exact q
  have h7 : E 7 = .inr (3, [.ref (ad 8), .ref (ad 9), .ref (ad 10), .ref (ad 11), .int (nI nt)]) := by have q := hst.t; rw [hcn.n1] at q; exact q
  have h22 : E 22 = .inr (3, [.ref (ad 23), .ref (ad 24), .ref (ad 25), .ref (ad 26), .int (nI nk)]) := by have q := hst.k; rw [hcn.n2] at q; exact q
  refine g_aload_n F (q := 1) (dk dX6_putRight 0 rfl) rfl rfl 0 rfl ?_
  refine g_getf F (q := 4) h0 rfl inX6 (by omega) (j := 0) (by decide) tq_240 rfl rfl (dk dX6_putRight 1 rfl) rfl ?_
  refine g_getf F (q := 7) h1 rfl inX5 (by omega) (j := 6) (by decide) tq_91 rfl rfl (dk dX6_putRight 2 rfl) rfl ?_
  refine g_iload_n F (q := 8) (dk dX6_putRight 3 rfl) rfl rfl 1 rfl ?_
  refine g_callVI F (q := 11) (av := [.int kn]) (st := []) (c_X3_has_b (x0 := kn) h22 (by first | assumption | decide | omega)) kv_X3_has tq_390 h22 rfl (by omega) ⟨rfl, rfl⟩ (by decide) ⟨Nat.le_refl _, Nat.le_refl _⟩ rfl rfl (Nat.le_of_ble_eq_true rfl) (dk dX6_putRight 4 rfl) rfl (fun r8 E8 hp8 => ?_)
  rcases hp8 with ⟨rfl, rfl, b8⟩ | ⟨rfl, rfl, b8⟩
  · obtain ⟨m, hm, rfl⟩ := b8
    refine g_if_eq F (q := 14) (tgt := 25) (dk dX6_putRight 5 rfl) (by decide) rfl (fun h => absurd h (by decide)) (fun _ => ?_)
    refine g_aload_n F (q := 15) (dk dX6_putRight 6 rfl) rfl rfl 0 rfl ?_
    refine g_getf F (q := 18) h0 rfl inX6 (by omega) (j := 0) (by decide) tq_240 rfl rfl (dk dX6_putRight 7 rfl) rfl ?_
    refine g_iload_n F (q := 19) (dk dX6_putRight 8 rfl) rfl rfl 2 rfl ?_
    refine g_callVI F (q := 22) (av := [.int ear]) (st := []) (c_X5_hasEar (ear := ear) h1 (by first | assumption | decide | omega)) kv_X5_hasEar tq_394 h1 rfl (by omega) ⟨rfl, rfl⟩ (by decide) ⟨Nat.le_refl _, Nat.le_refl _⟩ rfl rfl (Nat.le_of_ble_eq_true rfl) (dk dX6_putRight 9 rfl) rfl (fun r19 E19 hp19 => ?_)
    rcases hp19 with ⟨rfl, rfl, b19⟩ | ⟨rfl, rfl, b19⟩
    · obtain ⟨e, he, rfl⟩ := b19
      refine g_if_ne F (q := 25) (tgt := 30) (dk dX6_putRight 10 rfl) (by decide) rfl (fun _ => ?_) (fun h => absurd h (by decide))
      refine g_aload_n F (q := 31) (dk dX6_putRight 14 rfl) rfl rfl 0 rfl ?_
      refine g_getf F (q := 34) h0 rfl inX6 (by omega) (j := 0) (by decide) tq_240 rfl rfl (dk dX6_putRight 15 rfl) rfl ?_
      refine g_getf F (q := 37) h1 rfl inX5 (by omega) (j := 6) (by decide) tq_91 rfl rfl (dk dX6_putRight 16 rfl) rfl ?_
      refine g_getf F (q := 40) h22 rfl inX3 (by omega) (j := 3) (by decide) tq_56 rfl rfl (dk dX6_putRight 17 rfl) rfl ?_
      refine g_iload_n F (q := 41) (dk dX6_putRight 18 rfl) rfl rfl 1 rfl ?_
      have hc1 : E 26 = .inl (cA 5, 10, .inr (.inr (.inr (.inr (fun i => some (ad (27 + i))))))) := hst.rk
      refine g_aald5 F (q := 42) m hc1 (by omega) rfl (by omega) (by decide) rfl (dk dX6_putRight 19 rfl) rfl ?_
      refine g_iload_n F (q := 43) (dk dX6_putRight 20 rfl) rfl rfl 2 rfl ?_
      have hc2 : E ((27 + m)) = .inl (cA 0, 10, .inl (v (26 + m))) := (hst.row 26 m (by decide) (by omega))
      refine g_iald F (q := 44) e hc2 (by omega) rfl (by omega) (by decide) (dk dX6_putRight 21 rfl) rfl ?_
      refine g_istore_n F (q := 45) (lv' := [(3, .int ((v (26 + m)) e)), (0, .ref (ad 0)), (1, .int (nI m)), (2, .int (nI e))]) (dk dX6_putRight 22 rfl) rfl rfl (Nat.le_of_ble_eq_true rfl) rfl ?_
      refine g_iload_n F (q := 46) (dk dX6_putRight 23 rfl) rfl rfl 0 rfl ?_
      refine g_ldc F (q := 48) (v := (-1000000)) (dk dX6_putRight 24 rfl) rfl tq_398 ?_
      refine g_sti (y := SIL) rfl ?_
      refine g_icmp_ne F (q := 51) (tgt := 57) (dk dX6_putRight 25 rfl) (by decide) rfl (fun c48 => ?_) (fun c48 => ?_)
      · refine g_aload_n F (q := 58) (dk dX6_putRight 29 rfl) rfl rfl 1 rfl ?_
        refine g_getf F (q := 61) h0 rfl inX6 (by omega) (j := 5) (by decide) tq_245 rfl rfl (dk dX6_putRight 30 rfl) rfl ?_
        refine g_aload_n F (q := 62) (dk dX6_putRight 31 rfl) rfl rfl 1 rfl ?_
        refine g_getf F (q := 65) h0 rfl inX6 (by omega) (j := 0) (by decide) tq_240 rfl rfl (dk dX6_putRight 32 rfl) rfl ?_
        refine g_iload_n F (q := 66) (dk dX6_putRight 33 rfl) rfl rfl 3 rfl ?_
        refine g_callVV F (q := 69) (av := [.ref (ad 1), .int (nI e)]) (st := []) (c_X1_gather (e := e) h225 hth hrd her hst (by first | assumption | decide | omega) (by first | assumption | decide | omega)) kv_X1_gather tq_403 h225 rfl (by omega) ⟨rfl, rfl⟩ (by decide) ⟨Nat.le_refl _, Nat.le_refl _⟩ rfl rfl (Nat.le_of_ble_eq_true rfl) (dk dX6_putRight 34 rfl) rfl (fun E66 hp66 => ?_)
        obtain ⟨th1_66, rd1_66, er1_66, hK225_66, hK226_66, hK227_66, hK228_66, hH_66, hF66⟩ := hp66
        have hml := mC_le (r := r) (e := e) nt
        refine g_aload_n F (q := 70) (dk dX6_putRight 35 rfl) rfl rfl 1 rfl ?_
        have hc3 := (hF66 0 (by omega)).trans h0
        refine g_getf F (q := 73) hc3 rfl inX6 (by omega) (j := 5) (by decide) tq_245 rfl rfl (dk dX6_putRight 36 rfl) rfl ?_
        refine g_iload_n F (q := 74) (dk dX6_putRight 37 rfl) rfl rfl 0 rfl ?_
        refine g_callVL F (q := 77) (av := [.int ((v (26 + m)) e)]) (st := []) (c_X1_rightTime (y := ((v (26 + m)) e)) hK225_66 hK227_66 hK228_66 (by first | assumption | decide | omega) (mH_mo hH_66) (mH_b hcn.i (by omega) hH_66)) kv_X1_rightTime tq_473 hK225_66 rfl (by omega) ⟨rfl, rfl⟩ (by decide) ⟨Nat.le_refl _, Nat.le_refl _⟩ rfl rfl (Nat.le_of_ble_eq_true rfl) (dk dX6_putRight 38 rfl) rfl (fun r74 E74 hp74 => ?_)
        obtain ⟨rfl, rfl⟩ := hp74
        have hb4 := hco.fr (fun j h1 h2 => hF66 j (by omega))
        have hb5 := hsr.fr (fun j h1 h2 => hF66 j (by omega))
        refine hret (1000 * ((v (26 + m)) e).toInt64 - eA (mC r e nt) rd1_66 er1_66 ((v (26 + m)) e)) E66 _ _ (dk dX6_putRight 39 rfl) ?_
        exact ⟨(by unfold sPut; rw [if_neg (fun h => h.elim (ixN hm (by omega)) (ixN he (by omega))), nI_c (by omega), nI_c (by omega), if_neg (((hcn.kn hm).2.2.2 e (by omega)).n c48).2.1, ← rgt_of hH_66 (((hcn.kn hm).2.2.2 e (by omega)).n c48).1]), hb4, ⟨_, _, _, _, hK225_66, hK226_66, hK227_66, hK228_66⟩, hb5, (fun j hj => (hF66 j (by omega)))⟩
      · refine g_bipush F (q := 53) (v := (-5)) (dk dX6_putRight 26 rfl) rfl (by decide) ?_
        refine g_callSL F (q := 56) (av := [.int (-5)]) (st := []) (c_X6_longError (a := (-5))) ks_X6_longError tq_425 ⟨rfl, rfl⟩ (by decide) ⟨Nat.le_refl _, Nat.le_refl _⟩ rfl rfl (Nat.le_of_ble_eq_true rfl) (dk dX6_putRight 27 rfl) rfl (fun r53 E53 hp53 => ?_)
        obtain ⟨rfl, rfl⟩ := hp53
        refine hret (toldAs (-5)) E _ _ (dk dX6_putRight 28 rfl) ?_
        exact ⟨(by unfold sPut; rw [if_neg (fun h => h.elim (ixN hm (by omega)) (ixN he (by omega))), nI_c (by omega), nI_c (by omega), if_pos (((hcn.kn hm).2.2.2 e (by omega)).s c48)]), hco, hmk, hsr, (fun j _ => rfl)⟩
    · refine g_if_ne F (q := 25) (tgt := 30) (dk dX6_putRight 10 rfl) (by decide) rfl (fun h => absurd h (by decide)) (fun _ => ?_)
      refine g_iconst F (q := 26) (v := (-1)) (dk dX6_putRight 11 rfl) rfl (by decide) ?_
      refine g_callSL F (q := 29) (av := [.int (-1)]) (st := []) (c_X6_longError (a := (-1))) ks_X6_longError tq_425 ⟨rfl, rfl⟩ (by decide) ⟨Nat.le_refl _, Nat.le_refl _⟩ rfl rfl (Nat.le_of_ble_eq_true rfl) (dk dX6_putRight 12 rfl) rfl (fun r26 E26 hp26 => ?_)
      obtain ⟨rfl, rfl⟩ := hp26
      refine hret (toldAs (-1)) E _ _ (dk dX6_putRight 13 rfl) ?_
      exact ⟨(by unfold sPut; rw [if_pos (Or.inr b19)]), hco, hmk, hsr, (fun j _ => rfl)⟩
  · refine g_if_eq F (q := 14) (tgt := 25) (dk dX6_putRight 5 rfl) (by decide) rfl (fun _ => ?_) (fun h => absurd h (by decide))
    refine g_iconst F (q := 26) (v := (-1)) (dk dX6_putRight 11 rfl) rfl (by decide) ?_
    refine g_callSL F (q := 29) (av := [.int (-1)]) (st := []) (c_X6_longError (a := (-1))) ks_X6_longError tq_425 ⟨rfl, rfl⟩ (by decide) ⟨Nat.le_refl _, Nat.le_refl _⟩ rfl rfl (Nat.le_of_ble_eq_true rfl) (dk dX6_putRight 12 rfl) rfl (fun r26 E26 hp26 => ?_)
    obtain ⟨rfl, rfl⟩ := hp26
    refine hret (toldAs (-1)) E _ _ (dk dX6_putRight 13 rfl) ?_
    exact ⟨(by unfold sPut; rw [if_pos (Or.inl b8)]), hco, hmk, hsr, (fun j _ => rfl)⟩
theorem kv_X6_putRight : KV yX6_putRight "ThumpEars" cX6_putRight 4 (some .long) 2 := ⟨tq_470, tq_471, tq_9, tq_472, by decide +kernel⟩
