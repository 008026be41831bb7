abbrev rm_L_low : Room := { frames := 0, cells := 0, slots := 0, locals := 0 }
set_option maxHeartbeats 4000000 in
set_option maxRecDepth 100000 in
theorem c_L_low {l : Launch} {D : va_G} {cA : Nat → ClassId} {ad : Nat → Nat} {E : Nat → va_E} {v : Int32} {N : Nat}   (hN0 : 0 < N) (hN : N < 2 ^ 31) : CtI l D cA yL_low cL_low 2 .int rm_L_low 235 ad E [.int v, .int (nI N)] (fun x E' => nI (lowN v N) = x ∧ E = E') := by
  refine CtI.of (by decide +kernel) (Nat.le_of_ble_eq_true rfl) (fun X F hret => ?_)
  have F : Fr "ThumpEarsLaw" cL_low 2 D cA X := F
  refine (show GG rm_L_low 2 l D X 0 0 235 ad E 0 [(0, .int v), (1, .int (nI N))] [] from ?_)
  refine g_iload_n F (q := 1) (dk dL_low 0 rfl) rfl rfl 0 rfl ?_
  refine g_ldc F (q := 3) (v := 2147483647) (dk dL_low 1 rfl) rfl tq_379 ?_
  refine g_iand F (q := 4) (dk dL_low 2 rfl) rfl ?_
  refine g_iload_n F (q := 5) (dk dL_low 3 rfl) rfl rfl 1 rfl ?_
  refine g_irem F (q := 6) (dk dL_low 4 rfl) rfl (nI_ne0 hN0 hN) ?_
  refine hret ((v &&& 2147483647) - (v &&& 2147483647) / (nI N) * (nI N)) E _ _ (dk dL_low 5 rfl) (nint _) ?_
  exact ⟨(low_eq hN).symm, rfl⟩
theorem ks_L_low : KS yL_low "ThumpEarsLaw" cL_low 2 (some .int) 2 := ⟨tq_377, tq_8, tq_378, by decide +kernel⟩
theorem q_low {l : Launch} {D : va_G} {cA : Nat → ClassId} {ad : Nat → Nat} {E : Nat → va_E} {v : Int32} {N : Nat} (h0 : 0 < N) (h : N < 2 ^ 31) : CQ l D cA yL_low cL_low 2 .int rm_L_low ad E [.int v, .int (nI N)] (nI (lowN v N)) (fun E' => E = E') := CQ.of (c_L_low h0 h)
abbrev rm_L_far : Room := { frames := 0, cells := 0, slots := 0, locals := 0 }
set_option maxHeartbeats 4000000 in
set_option maxRecDepth 100000 in
theorem c_L_far {l : Launch} {D : va_G} {cA : Nat → ClassId} {ad : Nat → Nat} {E : Nat → va_E} {a b : Int32}    : CtI l D cA yL_far cL_far 2 .int rm_L_far 235 ad E [.int a, .int b] (fun x E' => far a b = x ∧ E = E') := by
  refine CtI.of (by decide +kernel) (Nat.le_of_ble_eq_true rfl) (fun X F hret => ?_)
  have F : Fr "ThumpEarsLaw" cL_far 2 D cA X := F
  refine (show GG rm_L_far 2 l D X 0 0 235 ad E 0 [(0, .int a), (1, .int b)] [] from ?_)
  refine g_iload_n F (q := 1) (dk dL_far 0 rfl) rfl rfl 0 rfl ?_
  refine g_iload_n F (q := 2) (dk dL_far 1 rfl) rfl rfl 1 rfl ?_
  refine g_icmp_ge F (q := 5) (tgt := 11) (dk dL_far 2 rfl) (by decide) rfl (fun c2 => ?_) (fun c2 => ?_)
  · refine g_iload_n F (q := 12) (dk dL_far 7 rfl) rfl rfl 0 rfl ?_
    refine g_iload_n F (q := 13) (dk dL_far 8 rfl) rfl rfl 1 rfl ?_
    refine g_isub F (q := 14) (dk dL_far 9 rfl) rfl ?_
    refine hret (a - b) E _ _ (dk dL_far 10 rfl) (nint _) ?_
    exact ⟨if_neg (Int32.not_lt.mpr c2), rfl⟩
  · refine g_iload_n F (q := 6) (dk dL_far 3 rfl) rfl rfl 1 rfl ?_
    refine g_iload_n F (q := 7) (dk dL_far 4 rfl) rfl rfl 0 rfl ?_
    refine g_isub F (q := 8) (dk dL_far 5 rfl) rfl ?_
    refine g_goto F (tgt := 14) (dk dL_far 6 rfl) (by decide) ?_
    refine hret (b - a) E _ _ (dk dL_far 10 rfl) (nint _) ?_
    exact ⟨if_pos (Int32.not_le.mp c2), rfl⟩
theorem ks_L_far : KS yL_far "ThumpEarsLaw" cL_far 2 (some .int) 2 := ⟨tq_414, tq_8, tq_415, by decide +kernel⟩
theorem q_far {l : Launch} {D : va_G} {cA : Nat → ClassId} {ad : Nat → Nat} {E : Nat → va_E} {a b : Int32} : CQ l D cA yL_far cL_far 2 .int rm_L_far ad E [.int a, .int b] (far a b) (fun E' => E = E') := CQ.of c_L_far
abbrev rm_L_down : Room := { frames := 0, cells := 0, slots := 0, locals := 0 }
set_option maxHeartbeats 4000000 in
set_option maxRecDepth 100000 in
theorem c_L_down {l : Launch} {D : va_G} {cA : Nat → ClassId} {ad : Nat → Nat} {E : Nat → va_E} {u lw : Int64}   (hz : ¬ lw = 0) : CtL l D cA yL_down cL_down 6 rm_L_down 235 ad E [.long u, .long lw] (fun x E' => dn u lw = x ∧ E = E') := by
  refine CtL.of (by decide +kernel) (Nat.le_of_ble_eq_true rfl) (fun X F hret => ?_)
  have F : Fr "ThumpEarsLaw" cL_down 6 D cA X := F
  refine (show GG rm_L_down 6 l D X 0 0 235 ad E 0 [(0, .long u), (2, .long lw)] [] from ?_)
  refine g_lload_n F (q := 1) (dk dL_down 0 rfl) rfl rfl 0 rfl ?_
  refine g_lload_n F (q := 2) (dk dL_down 1 rfl) rfl rfl 1 rfl ?_
  refine g_ldiv F (q := 3) (dk dL_down 2 rfl) rfl hz ?_
  refine g_lstore F (q := 5) (lv' := [(4, .long (u / lw)), (0, .long u), (2, .long lw)]) (dk dL_down 3 rfl) rfl (Nat.le_of_ble_eq_true rfl) rfl ?_
  refine g_lload F (q := 7) (dk dL_down 4 rfl) rfl 0 rfl ?_
  refine g_lload_n F (q := 8) (dk dL_down 5 rfl) rfl rfl 2 rfl ?_
  refine g_lmul F (q := 9) (dk dL_down 6 rfl) rfl ?_
  refine g_lload_n F (q := 10) (dk dL_down 7 rfl) rfl rfl 1 rfl ?_
  refine g_lcmp_le F (q := 14) (tgt := 21) (dk dL_down 8 rfl) (dk dL_down 9 rfl) (by decide) rfl (fun c10 => ?_) (fun c10 => ?_)
  · refine g_lload F (q := 23) (dk dL_down 14 rfl) rfl 0 rfl ?_
    refine hret (u / lw) E _ _ (dk dL_down 15 rfl) ?_
    exact ⟨if_neg (Int64.not_lt.mpr c10), rfl⟩
  · refine g_lload F (q := 16) (dk dL_down 10 rfl) rfl 0 rfl ?_
    refine g_lconst F (q := 17) (v := 1) (dk dL_down 11 rfl) rfl (by decide) ?_
    refine g_lsub F (q := 18) (dk dL_down 12 rfl) rfl ?_
    refine g_goto F (tgt := 23) (dk dL_down 13 rfl) (by decide) ?_
    refine hret ((u / lw) - 1) E _ _ (dk dL_down 15 rfl) ?_
    exact ⟨if_pos (Int64.not_le.mp c10), rfl⟩
theorem ks_L_down : KS yL_down "ThumpEarsLaw" cL_down 6 (some .long) 2 := ⟨tq_436, tq_8, tq_437, by decide +kernel⟩
theorem q_down {l : Launch} {D : va_G} {cA : Nat → ClassId} {ad : Nat → Nat} {E : Nat → va_E} {u lw : Int64} (hz : ¬ lw = 0) : CQL l D cA yL_down cL_down 6 rm_L_down ad E [.long u, .long lw] (dn u lw) (fun E' => E = E') := CQL.of (c_L_down hz)
abbrev rm_L_reads : Room := { frames := 5, cells := 0, slots := 0, locals := 115 }
set_option maxHeartbeats 4000000 in
set_option maxRecDepth 100000 in
theorem c_L_reads {l : Launch} {D : va_G} {cA : Nat → ClassId} {ad : Nat → Nat} {E : Nat → va_E} {r : Nat → Int32} {ne nt nk nh ln : Nat} {txt d ps : Nat → Int32} {e : Nat} {t : Int32}  (hQ : LQ cA ad E r ne nt nk nh ln txt d ps) (he : e < ne) : CtI l D cA yL_reads cL_reads 3 .int rm_L_reads 235 ad E [.ref (ad 0), .int (nI e), .int t] (fun x E' => rdc r e t = x ∧ LQ cA ad E' r ne nt nk nh ln txt d ps) := by
  refine CtI.of (by decide +kernel) (Nat.le_of_ble_eq_true rfl) (fun X F hret => ?_)
  have F : Fr "ThumpEarsLaw" cL_reads 3 D cA X := F
  refine (show GG rm_L_reads 3 l D X 0 0 235 ad E 0 [(0, .ref (ad 0)), (1, .int (nI e)), (2, .int t)] [] from ?_)
  have hV := hQ.i
  have h0 := hV.e0
  have h1 := hV.e1
  have h2 := hV.e2
  refine g_iload_n F (q := 1) (dk dL_reads 0 rfl) rfl rfl 2 rfl ?_
  refine g_aload_n F (q := 2) (dk dL_reads 1 rfl) rfl rfl 0 rfl ?_
  refine g_iload_n F (q := 3) (dk dL_reads 2 rfl) rfl rfl 1 rfl ?_
  refine g_iconst F (q := 4) (v := 2) (dk dL_reads 3 rfl) rfl (by decide) ?_
  refine h_VI F (av := [.int (nI e), .int 2]) (st := [.int t]) (q_ear hQ (vE2 hV (show e < ne by omega))) kv_X6_ear tq_399 hQ.e0 ⟨rfl, rfl⟩ (by decide) ⟨Nat.le_refl _, Nat.le_refl _⟩ rfl rfl (Nat.le_of_ble_eq_true rfl) (dk dL_reads 4 rfl) rfl (fun E4 hQ4 => ?_)
  refine g_iadd F (q := 8) (dk dL_reads 5 rfl) rfl ?_
  refine g_sipush F (q := 11) (v := 1000) (dk dL_reads 6 rfl) rfl (by decide) ?_
  refine g_isub F (q := 12) (dk dL_reads 7 rfl) rfl ?_
  refine g_sti (y := (t + r (6 + 4 * e + 2))) (by rw [← Int32.add_assoc, Int32.add_sub_cancel]) ?_
  refine g_aload_n F (q := 13) (dk dL_reads 8 rfl) rfl rfl 0 rfl ?_
  refine g_iload_n F (q := 14) (dk dL_reads 9 rfl) rfl rfl 1 rfl ?_
  refine g_iconst F (q := 15) (v := 3) (dk dL_reads 10 rfl) rfl (by decide) ?_
  refine h_VI F (av := [.int (nI e), .int 3]) (st := [.int (t + r (6 + 4 * e + 2))]) (q_ear hQ4 (vE3 hV (show e < ne by omega))) kv_X6_ear tq_399 hQ4.e0 ⟨rfl, rfl⟩ (by decide) ⟨Nat.le_refl _, Nat.le_refl _⟩ rfl rfl (Nat.le_of_ble_eq_true rfl) (dk dL_reads 11 rfl) rfl (fun E15 hQ15 => ?_)
  refine g_sipush F (q := 21) (v := 1000) (dk dL_reads 12 rfl) rfl (by decide) ?_
  refine g_isub F (q := 22) (dk dL_reads 13 rfl) rfl ?_
  refine g_sti (y := (r (6 + 4 * e + 3))) (Int32.add_sub_cancel _ _) ?_
  refine g_i2l F (q := 23) (dk dL_reads 14 rfl) rfl ?_
  refine g_iload_n F (q := 24) (dk dL_reads 15 rfl) rfl rfl 2 rfl ?_
  refine g_i2l F (q := 25) (dk dL_reads 16 rfl) rfl ?_
  refine g_lmul F (q := 26) (dk dL_reads 17 rfl) rfl ?_
  refine g_ldc2 F (q := 29) (v := 10000) (dk dL_reads 18 rfl) rfl tq_454 ?_
  refine h_SL F (av := [.long ((r (6 + 4 * e + 3)).toInt64 * t.toInt64), .long 10000]) (st := [.int (t + r (6 + 4 * e + 2))]) (q_down (by decide)) ks_L_down tq_435 ⟨rfl, rfl⟩ (by decide) ⟨Nat.le_refl _, Nat.le_refl _⟩ rfl rfl (Nat.le_of_ble_eq_true rfl) (dk dL_reads 19 rfl) rfl (fun E29 hE29 => ?_)
  obtain rfl := hE29
  refine g_l2i F (q := 33) (dk dL_reads 20 rfl) rfl ?_
  refine g_iadd F (q := 34) (dk dL_reads 21 rfl) rfl ?_
  refine hret ((t + r (6 + 4 * e + 2)) + (dn ((r (6 + 4 * e + 3)).toInt64 * t.toInt64) 10000).toInt32) E15 _ _ (dk dL_reads 22 rfl) (nint _) ?_
  exact ⟨rfl, hQ15⟩
theorem ks_L_reads : KS yL_reads "ThumpEarsLaw" cL_reads 3 (some .int) 3 := ⟨tq_452, tq_8, tq_453, by decide +kernel⟩
abbrev rm_L_error : Room := { frames := 5, cells := 0, slots := 0, locals := 115 }
set_option maxHeartbeats 4000000 in
set_option maxRecDepth 100000 in
theorem c_L_error {l : Launch} {D : va_G} {cA : Nat → ClassId} {ad : Nat → Nat} {E : Nat → va_E} {r : Nat → Int32} {ne nt nk nh ln : Nat} {txt d ps : Nat → Int32} {e : Nat} {c : Int32}  (hQ : LQ cA ad E r ne nt nk nh ln txt d ps) (he : e < ne) : CtL l D cA yL_error cL_error 12 rm_L_error 235 ad E [.ref (ad 0), .int (nI e), .int c] (fun x E' => errR r e nt c = x ∧ LQ cA ad E' r ne nt nk nh ln txt d ps) := by
  refine CtL.of (by decide +kernel) (Nat.le_of_ble_eq_true rfl) (fun X F hret => ?_)
  have F : Fr "ThumpEarsLaw" cL_error 12 D cA X := F
  refine (show GG rm_L_error 12 l D X 0 0 235 ad E 0 [(0, .ref (ad 0)), (1, .int (nI e)), (2, .int c)] [] from ?_)
  have hV := hQ.i
  have h0 := hV.e0
  have h1 := hV.e1
  have h2 := hV.e2
  have hmle := mC_le (r := r) (e := e) nt
  refine g_aload_n F (q := 1) (dk dL_error 0 rfl) rfl rfl 0 rfl ?_
  refine g_iload_n F (q := 2) (dk dL_error 1 rfl) rfl rfl 1 rfl ?_
  refine g_iconst F (q := 3) (v := 4) (dk dL_error 2 rfl) rfl (by decide) ?_
  refine h_VI F (av := [.int (nI e), .int 4]) (st := []) (q_ear hQ (vE4 hV (show e < ne by omega))) kv_X6_ear tq_399 hQ.e0 ⟨rfl, rfl⟩ (by decide) ⟨Nat.le_refl _, Nat.le_refl _⟩ rfl rfl (Nat.le_of_ble_eq_true rfl) (dk dL_error 3 rfl) rfl (fun E3 hQ3 => ?_)
  refine g_istore_n F (q := 7) (lv' := [(3, .int (nI ((mC r e nt)))), (0, .ref (ad 0)), (1, .int (nI e)), (2, .int c)]) (dk dL_error 4 rfl) rfl rfl (Nat.le_of_ble_eq_true rfl) rfl ?_
  refine g_iload_n F (q := 8) (dk dL_error 5 rfl) rfl rfl 0 rfl ?_
  refine g_if_ne F (q := 11) (tgt := 13) (dk dL_error 6 rfl) (by decide) rfl (fun c8 => ?_) (fun c8 => ?_)
  · have nc8 : ¬ (mC r e nt) = 0 := fun h => c8 ((nI_eq (a := (mC r e nt)) (b := 0) (by omega) (by omega)).mpr h)
    refine g_iload_n F (q := 14) (dk dL_error 9 rfl) rfl rfl 0 rfl ?_
    refine g_iconst F (q := 15) (v := 1) (dk dL_error 10 rfl) rfl (by decide) ?_
    refine g_icmp_ne F (q := 18) (tgt := 35) (dk dL_error 11 rfl) (by decide) rfl (fun c15 => ?_) (fun c15 => ?_)
    · have nc15 : ¬ (mC r e nt) = 1 := fun h => c15 ((nI_eq (a := (mC r e nt)) (b := 1) (by omega) (by omega)).mpr h)
      refine g_iconst F (q := 36) (v := (-1)) (dk dL_error 23 rfl) rfl (by decide) ?_
      refine g_istore F (q := 38) (lv' := [(4, .int (-1)), (3, .int (nI ((mC r e nt)))), (0, .ref (ad 0)), (1, .int (nI e)), (2, .int c)]) (dk dL_error 24 rfl) rfl (Nat.le_of_ble_eq_true rfl) rfl ?_
      refine g_iconst F (q := 39) (v := 0) (dk dL_error 25 rfl) rfl (by decide) ?_
      refine g_istore F (q := 41) (lv' := [(5, .int 0), (4, .int (-1)), (3, .int (nI ((mC r e nt)))), (0, .ref (ad 0)), (1, .int (nI e)), (2, .int c)]) (dk dL_error 26 rfl) rfl (Nat.le_of_ble_eq_true rfl) rfl ?_
      have K41 : ∀ (fu : Nat) (k : Nat) (lt : Int32) (E1 : Nat → va_E), mC r e nt - k < fu → (hQc : LQ cA ad E1 r ne nt nk nh ln txt d ps) → (hk : k ≤ mC r e nt) → (hq : ltQ (mRd r e nt) c k lt) → GG rm_L_error 12 l D X 0 0 235 ad E1 41 [(0, .ref (ad 0)), (1, .int (nI e)), (2, .int c), (3, .int (nI ((mC r e nt)))), (4, .int lt), (5, .int (nI k))] [] := by
        intro fu
        induction fu with
        | zero => intro k lt E1 hfu_; exact absurd hfu_ (Nat.not_lt_zero _)
        | succ fu ih =>
          intro k lt E1 hfu_ hQc hk hq
          refine g_iload F (q := 43) (dk dL_error 27 rfl) rfl 5 rfl ?_
          refine g_iload_n F (q := 44) (dk dL_error 28 rfl) rfl rfl 3 rfl ?_
          refine g_icmp_ge F (q := 47) (tgt := 78) (dk dL_error 29 rfl) (by decide) rfl (fun c44 => ?_) (fun c44 => ?_)
          · have nc44 : (mC r e nt) ≤ k := (nI_leI (a := (mC r e nt)) (b := k) (by omega) (by omega)).mp c44
            have hq2 : ltQ (mRd r e nt) c (mC r e nt) lt := by
              have e1 : k = mC r e nt := by omega
              rw [← e1]
              exact hq
            have hn2 : ¬ mC r e nt < 2 := by omega
            have hmo := mRd_mono (r := r) (e := e) nt
            have hml := mC_le (r := r) (e := e) nt
            refine g_iload F (q := 80) (dk dL_error 45 rfl) rfl 4 rfl ?_
            have K103 : ∀ (o : Nat), (ho1 : o + 1 < mC r e nt) → (ho : fI (mRd r e nt) c (mC r e nt - 2) = o) → GG rm_L_error 12 l D X 0 0 235 ad E1 103 [(0, .ref (ad 0)), (1, .int (nI e)), (2, .int c)] [.int (nI o)] := by
              intro o ho1 ho
              refine g_istore F (q := 105) (lv' := [(5, .int (nI o)), (0, .ref (ad 0)), (1, .int (nI e)), (2, .int c)]) (dk dL_error 59 rfl) rfl (Nat.le_of_ble_eq_true rfl) rfl ?_
              refine g_aload_n F (q := 106) (dk dL_error 60 rfl) rfl rfl 1 rfl ?_
              refine g_iload_n F (q := 107) (dk dL_error 61 rfl) rfl rfl 2 rfl ?_
              refine g_iload F (q := 109) (dk dL_error 62 rfl) rfl 0 rfl ?_
              refine g_iconst F (q := 110) (v := 0) (dk dL_error 63 rfl) rfl (by decide) ?_
              refine h_VI F (av := [.int (nI e), .int (nI o), .int 0]) (st := []) (q_mark hQc (vM0 hV (show e < ne by omega) (show o < mC r e nt by omega))) kv_X6_mark tq_416 hQc.e0 ⟨rfl, rfl⟩ (by decide) ⟨Nat.le_refl _, Nat.le_refl _⟩ rfl rfl (Nat.le_of_ble_eq_true rfl) (dk dL_error 64 rfl) rfl (fun E110 hQ110 => ?_)
              refine g_sipush F (q := 116) (v := 10000) (dk dL_error 65 rfl) rfl (by decide) ?_
              refine g_isub F (q := 117) (dk dL_error 66 rfl) rfl ?_
              refine g_sti (y := (mRd r e nt o)) (Int32.add_sub_cancel _ _) ?_
              refine g_istore F (q := 119) (lv' := [(6, .int (mRd r e nt o)), (5, .int (nI o)), (0, .ref (ad 0)), (1, .int (nI e)), (2, .int c)]) (dk dL_error 67 rfl) rfl (Nat.le_of_ble_eq_true rfl) rfl ?_
              refine g_aload_n F (q := 120) (dk dL_error 68 rfl) rfl rfl 2 rfl ?_
              refine g_iload_n F (q := 121) (dk dL_error 69 rfl) rfl rfl 3 rfl ?_
              refine g_iload F (q := 123) (dk dL_error 70 rfl) rfl 1 rfl ?_
              refine g_iconst F (q := 124) (v := 1) (dk dL_error 71 rfl) rfl (by decide) ?_
              refine g_iadd F (q := 125) (dk dL_error 72 rfl) rfl ?_
              refine g_sti (y := (nI ((o + 1)))) (nI_1 _) ?_
              refine g_iconst F (q := 126) (v := 0) (dk dL_error 73 rfl) rfl (by decide) ?_
              refine h_VI F (av := [.int (nI e), .int (nI ((o + 1))), .int 0]) (st := []) (q_mark hQ110 (vM0 hV (show e < ne by omega) (show (o + 1) < mC r e nt by omega))) kv_X6_mark tq_416 hQ110.e0 ⟨rfl, rfl⟩ (by decide) ⟨Nat.le_refl _, Nat.le_refl _⟩ rfl rfl (Nat.le_of_ble_eq_true rfl) (dk dL_error 74 rfl) rfl (fun E126 hQ126 => ?_)
              refine g_sipush F (q := 132) (v := 10000) (dk dL_error 75 rfl) rfl (by decide) ?_
              refine g_isub F (q := 133) (dk dL_error 76 rfl) rfl ?_
              refine g_sti (y := (mRd r e nt (o + 1))) (Int32.add_sub_cancel _ _) ?_
              refine g_istore F (q := 135) (lv' := [(7, .int (mRd r e nt (o + 1))), (6, .int (mRd r e nt o)), (5, .int (nI o)), (0, .ref (ad 0)), (1, .int (nI e)), (2, .int c)]) (dk dL_error 77 rfl) rfl (Nat.le_of_ble_eq_true rfl) rfl ?_
              refine g_aload_n F (q := 136) (dk dL_error 78 rfl) rfl rfl 3 rfl ?_
              refine g_iload_n F (q := 137) (dk dL_error 79 rfl) rfl rfl 4 rfl ?_
              refine g_iload F (q := 139) (dk dL_error 80 rfl) rfl 2 rfl ?_
              refine g_iconst F (q := 140) (v := 1) (dk dL_error 81 rfl) rfl (by decide) ?_
              refine h_VI F (av := [.int (nI e), .int (nI o), .int 1]) (st := []) (q_mark hQ126 (vM1 hV (show e < ne by omega) (show o < mC r e nt by omega))) kv_X6_mark tq_416 hQ126.e0 ⟨rfl, rfl⟩ (by decide) ⟨Nat.le_refl _, Nat.le_refl _⟩ rfl rfl (Nat.le_of_ble_eq_true rfl) (dk dL_error 82 rfl) rfl (fun E140 hQ140 => ?_)
              refine g_sipush F (q := 146) (v := 10000) (dk dL_error 83 rfl) rfl (by decide) ?_
              refine g_isub F (q := 147) (dk dL_error 84 rfl) rfl ?_
              refine g_sti (y := (mEr r e nt o)) (Int32.add_sub_cancel _ _) ?_
              refine g_i2l F (q := 148) (dk dL_error 85 rfl) rfl ?_
              refine g_lstore F (q := 150) (lv' := [(8, .long (mEr r e nt o).toInt64), (7, .int (mRd r e nt (o + 1))), (6, .int (mRd r e nt o)), (5, .int (nI o)), (0, .ref (ad 0)), (1, .int (nI e)), (2, .int c)]) (dk dL_error 86 rfl) rfl (Nat.le_of_ble_eq_true rfl) rfl ?_
              refine g_aload_n F (q := 151) (dk dL_error 87 rfl) rfl rfl 4 rfl ?_
              refine g_iload_n F (q := 152) (dk dL_error 88 rfl) rfl rfl 5 rfl ?_
              refine g_iload F (q := 154) (dk dL_error 89 rfl) rfl 3 rfl ?_
              refine g_iconst F (q := 155) (v := 1) (dk dL_error 90 rfl) rfl (by decide) ?_
              refine g_iadd F (q := 156) (dk dL_error 91 rfl) rfl ?_
              refine g_sti (y := (nI ((o + 1)))) (nI_1 _) ?_
              refine g_iconst F (q := 157) (v := 1) (dk dL_error 92 rfl) rfl (by decide) ?_
              refine h_VI F (av := [.int (nI e), .int (nI ((o + 1))), .int 1]) (st := []) (q_mark hQ140 (vM1 hV (show e < ne by omega) (show (o + 1) < mC r e nt by omega))) kv_X6_mark tq_416 hQ140.e0 ⟨rfl, rfl⟩ (by decide) ⟨Nat.le_refl _, Nat.le_refl _⟩ rfl rfl (Nat.le_of_ble_eq_true rfl) (dk dL_error 93 rfl) rfl (fun E157 hQ157 => ?_)
              refine g_sipush F (q := 163) (v := 10000) (dk dL_error 94 rfl) rfl (by decide) ?_
              refine g_isub F (q := 164) (dk dL_error 95 rfl) rfl ?_
              refine g_sti (y := (mEr r e nt (o + 1))) (Int32.add_sub_cancel _ _) ?_
              refine g_i2l F (q := 165) (dk dL_error 96 rfl) rfl ?_
              refine g_lstore F (q := 167) (lv' := [(10, .long (mEr r e nt (o + 1)).toInt64), (8, .long (mEr r e nt o).toInt64), (7, .int (mRd r e nt (o + 1))), (6, .int (mRd r e nt o)), (5, .int (nI o)), (0, .ref (ad 0)), (1, .int (nI e)), (2, .int c)]) (dk dL_error 97 rfl) rfl (Nat.le_of_ble_eq_true rfl) rfl ?_
              refine g_ldc2 F (q := 170) (v := 1000) (dk dL_error 98 rfl) rfl tq_434 ?_
              refine g_lload F (q := 172) (dk dL_error 99 rfl) rfl 1 rfl ?_
              refine g_lmul F (q := 173) (dk dL_error 100 rfl) rfl ?_
              refine g_ldc2 F (q := 176) (v := 1000) (dk dL_error 101 rfl) rfl tq_434 ?_
              refine g_lload F (q := 178) (dk dL_error 102 rfl) rfl 0 rfl ?_
              refine g_lload F (q := 180) (dk dL_error 103 rfl) rfl 1 rfl ?_
              refine g_lsub F (q := 181) (dk dL_error 104 rfl) rfl ?_
              refine g_stl (y := ((mEr r e nt (o + 1) - mEr r e nt o).toInt64)) (l64s (mEr_b hV he (by omega)) (mEr_b hV he (by omega))) ?_
              refine g_lmul F (q := 182) (dk dL_error 105 rfl) rfl ?_
              refine g_iload_n F (q := 183) (dk dL_error 106 rfl) rfl rfl 7 rfl ?_
              refine g_iload F (q := 185) (dk dL_error 107 rfl) rfl 3 rfl ?_
              refine g_isub F (q := 186) (dk dL_error 108 rfl) rfl ?_
              refine g_i2l F (q := 187) (dk dL_error 109 rfl) rfl ?_
              refine g_lmul F (q := 188) (dk dL_error 110 rfl) rfl ?_
              refine g_iload F (q := 190) (dk dL_error 111 rfl) rfl 2 rfl ?_
              refine g_iload F (q := 192) (dk dL_error 112 rfl) rfl 3 rfl ?_
              refine g_isub F (q := 193) (dk dL_error 113 rfl) rfl ?_
              refine g_i2l F (q := 194) (dk dL_error 114 rfl) rfl ?_
              refine h_SL F (av := [.long ((1000 * ((mEr r e nt (o + 1) - mEr r e nt o).toInt64)) * (c - (mRd r e nt o)).toInt64), .long ((mRd r e nt (o + 1)) - (mRd r e nt o)).toInt64]) (st := [.long (1000 * (mEr r e nt o).toInt64)]) (q_down (df_nz (mRd_b hV (by omega) (by omega)) (mRd_b hV (by omega) (by omega)) (mRd_mono nt o (by omega))).2) ks_L_down tq_435 ⟨rfl, rfl⟩ (by decide) ⟨Nat.le_refl _, Nat.le_refl _⟩ rfl rfl (Nat.le_of_ble_eq_true rfl) (dk dL_error 115 rfl) rfl (fun E194 hE194 => ?_)
              obtain rfl := hE194
              refine g_ladd F (q := 198) (dk dL_error 116 rfl) rfl ?_
              refine hret ((1000 * (mEr r e nt o).toInt64) + (dn ((1000 * ((mEr r e nt (o + 1) - mEr r e nt o).toInt64)) * (c - (mRd r e nt o)).toInt64) ((mRd r e nt (o + 1)) - (mRd r e nt o)).toInt64)) E157 _ _ (dk dL_error 117 rfl) ?_
              exact ⟨(errR_2 hn2 ho).symm, hQ157⟩
            refine g_if_ge F (q := 83) (tgt := 87) (dk dL_error 46 rfl) (by decide) rfl (fun c80 => ?_) (fun c80 => ?_)
            · refine g_iload F (q := 89) (dk dL_error 49 rfl) rfl 4 rfl ?_
              refine g_iload_n F (q := 90) (dk dL_error 50 rfl) rfl rfl 3 rfl ?_
              refine g_iconst F (q := 91) (v := 1) (dk dL_error 51 rfl) rfl (by decide) ?_
              refine g_isub F (q := 92) (dk dL_error 52 rfl) rfl ?_
              refine g_icmp_ne F (q := 95) (tgt := 101) (dk dL_error 53 rfl) (by decide) rfl (fun c92 => ?_) (fun c92 => ?_)
              · obtain ⟨o, ho1, hlo, ho⟩ := ltQ_c (by omega) (by omega) hmo hq2 (Int32.not_lt.mpr c80) c92
                subst hlo
                refine g_iload F (q := 103) (dk dL_error 58 rfl) rfl 4 rfl ?_
                refine g_lv (lv' := [(0, .ref (ad 0)), (1, .int (nI e)), (2, .int c)]) [0, 1, 2] rfl ?_
                exact K103 o ho1 ho
              · refine g_iload_n F (q := 96) (dk dL_error 54 rfl) rfl rfl 3 rfl ?_
                refine g_iconst F (q := 97) (v := 2) (dk dL_error 55 rfl) rfl (by decide) ?_
                refine g_isub F (q := 98) (dk dL_error 56 rfl) rfl ?_
                refine g_sti (y := (nI ((mC r e nt - 2)))) (nI_sub (a := mC r e nt) (b := 2) (by omega)) ?_
                refine g_goto F (tgt := 103) (dk dL_error 57 rfl) (by decide) ?_
                refine g_lv (lv' := [(0, .ref (ad 0)), (1, .int (nI e)), (2, .int c)]) [0, 1, 2] rfl ?_
                exact K103 (mC r e nt - 2) (by omega) (ltQ_b (by omega) (by omega) hmo hq2 c92)
            · refine g_iconst F (q := 84) (v := 0) (dk dL_error 47 rfl) rfl (by decide) ?_
              refine g_goto F (tgt := 103) (dk dL_error 48 rfl) (by decide) ?_
              refine g_lv (lv' := [(0, .ref (ad 0)), (1, .int (nI e)), (2, .int c)]) [0, 1, 2] rfl ?_
              exact K103 0 (by omega) (ltQ_a (by omega) (by omega) hmo hq2 (Int32.not_le.mp c80))
          · have nc44 : ¬ (mC r e nt) ≤ k := fun h => c44 ((nI_leI (a := (mC r e nt)) (b := k) (by omega) (by omega)).mpr h)
            refine g_aload_n F (q := 48) (dk dL_error 30 rfl) rfl rfl 0 rfl ?_
            refine g_iload_n F (q := 49) (dk dL_error 31 rfl) rfl rfl 1 rfl ?_
            refine g_iload F (q := 51) (dk dL_error 32 rfl) rfl 5 rfl ?_
            refine g_iconst F (q := 52) (v := 0) (dk dL_error 33 rfl) rfl (by decide) ?_
            refine h_VI F (av := [.int (nI e), .int (nI k), .int 0]) (st := []) (q_mark hQc (vM0 hV (show e < ne by omega) (show k < mC r e nt by omega))) kv_X6_mark tq_416 hQc.e0 ⟨rfl, rfl⟩ (by decide) ⟨Nat.le_refl _, Nat.le_refl _⟩ rfl rfl (Nat.le_of_ble_eq_true rfl) (dk dL_error 34 rfl) rfl (fun E52 hQ52 => ?_)
            refine g_sipush F (q := 58) (v := 10000) (dk dL_error 35 rfl) rfl (by decide) ?_
            refine g_isub F (q := 59) (dk dL_error 36 rfl) rfl ?_
            refine g_sti (y := (mRd r e nt k)) (Int32.add_sub_cancel _ _) ?_
            refine g_iload_n F (q := 60) (dk dL_error 37 rfl) rfl rfl 2 rfl ?_
            refine g_icmp_gt F (q := 63) (tgt := 68) (dk dL_error 38 rfl) (by decide) rfl (fun c60 => ?_) (fun c60 => ?_)
            · refine g_iload F (q := 70) (dk dL_error 41 rfl) rfl 4 rfl ?_
              refine g_istore F (q := 72) (lv' := [(4, .int lt), (0, .ref (ad 0)), (1, .int (nI e)), (2, .int c), (3, .int (nI ((mC r e nt)))), (5, .int (nI k))]) (dk dL_error 42 rfl) rfl (Nat.le_of_ble_eq_true rfl) rfl ?_
              refine g_iinc F (q := 75) (v := (nI ((k + 1)))) (lv' := [(5, .int (nI ((k + 1)))), (4, .int lt), (0, .ref (ad 0)), (1, .int (nI e)), (2, .int c), (3, .int (nI ((mC r e nt))))]) (dk dL_error 43 rfl) rfl 5 rfl (nI_1 _) (Nat.le_of_ble_eq_true rfl) rfl ?_
              refine g_goto F (tgt := 41) (dk dL_error 44 rfl) (by decide) ?_
              refine g_lv (lv' := [(0, .ref (ad 0)), (1, .int (nI e)), (2, .int c), (3, .int (nI ((mC r e nt)))), (4, .int lt), (5, .int (nI ((k + 1))))]) [2, 3, 4, 5, 1, 0] rfl ?_
              exact ih (k + 1) lt E52 (by omega) hQ52 (by omega) (ltQ_f (Int32.not_le.mpr c60) hq)
            · refine g_iload F (q := 65) (dk dL_error 39 rfl) rfl 5 rfl ?_
              refine g_goto F (tgt := 70) (dk dL_error 40 rfl) (by decide) ?_
              refine g_istore F (q := 72) (lv' := [(4, .int (nI k)), (0, .ref (ad 0)), (1, .int (nI e)), (2, .int c), (3, .int (nI ((mC r e nt)))), (5, .int (nI k))]) (dk dL_error 42 rfl) rfl (Nat.le_of_ble_eq_true rfl) rfl ?_
              refine g_iinc F (q := 75) (v := (nI ((k + 1)))) (lv' := [(5, .int (nI ((k + 1)))), (4, .int (nI k)), (0, .ref (ad 0)), (1, .int (nI e)), (2, .int c), (3, .int (nI ((mC r e nt))))]) (dk dL_error 43 rfl) rfl 5 rfl (nI_1 _) (Nat.le_of_ble_eq_true rfl) rfl ?_
              refine g_goto F (tgt := 41) (dk dL_error 44 rfl) (by decide) ?_
              refine g_lv (lv' := [(0, .ref (ad 0)), (1, .int (nI e)), (2, .int c), (3, .int (nI ((mC r e nt)))), (4, .int (nI k)), (5, .int (nI ((k + 1))))]) [2, 3, 4, 5, 1, 0] rfl ?_
              exact ih (k + 1) (nI k) E52 (by omega) hQ52 (by omega) (ltQ_t (Int32.not_lt.mp c60))
      refine g_lv (lv' := [(0, .ref (ad 0)), (1, .int (nI e)), (2, .int c), (3, .int (nI ((mC r e nt)))), (4, .int (-1)), (5, .int 0)]) [3, 4, 5, 2, 1, 0] rfl ?_
      exact K41 _ 0 (-1) E3 (Nat.lt_succ_self _) hQ3 (by omega) ltQ_0
    · have nc15 : (mC r e nt) = 1 := (nI_eq (a := (mC r e nt)) (b := 1) (by omega) (by omega)).mp c15
      refine g_ldc2 F (q := 21) (v := 1000) (dk dL_error 12 rfl) rfl tq_434 ?_
      refine g_aload_n F (q := 22) (dk dL_error 13 rfl) rfl rfl 1 rfl ?_
      refine g_iload_n F (q := 23) (dk dL_error 14 rfl) rfl rfl 2 rfl ?_
      refine g_iconst F (q := 24) (v := 0) (dk dL_error 15 rfl) rfl (by decide) ?_
      refine g_iconst F (q := 25) (v := 1) (dk dL_error 16 rfl) rfl (by decide) ?_
      refine h_VI F (av := [.int (nI e), .int 0, .int 1]) (st := [.long 1000]) (q_mark hQ3 (vM1 hV (show e < ne by omega) (show 0 < mC r e nt by omega))) kv_X6_mark tq_416 hQ3.e0 ⟨rfl, rfl⟩ (by decide) ⟨Nat.le_refl _, Nat.le_refl _⟩ rfl rfl (Nat.le_of_ble_eq_true rfl) (dk dL_error 17 rfl) rfl (fun E25 hQ25 => ?_)
      refine g_sipush F (q := 31) (v := 10000) (dk dL_error 18 rfl) rfl (by decide) ?_
      refine g_isub F (q := 32) (dk dL_error 19 rfl) rfl ?_
      refine g_sti (y := (mEr r e nt 0)) (Int32.add_sub_cancel _ _) ?_
      refine g_i2l F (q := 33) (dk dL_error 20 rfl) rfl ?_
      refine g_lmul F (q := 34) (dk dL_error 21 rfl) rfl ?_
      refine hret (1000 * (mEr r e nt 0).toInt64) E25 _ _ (dk dL_error 22 rfl) ?_
      exact ⟨errR_1 nc15, hQ25⟩
  · have nc8 : (mC r e nt) = 0 := (nI_eq (a := (mC r e nt)) (b := 0) (by omega) (by omega)).mp c8
    refine g_lconst F (q := 12) (v := 0) (dk dL_error 7 rfl) rfl (by decide) ?_
    refine hret 0 E3 _ _ (dk dL_error 8 rfl) ?_
    exact ⟨errR_0 nc8, hQ3⟩
theorem ks_L_error : KS yL_error "ThumpEarsLaw" cL_error 12 (some .long) 3 := ⟨tq_432, tq_8, tq_433, by decide +kernel⟩
