abbrev rm_X6_stalest : Room := { frames := 3, cells := 0, slots := 0, locals := 72 }
set_option maxHeartbeats 4000000 in
set_option maxRecDepth 100000 in
theorem c_X6_stalest {l : Launch} {D : va_G} {cA : Nat → ClassId} {ad : Nat → Nat} {E : Nat → va_E} {r : Nat → Int32} {ne nt nk nh : Nat} {H : Nat → Nat → Int32} {s1 : Int32} {asd : Nat → Int32} {ln : Nat} {txt : Nat → Int32}   (hco : Core cA ad E r ne nt nk nh H s1 asd ln txt) (hmk : MkP cA ad E) (hsr : SrP cA ad E)  : CtI l D cA yX6_stalest cX6_stalest 5 .int rm_X6_stalest 235 ad E [.ref (ad 0)] (fun x E' => (stF r nt ne).1 = x ∧ (Core cA ad E' r ne nt nk nh H s1 asd ln txt) ∧ (MkP cA ad E') ∧ (SrP cA ad E') ∧ ∀ j, (233 ≤ j) → E' j = E j) := by
  refine CtI.of (by decide +kernel) (Nat.le_of_ble_eq_true rfl) (fun X F hret => ?_)
  have F : Fr "ThumpEars" cX6_stalest 5 D cA X := F
  refine (show GG rm_X6_stalest 5 l D X 0 0 235 ad E 0 [(0, .ref (ad 0))] [] from ?_)
  have hco2 := hco
  obtain ⟨v, vs, tg, vh, od, po, nu, ar, pla, ti, re, h0, hst, hsn, h73, h74, hhs, h219, h220, h221, h222, h223, h224, htg, hnh, hln, hcn, hhc, hss⟩ := hco2
  have hmk2 := hmk
  obtain ⟨m0, th, rd, er, h225, hth, hrd, her⟩ := hmk2
  have hsr2 := hsr
  obtain ⟨s0, px, pp, ls, gr, ea, pl, rt, h229, hsea, hspl, hsrt⟩ := hsr2
  have hne := hcn.i.e0
  have hnt := hcn.i.e1
  have hnk := hcn.i.e2
  have h1 : E 1 = .inr (5, [.ref (ad 2), .ref (ad 3), .ref (ad 4), .ref (ad 5), .ref (ad 6), .ref (ad 7), .ref (ad 22), .int (nI ne), .int (r 3), .int (r 4), .int (r 5)]) := by have q := hst.o; rw [hcn.n0, hcn.r3, hcn.r4, hcn.r5] at q; exact q
  have h7 : E 7 = .inr (3, [.ref (ad 8), .ref (ad 9), .ref (ad 10), .ref (ad 11), .int (nI nt)]) := by have q := hst.t; rw [hcn.n1] at q; exact q
  have h22 : E 22 = .inr (3, [.ref (ad 23), .ref (ad 24), .ref (ad 25), .ref (ad 26), .int (nI nk)]) := by have q := hst.k; rw [hcn.n2] at q; exact q
  refine g_bipush F (q := 2) (v := (-5)) (dk dX6_stalest 0 rfl) rfl (by decide) ?_
  refine g_istore_n F (q := 3) (lv' := [(1, .int (-5)), (0, .ref (ad 0))]) (dk dX6_stalest 1 rfl) rfl rfl (Nat.le_of_ble_eq_true rfl) rfl ?_
  refine g_bipush F (q := 5) (v := 10) (dk dX6_stalest 2 rfl) rfl (by decide) ?_
  refine g_istore_n F (q := 6) (lv' := [(2, .int 10), (1, .int (-5)), (0, .ref (ad 0))]) (dk dX6_stalest 3 rfl) rfl rfl (Nat.le_of_ble_eq_true rfl) rfl ?_
  refine g_iconst F (q := 7) (v := 0) (dk dX6_stalest 4 rfl) rfl (by decide) ?_
  refine g_istore_n F (q := 8) (lv' := [(3, .int 0), (2, .int 10), (1, .int (-5)), (0, .ref (ad 0))]) (dk dX6_stalest 5 rfl) rfl rfl (Nat.le_of_ble_eq_true rfl) rfl ?_
  have K8 : ∀ (fu : Nat) (i : Nat) (b1 : Int32) (b2 : Int32) (m1 : Int32) (th1 : Nat → Int32) (rd1 : Nat → Int32) (er1 : Nat → Int32) (E1 : Nat → va_E), ne - i < fu → (h225 : E1 225 = .inr (1, [.ref (ad 226), .ref (ad 227), .ref (ad 228), .int m1])) → (g26 : E1 226 = .inl (cA 0, 10, .inl th1)) → (g27 : E1 227 = .inl (cA 0, 10, .inl rd1)) → (g28 : E1 228 = .inl (cA 0, 10, .inl er1)) → (hfr8 : ∀ j, (j ≠ 225 ∧ j ≠ 226 ∧ j ≠ 227 ∧ j ≠ 228) → E1 j = E j) → (hi : i ≤ ne) → (hb1 : b1 = (stF r nt i).1) → (hb2 : b2 = (stF r nt i).2) → GG rm_X6_stalest 5 l D X 0 0 235 ad E1 8 [(0, .ref (ad 0)), (1, .int b1), (2, .int b2), (3, .int (nI i))] [] := by
    intro fu
    induction fu with
    | zero => intro i b1 b2 m1 th1 rd1 er1 E1 hfu_; exact absurd hfu_ (Nat.not_lt_zero _)
    | succ fu ih =>
      intro i b1 b2 m1 th1 rd1 er1 E1 hfu_ h225 g26 g27 g28 hfr8 hi hb1 hb2
      refine g_iload_n F (q := 9) (dk dX6_stalest 6 rfl) rfl rfl 3 rfl ?_
      refine g_aload_n F (q := 10) (dk dX6_stalest 7 rfl) rfl rfl 0 rfl ?_
      have hc1 := (hfr8 0 (by omega)).trans h0
      refine g_getf F (q := 13) hc1 rfl inX6 (by omega) (j := 0) (by decide) tq_240 rfl rfl (dk dX6_stalest 8 rfl) rfl ?_
      have hc2 := (hfr8 1 (by omega)).trans h1
      refine g_getf F (q := 16) hc2 rfl inX5 (by omega) (j := 7) (by decide) tq_93 rfl rfl (dk dX6_stalest 9 rfl) rfl ?_
      refine g_icmp_ge F (q := 19) (tgt := 57) (dk dX6_stalest 10 rfl) (by decide) rfl (fun c16 => ?_) (fun c16 => ?_)
      · have nc16 : ne ≤ i := (nI_leI (a := ne) (b := i) (by omega) (by omega)).mp c16
        refine g_iload_n F (q := 58) (dk dX6_stalest 30 rfl) rfl rfl 1 rfl ?_
        have hb3 := hco.fr (fun j h1 h2 => hfr8 j (by omega))
        have hb4 := hsr.fr (fun j h1 h2 => hfr8 j (by omega))
        refine hret b1 E1 _ _ (dk dX6_stalest 31 rfl) (nint _) ?_
        exact ⟨(by rw [show ne = i by omega]; exact hb1.symm), hb3, ⟨_, _, _, _, h225, g26, g27, g28⟩, hb4, (fun j hj => (hfr8 j (by omega)))⟩
      · have nc16 : ¬ ne ≤ i := fun h => c16 ((nI_leI (a := ne) (b := i) (by omega) (by omega)).mpr h)
        refine g_aload_n F (q := 20) (dk dX6_stalest 11 rfl) rfl rfl 0 rfl ?_
        refine g_getf F (q := 23) hc1 rfl inX6 (by omega) (j := 5) (by decide) tq_245 rfl rfl (dk dX6_stalest 12 rfl) rfl ?_
        refine g_aload_n F (q := 24) (dk dX6_stalest 13 rfl) rfl rfl 0 rfl ?_
        refine g_getf F (q := 27) hc1 rfl inX6 (by omega) (j := 0) (by decide) tq_240 rfl rfl (dk dX6_stalest 14 rfl) rfl ?_
        refine g_iload_n F (q := 28) (dk dX6_stalest 15 rfl) rfl rfl 3 rfl ?_
        have hb5 := hst.fr (fun j h1 h2 => hfr8 j (by omega))
        refine g_callVV F (q := 31) (av := [.ref (ad 1), .int (nI i)]) (st := []) (c_X1_gather (e := i) h225 g26 g27 g28 hb5 (by first | assumption | decide | omega) (by first | assumption | decide | omega)) kv_X1_gather tq_403 h225 rfl (by omega) ⟨rfl, rfl⟩ (by decide) ⟨Nat.le_refl _, Nat.le_refl _⟩ rfl rfl (Nat.le_of_ble_eq_true rfl) (dk dX6_stalest 16 rfl) rfl (fun E28 hp28 => ?_)
        obtain ⟨th1_28, rd1_28, er1_28, hK225_28, hK226_28, hK227_28, hK228_28, hH_28, hF28⟩ := hp28
        have hml := mC_le (r := r) (e := i) nt
        refine g_aload_n F (q := 32) (dk dX6_stalest 17 rfl) rfl rfl 0 rfl ?_
        have hc6 := (hF28 0 (by omega)).trans hc1
        refine g_getf F (q := 35) hc6 rfl inX6 (by omega) (j := 5) (by decide) tq_245 rfl rfl (dk dX6_stalest 18 rfl) rfl ?_
        refine g_callVI F (q := 38) (av := []) (st := []) (c_X1_latestThump hK225_28 hK226_28 (by first | assumption | decide | omega)) kv_X1_latestThump tq_459 hK225_28 rfl (by omega) ⟨rfl, rfl⟩ (by decide) ⟨Nat.le_refl _, Nat.le_refl _⟩ rfl rfl (Nat.le_of_ble_eq_true rfl) (dk dX6_stalest 19 rfl) rfl (fun r35 E35 hp35 => ?_)
        obtain ⟨rfl, rfl⟩ := hp35
        refine g_sti (y := (lth r nt i)) (lth_of hH_28) ?_
        refine g_istore F (q := 40) (lv' := [(4, .int (lth r nt i)), (0, .ref (ad 0)), (1, .int b1), (2, .int b2), (3, .int (nI i))]) (dk dX6_stalest 20 rfl) rfl (Nat.le_of_ble_eq_true rfl) rfl ?_
        refine g_iload F (q := 42) (dk dX6_stalest 21 rfl) rfl 0 rfl ?_
        refine g_iload_n F (q := 43) (dk dX6_stalest 22 rfl) rfl rfl 3 rfl ?_
        refine g_icmp_ge F (q := 46) (tgt := 51) (dk dX6_stalest 23 rfl) (by decide) rfl (fun c43 => ?_) (fun c43 => ?_)
        · refine g_iinc F (q := 54) (v := (nI ((i + 1)))) (lv' := [(3, .int (nI ((i + 1)))), (4, .int (lth r nt i)), (0, .ref (ad 0)), (1, .int b1), (2, .int b2)]) (dk dX6_stalest 28 rfl) rfl 4 rfl (nI_1 _) (Nat.le_of_ble_eq_true rfl) rfl ?_
          refine g_goto F (tgt := 8) (dk dX6_stalest 29 rfl) (by decide) ?_
          have hst := stF_f (r := r) (nt := nt) (e := i) (by rw [← hb2]; exact Int32.not_lt.mpr c43)
          refine g_lv (lv' := [(0, .ref (ad 0)), (1, .int b1), (2, .int b2), (3, .int (nI ((i + 1))))]) [2, 3, 4, 0] rfl ?_
          exact ih (i + 1) b1 b2 (nI ((mC r i nt))) th1_28 rd1_28 er1_28 E28 (by omega) hK225_28 hK226_28 hK227_28 hK228_28 (fun j hj => ((hF28 j (by omega)).trans (hfr8 j (by omega)))) (by omega) (by rw [hst]; exact hb1) (by rw [hst]; exact hb2)
        · refine g_iload F (q := 48) (dk dX6_stalest 24 rfl) rfl 0 rfl ?_
          refine g_istore_n F (q := 49) (lv' := [(2, .int (lth r nt i)), (4, .int (lth r nt i)), (0, .ref (ad 0)), (1, .int b1), (3, .int (nI i))]) (dk dX6_stalest 25 rfl) rfl rfl (Nat.le_of_ble_eq_true rfl) rfl ?_
          refine g_iload_n F (q := 50) (dk dX6_stalest 26 rfl) rfl rfl 4 rfl ?_
          refine g_istore_n F (q := 51) (lv' := [(1, .int (nI i)), (2, .int (lth r nt i)), (4, .int (lth r nt i)), (0, .ref (ad 0)), (3, .int (nI i))]) (dk dX6_stalest 27 rfl) rfl rfl (Nat.le_of_ble_eq_true rfl) rfl ?_
          refine g_iinc F (q := 54) (v := (nI ((i + 1)))) (lv' := [(3, .int (nI ((i + 1)))), (1, .int (nI i)), (2, .int (lth r nt i)), (4, .int (lth r nt i)), (0, .ref (ad 0))]) (dk dX6_stalest 28 rfl) rfl 4 rfl (nI_1 _) (Nat.le_of_ble_eq_true rfl) rfl ?_
          refine g_goto F (tgt := 8) (dk dX6_stalest 29 rfl) (by decide) ?_
          have hst := stF_t (r := r) (nt := nt) (e := i) (by rw [← hb2]; exact Int32.not_le.mp c43)
          refine g_lv (lv' := [(0, .ref (ad 0)), (1, .int (nI i)), (2, .int (lth r nt i)), (3, .int (nI ((i + 1))))]) [4, 1, 2, 0] rfl ?_
          exact ih (i + 1) (nI i) (lth r nt i) (nI ((mC r i nt))) th1_28 rd1_28 er1_28 E28 (by omega) hK225_28 hK226_28 hK227_28 hK228_28 (fun j hj => ((hF28 j (by omega)).trans (hfr8 j (by omega)))) (by omega) (by rw [hst]) (by rw [hst])
  refine g_lv (lv' := [(0, .ref (ad 0)), (1, .int (-5)), (2, .int 10), (3, .int 0)]) [3, 2, 1, 0] rfl ?_
  exact K8 _ 0 (-5) 10 m0 th rd er E (Nat.lt_succ_self _) h225 hth hrd her (fun j _ => rfl) (by omega) rfl rfl
theorem kv_X6_stalest : KV yX6_stalest "ThumpEars" cX6_stalest 5 (some .int) 0 := ⟨tq_456, tq_457, tq_9, tq_458, by decide +kernel⟩
abbrev rm_X6_missOf : Room := { frames := 4, cells := 0, slots := 0, locals := 100 }
set_option maxHeartbeats 4000000 in
set_option maxRecDepth 100000 in
theorem c_X6_missOf {l : Launch} {D : va_G} {cA : Nat → ClassId} {ad : Nat → Nat} {E : Nat → va_E} {r : Nat → Int32} {ne nt nk nh : Nat} {H : Nat → Nat → Int32} {s1 : Int32} {asd : Nat → Int32} {ln : Nat} {txt : Nat → Int32} {kn : Nat}  (hco : Core cA ad E r ne nt nk nh H s1 asd ln txt) (hmk : MkP cA ad E) (hsr : SrP cA ad E) (hk : kn < nk) : CtI l D cA yX6_missOf cX6_missOf 2 .int rm_X6_missOf 235 ad E [.ref (ad 0), .int (nI kn)] (fun x E' => (if hC r kn ne < 2 then -4 else far (nI (plc r ne nt kn)) (r (46 + 50 * 1 + 5 * kn + 0))) = x ∧ (Core cA ad E' r ne nt nk nh H s1 asd ln txt) ∧ (MkP cA ad E') ∧ (SrP cA ad E') ∧ ∀ j, (233 ≤ j) → E' j = E j) := by
  refine CtI.of (by decide +kernel) (Nat.le_of_ble_eq_true rfl) (fun X F hret => ?_)
  have F : Fr "ThumpEars" cX6_missOf 2 D cA X := F
  refine (show GG rm_X6_missOf 2 l D X 0 0 235 ad E 0 [(0, .ref (ad 0)), (1, .int (nI kn))] [] from ?_)
  have hco2 := hco
  obtain ⟨v, vs, tg, vh, od, po, nu, ar, pla, ti, re, h0, hst, hsn, h73, h74, hhs, h219, h220, h221, h222, h223, h224, htg, hnh, hln, hcn, hhc, hss⟩ := hco2
  have hmk2 := hmk
  obtain ⟨m0, th, rd, er, h225, hth, hrd, her⟩ := hmk2
  have hsr2 := hsr
  obtain ⟨s0, px, pp, ls, gr, ea, pl, rt, h229, hsea, hspl, hsrt⟩ := hsr2
  have hne := hcn.i.e0
  have hnt := hcn.i.e1
  have hnk := hcn.i.e2
  have h1 : E 1 = .inr (5, [.ref (ad 2), .ref (ad 3), .ref (ad 4), .ref (ad 5), .ref (ad 6), .ref (ad 7), .ref (ad 22), .int (nI ne), .int (r 3), .int (r 4), .int (r 5)]) := by have q := hst.o; rw [hcn.n0, hcn.r3, hcn.r4, hcn.r5] at q; exact q
  have h7 : E 7 = .inr (3, [.ref (ad 8), .ref (ad 9), .ref (ad 10), .ref (ad 11), .int (nI nt)]) := by have q := hst.t; rw [hcn.n1] at q; exact q
  have h22 : E 22 = .inr (3, [.ref (ad 23), .ref (ad 24), .ref (ad 25), .ref (ad 26), .int (nI nk)]) := by have q := hst.k; rw [hcn.n2] at q; exact q
  refine g_aload_n F (q := 1) (dk dX6_missOf 0 rfl) rfl rfl 0 rfl ?_
  refine g_getf F (q := 4) h0 rfl inX6 (by omega) (j := 6) (by decide) tq_246 rfl rfl (dk dX6_missOf 1 rfl) rfl ?_
  refine g_aload_n F (q := 5) (dk dX6_missOf 2 rfl) rfl rfl 0 rfl ?_
  refine g_getf F (q := 8) h0 rfl inX6 (by omega) (j := 0) (by decide) tq_240 rfl rfl (dk dX6_missOf 3 rfl) rfl ?_
  refine g_iload_n F (q := 9) (dk dX6_missOf 4 rfl) rfl rfl 1 rfl ?_
  refine g_aload_n F (q := 10) (dk dX6_missOf 5 rfl) rfl rfl 0 rfl ?_
  refine g_getf F (q := 13) h0 rfl inX6 (by omega) (j := 5) (by decide) tq_245 rfl rfl (dk dX6_missOf 6 rfl) rfl ?_
  refine g_callVV F (q := 16) (av := [.ref (ad 1), .int (nI kn), .ref (ad 225)]) (st := []) (c_X4_listen (kn := kn) h229 h225 hsea hspl hsrt hth hrd her hst (by first | assumption | decide | omega) (by first | assumption | decide | omega)) kv_X4_listen tq_304 h229 rfl (by omega) ⟨rfl, rfl⟩ (by decide) ⟨Nat.le_refl _, Nat.le_refl _⟩ rfl rfl (Nat.le_of_ble_eq_true rfl) (dk dX6_missOf 7 rfl) rfl (fun E13 hp13 => ?_)
  obtain ⟨m1_13, th1_13, rd1_13, er1_13, ea1_13, pl1_13, rt1_13, hK229_13, hK230_13, hK231_13, hK232_13, hK225_13, hK226_13, hK227_13, hK228_13, hS_13, hF13⟩ := hp13
  have hcl := hC_le (r := r) (kn := kn) ne
  refine g_aload_n F (q := 17) (dk dX6_missOf 8 rfl) rfl rfl 0 rfl ?_
  have hc1 := (hF13 0 (by omega)).trans h0
  refine g_getf F (q := 20) hc1 rfl inX6 (by omega) (j := 6) (by decide) tq_246 rfl rfl (dk dX6_missOf 9 rfl) rfl ?_
  refine g_getf F (q := 23) hK229_13 rfl inX4 (by omega) (j := 3) (by decide) tq_216 rfl rfl (dk dX6_missOf 10 rfl) rfl ?_
  refine g_iconst F (q := 24) (v := 2) (dk dX6_missOf 11 rfl) rfl (by decide) ?_
  refine g_icmp_ge F (q := 27) (tgt := 30) (dk dX6_missOf 12 rfl) (by decide) rfl (fun c24 => ?_) (fun c24 => ?_)
  · have nc24 : 2 ≤ (hC r kn ne) := (nI_leI (a := 2) (b := (hC r kn ne)) (by omega) (by omega)).mp c24
    refine g_aload_n F (q := 31) (dk dX6_missOf 15 rfl) rfl rfl 0 rfl ?_
    refine g_getf F (q := 34) hc1 rfl inX6 (by omega) (j := 6) (by decide) tq_246 rfl rfl (dk dX6_missOf 16 rfl) rfl ?_
    refine g_callVV F (q := 37) (av := []) (st := []) (c_X4_locate hK229_13 hK231_13 hK232_13 (by first | assumption | decide | omega) (by first | assumption | decide | omega)) kv_X4_locate tq_345 hK229_13 rfl (by omega) ⟨rfl, rfl⟩ (by decide) ⟨Nat.le_refl _, Nat.le_refl _⟩ rfl rfl (Nat.le_of_ble_eq_true rfl) (dk dX6_missOf 17 rfl) rfl (fun E34 hp34 => ?_)
    obtain ⟨hK229_34, hF34⟩ := hp34
    have hc0 : 0 < hC r kn ne := by omega
    have hpl := sH_pl (N := 1000) rfl hcn.i hS_13 hc0
    have hms := sH_ms hcn.i hS_13 hc0 (plc_i (r := r) (ne := ne) (nt := nt) (kn := kn))
    have h229p : E34 229 = .inr (4, [.ref (ad 230), .ref (ad 231), .ref (ad 232), .int (nI ((hC r kn ne))), .long (1000 * (r (46 + 50 * 1 + 5 * kn + 3)).toInt64), .int (nI (plc r ne nt kn)), .long (lsB r nt kn (nI (plc r ne nt kn)) ne), .long (msB r nt kn (nI (plc r ne nt kn)) ne)]) := by have q := hK229_34; rw [hpl, hms.1, hms.2] at q; exact q
    refine g_aload_n F (q := 38) (dk dX6_missOf 18 rfl) rfl rfl 0 rfl ?_
    have hc2 := (hF34 0 (by omega)).trans hc1
    refine g_getf F (q := 41) hc2 rfl inX6 (by omega) (j := 6) (by decide) tq_246 rfl rfl (dk dX6_missOf 19 rfl) rfl ?_
    refine g_getf F (q := 44) h229p rfl inX4 (by omega) (j := 5) (by decide) tq_219 rfl rfl (dk dX6_missOf 20 rfl) rfl ?_
    refine g_aload_n F (q := 45) (dk dX6_missOf 21 rfl) rfl rfl 0 rfl ?_
    refine g_getf F (q := 48) hc2 rfl inX6 (by omega) (j := 0) (by decide) tq_240 rfl rfl (dk dX6_missOf 22 rfl) rfl ?_
    have hc3 := (hF13 1 (by omega)).trans h1
    have hc4 := (hF34 1 (by omega)).trans hc3
    refine g_getf F (q := 51) hc4 rfl inX5 (by omega) (j := 6) (by decide) tq_91 rfl rfl (dk dX6_missOf 23 rfl) rfl ?_
    have hc5 := (hF13 22 (by omega)).trans h22
    have hc6 := (hF34 22 (by omega)).trans hc5
    refine g_getf F (q := 54) hc6 rfl inX3 (by omega) (j := 0) (by decide) tq_43 rfl rfl (dk dX6_missOf 24 rfl) rfl ?_
    refine g_iload_n F (q := 55) (dk dX6_missOf 25 rfl) rfl rfl 1 rfl ?_
    have hb7 := hst.fr (fun j h1 h2 => hF13 j (by omega))
    have hb8 := hb7.fr (fun j h1 h2 => hF34 j (by omega))
    have hc9 : E34 23 = .inl (cA 0, 10, .inl (v 22)) := hb8.a 22 (by omega)
    refine g_iald F (q := 56) kn hc9 (by omega) rfl (by omega) (by decide) (dk dX6_missOf 26 rfl) rfl ?_
    refine g_isub F (q := 57) (dk dX6_missOf 27 rfl) rfl ?_
    refine g_mabs F (q := 60) tq_508 tq_324 tq_17 tq_325 (by decide) (Nat.le_of_ble_eq_true rfl) ⟨Nat.le_refl _, Nat.le_refl _⟩ (dk dX6_missOf 28 rfl) rfl ?_
    have hb10 := hco.fr (fun j h1 h2 => hF13 j (by omega))
    have hb11 := hb10.fr (fun j h1 h2 => hF34 j (by omega))
    have hc12 := (hF34 225 (by omega)).trans hK225_13
    have hc13 := (hF34 226 (by omega)).trans hK226_13
    have hc14 := (hF34 227 (by omega)).trans hK227_13
    have hc15 := (hF34 228 (by omega)).trans hK228_13
    have hc16 := (hF34 230 (by omega)).trans hK230_13
    have hc17 := (hF34 231 (by omega)).trans hK231_13
    have hc18 := (hF34 232 (by omega)).trans hK232_13
    refine hret (if 0 ≤ ((nI (plc r ne nt kn)) - ((v 22) kn)) then ((nI (plc r ne nt kn)) - ((v 22) kn)) else 0 - ((nI (plc r ne nt kn)) - ((v 22) kn))) E34 _ _ (dk dX6_missOf 29 rfl) (nint _) ?_
    exact ⟨(by rw [if_neg (by omega), ← (hcn.kn hk).1, wy_far plc_i (by rw [(hcn.kn hk).1]; exact (hcn.i.come (k := 1) (by omega) hk).1)]), hb11, ⟨_, _, _, _, hc12, hc13, hc14, hc15⟩, ⟨_, _, _, _, _, _, _, _, h229p, hc16, hc17, hc18⟩, (fun j hj => ((hF34 j (by omega)).trans (hF13 j (by omega))))⟩
  · have nc24 : ¬ 2 ≤ (hC r kn ne) := fun h => c24 ((nI_leI (a := 2) (b := (hC r kn ne)) (by omega) (by omega)).mpr h)
    refine g_bipush F (q := 29) (v := (-4)) (dk dX6_missOf 13 rfl) rfl (by decide) ?_
    have hb19 := hco.fr (fun j h1 h2 => hF13 j (by omega))
    refine hret (-4) E13 _ _ (dk dX6_missOf 14 rfl) (nint _) ?_
    exact ⟨(by rw [if_pos (by omega)]), hb19, ⟨_, _, _, _, hK225_13, hK226_13, hK227_13, hK228_13⟩, ⟨_, _, _, _, _, _, _, _, hK229_13, hK230_13, hK231_13, hK232_13⟩, (fun j hj => (hF13 j (by omega)))⟩
theorem kv_X6_missOf : KV yX6_missOf "ThumpEars" cX6_missOf 2 (some .int) 1 := ⟨tq_506, tq_2, tq_9, tq_507, by decide +kernel⟩
abbrev rm_X6_countFitting : Room := { frames := 4, cells := 0, slots := 0, locals := 100 }
set_option maxHeartbeats 4000000 in
set_option maxRecDepth 100000 in
theorem c_X6_countFitting {l : Launch} {D : va_G} {cA : Nat → ClassId} {ad : Nat → Nat} {E : Nat → va_E} {r : Nat → Int32} {ne nt nk nh : Nat} {H : Nat → Nat → Int32} {s1 : Int32} {asd : Nat → Int32} {ln : Nat} {txt : Nat → Int32}   (hco : Core cA ad E r ne nt nk nh H s1 asd ln txt) (hmk : MkP cA ad E) (hsr : SrP cA ad E)  : CtI l D cA yX6_countFitting cX6_countFitting 3 .int rm_X6_countFitting 235 ad E [.ref (ad 0)] (fun x E' => (nI ((fitN r ne nt nk))) = x ∧ (Core cA ad E' r ne nt nk nh H s1 asd ln txt) ∧ (MkP cA ad E') ∧ (SrP cA ad E') ∧ ∀ j, (233 ≤ j) → E' j = E j) := by
  refine CtI.of (by decide +kernel) (Nat.le_of_ble_eq_true rfl) (fun X F hret => ?_)
  have F : Fr "ThumpEars" cX6_countFitting 3 D cA X := F
  refine (show GG rm_X6_countFitting 3 l D X 0 0 235 ad E 0 [(0, .ref (ad 0))] [] from ?_)
  have hco2 := hco
  obtain ⟨v, vs, tg, vh, od, po, nu, ar, pla, ti, re, h0, hst, hsn, h73, h74, hhs, h219, h220, h221, h222, h223, h224, htg, hnh, hln, hcn, hhc, hss⟩ := hco2
  have hmk2 := hmk
  obtain ⟨m0, th, rd, er, h225, hth, hrd, her⟩ := hmk2
  have hsr2 := hsr
  obtain ⟨s0, px, pp, ls, gr, ea, pl, rt, h229, hsea, hspl, hsrt⟩ := hsr2
  have hne := hcn.i.e0
  have hnt := hcn.i.e1
  have hnk := hcn.i.e2
  have h1 : E 1 = .inr (5, [.ref (ad 2), .ref (ad 3), .ref (ad 4), .ref (ad 5), .ref (ad 6), .ref (ad 7), .ref (ad 22), .int (nI ne), .int (r 3), .int (r 4), .int (r 5)]) := by have q := hst.o; rw [hcn.n0, hcn.r3, hcn.r4, hcn.r5] at q; exact q
  have h7 : E 7 = .inr (3, [.ref (ad 8), .ref (ad 9), .ref (ad 10), .ref (ad 11), .int (nI nt)]) := by have q := hst.t; rw [hcn.n1] at q; exact q
  have h22 : E 22 = .inr (3, [.ref (ad 23), .ref (ad 24), .ref (ad 25), .ref (ad 26), .int (nI nk)]) := by have q := hst.k; rw [hcn.n2] at q; exact q
  refine g_iconst F (q := 1) (v := 0) (dk dX6_countFitting 0 rfl) rfl (by decide) ?_
  refine g_istore_n F (q := 2) (lv' := [(1, .int 0), (0, .ref (ad 0))]) (dk dX6_countFitting 1 rfl) rfl rfl (Nat.le_of_ble_eq_true rfl) rfl ?_
  refine g_iconst F (q := 3) (v := 0) (dk dX6_countFitting 2 rfl) rfl (by decide) ?_
  refine g_istore_n F (q := 4) (lv' := [(2, .int 0), (1, .int 0), (0, .ref (ad 0))]) (dk dX6_countFitting 3 rfl) rfl rfl (Nat.le_of_ble_eq_true rfl) rfl ?_
  have K4 : ∀ (fu : Nat) (k : Nat) (c1 : Nat) (m1 : Int32) (th1 : Nat → Int32) (rd1 : Nat → Int32) (er1 : Nat → Int32) (sz1 : Int32) (px1 : Int32) (pp1 : Int64) (ls1 : Int64) (gr1 : Int64) (ea1 : Nat → Int32) (pl1 : Nat → Int32) (rt1 : Nat → Int64) (E1 : Nat → va_E), nk - k < fu → (h225 : E1 225 = .inr (1, [.ref (ad 226), .ref (ad 227), .ref (ad 228), .int m1])) → (g26 : E1 226 = .inl (cA 0, 10, .inl th1)) → (g27 : E1 227 = .inl (cA 0, 10, .inl rd1)) → (g28 : E1 228 = .inl (cA 0, 10, .inl er1)) → (g229 : E1 229 = .inr (4, [.ref (ad 230), .ref (ad 231), .ref (ad 232), .int sz1, .long pp1, .int px1, .long ls1, .long gr1])) → (g30 : E1 230 = .inl (cA 0, 10, .inl ea1)) → (g31 : E1 231 = .inl (cA 0, 10, .inl pl1)) → (g32 : E1 232 = .inl (cA 1, 10, .inr (.inl rt1))) → (hfr4 : ∀ j, (j ≠ 229 ∧ j ≠ 230 ∧ j ≠ 231 ∧ j ≠ 232 ∧ j ≠ 225 ∧ j ≠ 226 ∧ j ≠ 227 ∧ j ≠ 228) → E1 j = E j) → (hk : k ≤ nk) → (hc : c1 = fitN r ne nt k) → GG rm_X6_countFitting 3 l D X 0 0 235 ad E1 4 [(0, .ref (ad 0)), (1, .int (nI c1)), (2, .int (nI k))] [] := by
    intro fu
    induction fu with
    | zero => intro k c1 m1 th1 rd1 er1 sz1 px1 pp1 ls1 gr1 ea1 pl1 rt1 E1 hfu_; exact absurd hfu_ (Nat.not_lt_zero _)
    | succ fu ih =>
      intro k c1 m1 th1 rd1 er1 sz1 px1 pp1 ls1 gr1 ea1 pl1 rt1 E1 hfu_ h225 g26 g27 g28 g229 g30 g31 g32 hfr4 hk hc
      refine g_iload_n F (q := 5) (dk dX6_countFitting 4 rfl) rfl rfl 2 rfl ?_
      refine g_aload_n F (q := 6) (dk dX6_countFitting 5 rfl) rfl rfl 0 rfl ?_
      have hc1 := (hfr4 0 (by omega)).trans h0
      refine g_getf F (q := 9) hc1 rfl inX6 (by omega) (j := 0) (by decide) tq_240 rfl rfl (dk dX6_countFitting 6 rfl) rfl ?_
      have hc2 := (hfr4 1 (by omega)).trans h1
      refine g_getf F (q := 12) hc2 rfl inX5 (by omega) (j := 6) (by decide) tq_91 rfl rfl (dk dX6_countFitting 7 rfl) rfl ?_
      have hc3 := (hfr4 22 (by omega)).trans h22
      refine g_getf F (q := 15) hc3 rfl inX3 (by omega) (j := 4) (by decide) tq_60 rfl rfl (dk dX6_countFitting 8 rfl) rfl ?_
      refine g_icmp_ge F (q := 18) (tgt := 78) (dk dX6_countFitting 9 rfl) (by decide) rfl (fun c15 => ?_) (fun c15 => ?_)
      · have nc15 : nk ≤ k := (nI_leI (a := nk) (b := k) (by omega) (by omega)).mp c15
        refine g_iload_n F (q := 79) (dk dX6_countFitting 36 rfl) rfl rfl 1 rfl ?_
        have hb4 := hco.fr (fun j h1 h2 => hfr4 j (by omega))
        refine hret (nI c1) E1 _ _ (dk dX6_countFitting 37 rfl) (nint _) ?_
        exact ⟨(by rw [hc, show nk = k by omega]), hb4, ⟨_, _, _, _, h225, g26, g27, g28⟩, ⟨_, _, _, _, _, _, _, _, g229, g30, g31, g32⟩, (fun j hj => (hfr4 j (by omega)))⟩
      · have nc15 : ¬ nk ≤ k := fun h => c15 ((nI_leI (a := nk) (b := k) (by omega) (by omega)).mpr h)
        refine g_aload_n F (q := 19) (dk dX6_countFitting 10 rfl) rfl rfl 0 rfl ?_
        refine g_getf F (q := 22) hc1 rfl inX6 (by omega) (j := 6) (by decide) tq_246 rfl rfl (dk dX6_countFitting 11 rfl) rfl ?_
        refine g_aload_n F (q := 23) (dk dX6_countFitting 12 rfl) rfl rfl 0 rfl ?_
        refine g_getf F (q := 26) hc1 rfl inX6 (by omega) (j := 0) (by decide) tq_240 rfl rfl (dk dX6_countFitting 13 rfl) rfl ?_
        refine g_iload_n F (q := 27) (dk dX6_countFitting 14 rfl) rfl rfl 2 rfl ?_
        refine g_aload_n F (q := 28) (dk dX6_countFitting 15 rfl) rfl rfl 0 rfl ?_
        refine g_getf F (q := 31) hc1 rfl inX6 (by omega) (j := 5) (by decide) tq_245 rfl rfl (dk dX6_countFitting 16 rfl) rfl ?_
        have hb5 := hst.fr (fun j h1 h2 => hfr4 j (by omega))
        refine g_callVV F (q := 34) (av := [.ref (ad 1), .int (nI k), .ref (ad 225)]) (st := []) (c_X4_listen (kn := k) g229 h225 g30 g31 g32 g26 g27 g28 hb5 (by first | assumption | decide | omega) (by first | assumption | decide | omega)) kv_X4_listen tq_304 g229 rfl (by omega) ⟨rfl, rfl⟩ (by decide) ⟨Nat.le_refl _, Nat.le_refl _⟩ rfl rfl (Nat.le_of_ble_eq_true rfl) (dk dX6_countFitting 17 rfl) rfl (fun E31 hp31 => ?_)
        obtain ⟨m1_31, th1_31, rd1_31, er1_31, ea1_31, pl1_31, rt1_31, hK229_31, hK230_31, hK231_31, hK232_31, hK225_31, hK226_31, hK227_31, hK228_31, hS_31, hF31⟩ := hp31
        have hcl := hC_le (r := r) (kn := k) ne
        refine g_aload_n F (q := 35) (dk dX6_countFitting 18 rfl) rfl rfl 0 rfl ?_
        have hc6 := (hF31 0 (by omega)).trans hc1
        refine g_getf F (q := 38) hc6 rfl inX6 (by omega) (j := 6) (by decide) tq_246 rfl rfl (dk dX6_countFitting 19 rfl) rfl ?_
        refine g_getf F (q := 41) hK229_31 rfl inX4 (by omega) (j := 3) (by decide) tq_216 rfl rfl (dk dX6_countFitting 20 rfl) rfl ?_
        refine g_iconst F (q := 42) (v := 2) (dk dX6_countFitting 21 rfl) rfl (by decide) ?_
        refine g_icmp_lt F (q := 45) (tgt := 72) (dk dX6_countFitting 22 rfl) (by decide) rfl (fun c42 => ?_) (fun c42 => ?_)
        · have nc42 : (hC r k ne) < 2 := (nI_ltI (a := (hC r k ne)) (b := 2) (by omega) (by omega)).mp c42
          refine g_iinc F (q := 75) (v := (nI ((k + 1)))) (lv' := [(2, .int (nI ((k + 1)))), (0, .ref (ad 0)), (1, .int (nI c1))]) (dk dX6_countFitting 34 rfl) rfl 2 rfl (nI_1 _) (Nat.le_of_ble_eq_true rfl) rfl ?_
          refine g_goto F (tgt := 4) (dk dX6_countFitting 35 rfl) (by decide) ?_
          refine g_lv (lv' := [(0, .ref (ad 0)), (1, .int (nI c1)), (2, .int (nI ((k + 1))))]) [1, 2, 0] rfl ?_
          exact ih (k + 1) c1 m1_31 th1_31 rd1_31 er1_31 (nI ((hC r k ne))) px1 (1000 * (r (46 + 50 * 1 + 5 * k + 3)).toInt64) ls1 gr1 ea1_31 pl1_31 rt1_31 E31 (by omega) hK225_31 hK226_31 hK227_31 hK228_31 hK229_31 hK230_31 hK231_31 hK232_31 (fun j hj => ((hF31 j (by omega)).trans (hfr4 j (by omega)))) (by omega) (by rw [fitN_s, if_neg (fun h => h.1 (by omega)), hc]; rfl)
        · have nc42 : ¬ (hC r k ne) < 2 := fun h => c42 ((nI_ltI (a := (hC r k ne)) (b := 2) (by omega) (by omega)).mpr h)
          refine g_aload_n F (q := 46) (dk dX6_countFitting 23 rfl) rfl rfl 0 rfl ?_
          refine g_getf F (q := 49) hc6 rfl inX6 (by omega) (j := 6) (by decide) tq_246 rfl rfl (dk dX6_countFitting 24 rfl) rfl ?_
          refine g_callVV F (q := 52) (av := []) (st := []) (c_X4_locate hK229_31 hK231_31 hK232_31 (by first | assumption | decide | omega) (by first | assumption | decide | omega)) kv_X4_locate tq_345 hK229_31 rfl (by omega) ⟨rfl, rfl⟩ (by decide) ⟨Nat.le_refl _, Nat.le_refl _⟩ rfl rfl (Nat.le_of_ble_eq_true rfl) (dk dX6_countFitting 25 rfl) rfl (fun E49 hp49 => ?_)
          obtain ⟨hK229_49, hF49⟩ := hp49
          have hc0 : 0 < hC r k ne := by omega
          have hpl := sH_pl (N := 1000) rfl hcn.i hS_31 hc0
          have hms := sH_ms hcn.i hS_31 hc0 (plc_i (r := r) (ne := ne) (nt := nt) (kn := k))
          have h229p : E49 229 = .inr (4, [.ref (ad 230), .ref (ad 231), .ref (ad 232), .int (nI ((hC r k ne))), .long (1000 * (r (46 + 50 * 1 + 5 * k + 3)).toInt64), .int (nI (plc r ne nt k)), .long (lsB r nt k (nI (plc r ne nt k)) ne), .long (msB r nt k (nI (plc r ne nt k)) ne)]) := by have q := hK229_49; rw [hpl, hms.1, hms.2] at q; exact q
          refine g_aload_n F (q := 53) (dk dX6_countFitting 26 rfl) rfl rfl 0 rfl ?_
          have hc7 := (hF49 0 (by omega)).trans hc6
          refine g_getf F (q := 56) hc7 rfl inX6 (by omega) (j := 6) (by decide) tq_246 rfl rfl (dk dX6_countFitting 27 rfl) rfl ?_
          refine g_aload_n F (q := 57) (dk dX6_countFitting 28 rfl) rfl rfl 0 rfl ?_
          refine g_getf F (q := 60) hc7 rfl inX6 (by omega) (j := 0) (by decide) tq_240 rfl rfl (dk dX6_countFitting 29 rfl) rfl ?_
          have hc8 := (hF31 1 (by omega)).trans hc2
          have hc9 := (hF49 1 (by omega)).trans hc8
          refine g_getf F (q := 63) hc9 rfl inX5 (by omega) (j := 9) (by decide) tq_98 rfl rfl (dk dX6_countFitting 30 rfl) rfl ?_
          refine g_callVI F (q := 66) (av := [.int (r 4)]) (st := []) (c_X4_fits (tl := (r 4)) h229p) kv_X4_fits tq_368 h229p rfl (by omega) ⟨rfl, rfl⟩ (by decide) ⟨Nat.le_refl _, Nat.le_refl _⟩ rfl rfl (Nat.le_of_ble_eq_true rfl) (dk dX6_countFitting 31 rfl) rfl (fun r63 E63 hp63 => ?_)
          rcases hp63 with ⟨rfl, rfl, b63⟩ | ⟨rfl, rfl, b63⟩
          · refine g_if_eq F (q := 69) (tgt := 72) (dk dX6_countFitting 32 rfl) (by decide) rfl (fun h => absurd h (by decide)) (fun _ => ?_)
            refine g_iinc F (q := 72) (v := (nI ((c1 + 1)))) (lv' := [(1, .int (nI ((c1 + 1)))), (0, .ref (ad 0)), (2, .int (nI k))]) (dk dX6_countFitting 33 rfl) rfl 1 rfl (nI_1 _) (Nat.le_of_ble_eq_true rfl) rfl ?_
            refine g_iinc F (q := 75) (v := (nI ((k + 1)))) (lv' := [(2, .int (nI ((k + 1)))), (1, .int (nI ((c1 + 1)))), (0, .ref (ad 0))]) (dk dX6_countFitting 34 rfl) rfl 2 rfl (nI_1 _) (Nat.le_of_ble_eq_true rfl) rfl ?_
            refine g_goto F (tgt := 4) (dk dX6_countFitting 35 rfl) (by decide) ?_
            refine g_lv (lv' := [(0, .ref (ad 0)), (1, .int (nI ((c1 + 1)))), (2, .int (nI ((k + 1))))]) [2, 1, 0] rfl ?_
            have hc10 := (hF49 225 (by omega)).trans hK225_31
            have hc11 := (hF49 226 (by omega)).trans hK226_31
            have hc12 := (hF49 227 (by omega)).trans hK227_31
            have hc13 := (hF49 228 (by omega)).trans hK228_31
            have hc14 := (hF49 230 (by omega)).trans hK230_31
            have hc15 := (hF49 231 (by omega)).trans hK231_31
            have hc16 := (hF49 232 (by omega)).trans hK232_31
            exact ih (k + 1) (c1 + 1) m1_31 th1_31 rd1_31 er1_31 (nI ((hC r k ne))) (nI (plc r ne nt k)) (1000 * (r (46 + 50 * 1 + 5 * k + 3)).toInt64) (lsB r nt k (nI (plc r ne nt k)) ne) (msB r nt k (nI (plc r ne nt k)) ne) ea1_31 pl1_31 rt1_31 E49 (by omega) hc10 hc11 hc12 hc13 h229p hc14 hc15 hc16 (fun j hj => (((hF49 j (by omega)).trans (hF31 j (by omega))).trans (hfr4 j (by omega)))) (by omega) (by rw [fitN_s, if_pos (show ¬ hC r k ne < 2 ∧ spW r ne nt k (nI (plc r ne nt k)) ≤ 1000 * (r 4).toInt64 from ⟨by omega, b63⟩), hc])
          · refine g_if_eq F (q := 69) (tgt := 72) (dk dX6_countFitting 32 rfl) (by decide) rfl (fun _ => ?_) (fun h => absurd h (by decide))
            refine g_iinc F (q := 75) (v := (nI ((k + 1)))) (lv' := [(2, .int (nI ((k + 1)))), (0, .ref (ad 0)), (1, .int (nI c1))]) (dk dX6_countFitting 34 rfl) rfl 2 rfl (nI_1 _) (Nat.le_of_ble_eq_true rfl) rfl ?_
            refine g_goto F (tgt := 4) (dk dX6_countFitting 35 rfl) (by decide) ?_
            refine g_lv (lv' := [(0, .ref (ad 0)), (1, .int (nI c1)), (2, .int (nI ((k + 1))))]) [1, 2, 0] rfl ?_
            have hc17 := (hF49 225 (by omega)).trans hK225_31
            have hc18 := (hF49 226 (by omega)).trans hK226_31
            have hc19 := (hF49 227 (by omega)).trans hK227_31
            have hc20 := (hF49 228 (by omega)).trans hK228_31
            have hc21 := (hF49 230 (by omega)).trans hK230_31
            have hc22 := (hF49 231 (by omega)).trans hK231_31
            have hc23 := (hF49 232 (by omega)).trans hK232_31
            exact ih (k + 1) c1 m1_31 th1_31 rd1_31 er1_31 (nI ((hC r k ne))) (nI (plc r ne nt k)) (1000 * (r (46 + 50 * 1 + 5 * k + 3)).toInt64) (lsB r nt k (nI (plc r ne nt k)) ne) (msB r nt k (nI (plc r ne nt k)) ne) ea1_31 pl1_31 rt1_31 E49 (by omega) hc17 hc18 hc19 hc20 h229p hc21 hc22 hc23 (fun j hj => (((hF49 j (by omega)).trans (hF31 j (by omega))).trans (hfr4 j (by omega)))) (by omega) (by rw [fitN_s, if_neg (show ¬ (¬ hC r k ne < 2 ∧ spW r ne nt k (nI (plc r ne nt k)) ≤ 1000 * (r 4).toInt64) from fun h => b63 h.2), hc]; rfl)
  refine g_lv (lv' := [(0, .ref (ad 0)), (1, .int 0), (2, .int 0)]) [2, 1, 0] rfl ?_
  exact K4 _ 0 0 m0 th rd er s0 px pp ls gr ea pl rt E (Nat.lt_succ_self _) h225 hth hrd her h229 hsea hspl hsrt (fun j _ => rfl) (by omega) rfl
theorem kv_X6_countFitting : KV yX6_countFitting "ThumpEars" cX6_countFitting 3 (some .int) 0 := ⟨tq_302, tq_0, tq_9, tq_303, by decide +kernel⟩
abbrev rm_X6_found : Room := { frames := 4, cells := 0, slots := 0, locals := 100 }
set_option maxHeartbeats 4000000 in
set_option maxRecDepth 100000 in
theorem c_X6_found {l : Launch} {D : va_G} {cA : Nat → ClassId} {ad : Nat → Nat} {E : Nat → va_E} {r : Nat → Int32} {ne nt nk nh : Nat} {H : Nat → Nat → Int32} {s1 : Int32} {asd : Nat → Int32} {ln : Nat} {txt : Nat → Int32} {kn what : Int32}  (hco : Core cA ad E r ne nt nk nh H s1 asd ln txt) (hmk : MkP cA ad E) (hsr : SrP cA ad E)  : CtL l D cA yX6_found cX6_found 3 rm_X6_found 235 ad E [.ref (ad 0), .int kn, .int what] (fun x E' => (sFound r ne nt nk kn what) = x ∧ (Core cA ad E' r ne nt nk nh H s1 asd ln txt) ∧ (MkP cA ad E') ∧ (SrP cA ad E') ∧ ∀ j, (233 ≤ j) → E' j = E j) := by
  refine CtL.of (by decide +kernel) (Nat.le_of_ble_eq_true rfl) (fun X F hret => ?_)
  have F : Fr "ThumpEars" cX6_found 3 D cA X := F
  refine (show GG rm_X6_found 3 l D X 0 0 235 ad E 0 [(0, .ref (ad 0)), (1, .int kn), (2, .int what)] [] from ?_)
  have hco2 := hco
  obtain ⟨v, vs, tg, vh, od, po, nu, ar, pla, ti, re, h0, hst, hsn, h73, h74, hhs, h219, h220, h221, h222, h223, h224, htg, hnh, hln, hcn, hhc, hss⟩ := hco2
  have hmk2 := hmk
  obtain ⟨m0, th, rd, er, h225, hth, hrd, her⟩ := hmk2
  have hsr2 := hsr
  obtain ⟨s0, px, pp, ls, gr, ea, pl, rt, h229, hsea, hspl, hsrt⟩ := hsr2
  have hne := hcn.i.e0
  have hnt := hcn.i.e1
  have hnk := hcn.i.e2
  have h1 : E 1 = .inr (5, [.ref (ad 2), .ref (ad 3), .ref (ad 4), .ref (ad 5), .ref (ad 6), .ref (ad 7), .ref (ad 22), .int (nI ne), .int (r 3), .int (r 4), .int (r 5)]) := by have q := hst.o; rw [hcn.n0, hcn.r3, hcn.r4, hcn.r5] at q; exact q
  have h7 : E 7 = .inr (3, [.ref (ad 8), .ref (ad 9), .ref (ad 10), .ref (ad 11), .int (nI nt)]) := by have q := hst.t; rw [hcn.n1] at q; exact q
  have h22 : E 22 = .inr (3, [.ref (ad 23), .ref (ad 24), .ref (ad 25), .ref (ad 26), .int (nI nk)]) := by have q := hst.k; rw [hcn.n2] at q; exact q
  refine g_aload_n F (q := 1) (dk dX6_found 0 rfl) rfl rfl 0 rfl ?_
  refine g_getf F (q := 4) h0 rfl inX6 (by omega) (j := 0) (by decide) tq_240 rfl rfl (dk dX6_found 1 rfl) rfl ?_
  refine g_getf F (q := 7) h1 rfl inX5 (by omega) (j := 6) (by decide) tq_91 rfl rfl (dk dX6_found 2 rfl) rfl ?_
  refine g_iload_n F (q := 8) (dk dX6_found 3 rfl) rfl rfl 1 rfl ?_
  refine g_callVI F (q := 11) (av := [.int kn]) (st := []) (c_X3_has_b (x0 := kn) h22 (by first | assumption | decide | omega)) kv_X3_has tq_390 h22 rfl (by omega) ⟨rfl, rfl⟩ (by decide) ⟨Nat.le_refl _, Nat.le_refl _⟩ rfl rfl (Nat.le_of_ble_eq_true rfl) (dk dX6_found 4 rfl) rfl (fun r8 E8 hp8 => ?_)
  rcases hp8 with ⟨rfl, rfl, b8⟩ | ⟨rfl, rfl, b8⟩
  · obtain ⟨m, hm, rfl⟩ := b8
    refine g_if_ne F (q := 14) (tgt := 19) (dk dX6_found 5 rfl) (by decide) rfl (fun _ => ?_) (fun h => absurd h (by decide))
    refine g_iload_n F (q := 20) (dk dX6_found 9 rfl) rfl rfl 2 rfl ?_
    refine g_iconst F (q := 21) (v := 0) (dk dX6_found 10 rfl) rfl (by decide) ?_
    refine g_iconst F (q := 22) (v := 5) (dk dX6_found 11 rfl) rfl (by decide) ?_
    refine g_callSI F (q := 25) (av := [.int what, .int 0, .int 5]) (st := []) (c_X6_isWithin (y := what) (a := 0) (b := 5)) ks_X6_isWithin tq_266 ⟨rfl, rfl⟩ (by decide) ⟨Nat.le_refl _, Nat.le_refl _⟩ rfl rfl (Nat.le_of_ble_eq_true rfl) (dk dX6_found 12 rfl) rfl (fun r22 E22 hp22 => ?_)
    rcases hp22 with ⟨rfl, rfl, b22⟩ | ⟨rfl, rfl, b22⟩
    · refine g_if_ne F (q := 28) (tgt := 34) (dk dX6_found 13 rfl) (by decide) rfl (fun _ => ?_) (fun h => absurd h (by decide))
      refine g_aload_n F (q := 35) (dk dX6_found 17 rfl) rfl rfl 0 rfl ?_
      refine g_getf F (q := 38) h0 rfl inX6 (by omega) (j := 6) (by decide) tq_246 rfl rfl (dk dX6_found 18 rfl) rfl ?_
      refine g_aload_n F (q := 39) (dk dX6_found 19 rfl) rfl rfl 0 rfl ?_
      refine g_getf F (q := 42) h0 rfl inX6 (by omega) (j := 0) (by decide) tq_240 rfl rfl (dk dX6_found 20 rfl) rfl ?_
      refine g_iload_n F (q := 43) (dk dX6_found 21 rfl) rfl rfl 1 rfl ?_
      refine g_aload_n F (q := 44) (dk dX6_found 22 rfl) rfl rfl 0 rfl ?_
      refine g_getf F (q := 47) h0 rfl inX6 (by omega) (j := 5) (by decide) tq_245 rfl rfl (dk dX6_found 23 rfl) rfl ?_
      refine g_callVV F (q := 50) (av := [.ref (ad 1), .int (nI m), .ref (ad 225)]) (st := []) (c_X4_listen (kn := m) h229 h225 hsea hspl hsrt hth hrd her hst (by first | assumption | decide | omega) (by first | assumption | decide | omega)) kv_X4_listen tq_304 h229 rfl (by omega) ⟨rfl, rfl⟩ (by decide) ⟨Nat.le_refl _, Nat.le_refl _⟩ rfl rfl (Nat.le_of_ble_eq_true rfl) (dk dX6_found 24 rfl) rfl (fun E47 hp47 => ?_)
      obtain ⟨m1_47, th1_47, rd1_47, er1_47, ea1_47, pl1_47, rt1_47, hK229_47, hK230_47, hK231_47, hK232_47, hK225_47, hK226_47, hK227_47, hK228_47, hS_47, hF47⟩ := hp47
      have hcl := hC_le (r := r) (kn := m) ne
      refine g_iload_n F (q := 51) (dk dX6_found 25 rfl) rfl rfl 2 rfl ?_
      refine g_iconst F (q := 52) (v := 3) (dk dX6_found 26 rfl) rfl (by decide) ?_
      refine g_icmp_ne F (q := 55) (tgt := 64) (dk dX6_found 27 rfl) (by decide) rfl (fun c52 => ?_) (fun c52 => ?_)
      · refine g_aload_n F (q := 65) (dk dX6_found 33 rfl) rfl rfl 0 rfl ?_
        have hc1 := (hF47 0 (by omega)).trans h0
        refine g_getf F (q := 68) hc1 rfl inX6 (by omega) (j := 6) (by decide) tq_246 rfl rfl (dk dX6_found 34 rfl) rfl ?_
        refine g_getf F (q := 71) hK229_47 rfl inX4 (by omega) (j := 3) (by decide) tq_216 rfl rfl (dk dX6_found 35 rfl) rfl ?_
        refine g_iconst F (q := 72) (v := 2) (dk dX6_found 36 rfl) rfl (by decide) ?_
        refine g_icmp_ge F (q := 75) (tgt := 81) (dk dX6_found 37 rfl) (by decide) rfl (fun c72 => ?_) (fun c72 => ?_)
        · have nc72 : 2 ≤ (hC r m ne) := (nI_leI (a := 2) (b := (hC r m ne)) (by omega) (by omega)).mp c72
          refine g_aload_n F (q := 82) (dk dX6_found 41 rfl) rfl rfl 0 rfl ?_
          refine g_getf F (q := 85) hc1 rfl inX6 (by omega) (j := 6) (by decide) tq_246 rfl rfl (dk dX6_found 42 rfl) rfl ?_
          refine g_callVV F (q := 88) (av := []) (st := []) (c_X4_locate hK229_47 hK231_47 hK232_47 (by first | assumption | decide | omega) (by first | assumption | decide | omega)) kv_X4_locate tq_345 hK229_47 rfl (by omega) ⟨rfl, rfl⟩ (by decide) ⟨Nat.le_refl _, Nat.le_refl _⟩ rfl rfl (Nat.le_of_ble_eq_true rfl) (dk dX6_found 43 rfl) rfl (fun E85 hp85 => ?_)
          obtain ⟨hK229_85, hF85⟩ := hp85
          have hc0 : 0 < hC r m ne := by omega
          have hpl := sH_pl (N := 1000) rfl hcn.i hS_47 hc0
          have hms := sH_ms hcn.i hS_47 hc0 (plc_i (r := r) (ne := ne) (nt := nt) (kn := m))
          have h229p : E85 229 = .inr (4, [.ref (ad 230), .ref (ad 231), .ref (ad 232), .int (nI ((hC r m ne))), .long (1000 * (r (46 + 50 * 1 + 5 * m + 3)).toInt64), .int (nI (plc r ne nt m)), .long (lsB r nt m (nI (plc r ne nt m)) ne), .long (msB r nt m (nI (plc r ne nt m)) ne)]) := by have q := hK229_85; rw [hpl, hms.1, hms.2] at q; exact q
          refine g_iload_n F (q := 89) (dk dX6_found 44 rfl) rfl rfl 2 rfl ?_
          rcases sw_split what (0) 4 with hsw | ⟨jsw, hlt, hsw⟩
          · refine g_tabOut F (tgt := 172) (dk dX6_found 45 rfl) (by omega) (by decide) ?_
            have hq0 : ¬ what = 0 := fun h => by rw [h] at hsw; revert hsw; decide
            have hq1 : ¬ what = 1 := fun h => by rw [h] at hsw; revert hsw; decide
            have hq2 : ¬ what = 2 := fun h => by rw [h] at hsw; revert hsw; decide
            have hq4 : ¬ what = 4 := fun h => by rw [h] at hsw; revert hsw; decide
            refine g_aload_n F (q := 173) (dk dX6_found 70 rfl) rfl rfl 0 rfl ?_
            have hc2 := (hF85 0 (by omega)).trans hc1
            refine g_getf F (q := 176) hc2 rfl inX6 (by omega) (j := 6) (by decide) tq_246 rfl rfl (dk dX6_found 71 rfl) rfl ?_
            have hc3 := (hF85 231 (by omega)).trans hK231_47
            have hc4 := (hF85 232 (by omega)).trans hK232_47
            have hc5 := (hF85 230 (by omega)).trans hK230_47
            refine g_callVI F (q := 179) (av := []) (st := []) (c_X4_worstEar h229p hc3 hc4 hc5 (by first | assumption | decide | omega) (by first | assumption | decide | omega)) kv_X4_worstEar tq_486 h229p rfl (by omega) ⟨rfl, rfl⟩ (by decide) ⟨Nat.le_refl _, Nat.le_refl _⟩ rfl rfl (Nat.le_of_ble_eq_true rfl) (dk dX6_found 72 rfl) rfl (fun r176 E176 hp176 => ?_)
            obtain ⟨rfl, rfl⟩ := hp176
            refine g_sti (y := (nI ((wrE r ne nt m (nI (plc r ne nt m)) (tmK r ne nt m (nI (plc r ne nt m))))))) (by rw [tm_of]; exact sH_wr hcn.i hS_47 hc0 plc_i) ?_
            refine g_i2l F (q := 180) (dk dX6_found 73 rfl) rfl ?_
            have hb6 := hco.fr (fun j h1 h2 => hF47 j (by omega))
            have hb7 := hb6.fr (fun j h1 h2 => hF85 j (by omega))
            have hc8 := (hF85 225 (by omega)).trans hK225_47
            have hc9 := (hF85 226 (by omega)).trans hK226_47
            have hc10 := (hF85 227 (by omega)).trans hK227_47
            have hc11 := (hF85 228 (by omega)).trans hK228_47
            refine hret (nI ((wrE r ne nt m (nI (plc r ne nt m)) (tmK r ne nt m (nI (plc r ne nt m)))))).toInt64 E85 _ _ (dk dX6_found 74 rfl) ?_
            exact ⟨(by unfold sFound; rw [if_neg (ixN hm (by omega)), nI_c (by omega), if_neg (fun h => h b22), if_neg c52, if_neg (by omega), if_neg hq0, if_neg hq1, if_neg hq2, if_neg hq4]), hb7, ⟨_, _, _, _, hc8, hc9, hc10, hc11⟩, ⟨_, _, _, _, _, _, _, _, h229p, hc5, hc3, hc4⟩, (fun j hj => ((hF85 j (by omega)).trans (hF47 j (by omega))))⟩
          · rcases (show jsw = 0 ∨ jsw = 1 ∨ jsw = 2 ∨ jsw = 3 ∨ jsw = 4 by omega) with rfl | rfl | rfl | rfl | rfl
            · have hx : what = 0 := by rw [hsw]; decide
              refine g_tabIn F (tgt := 124) (off := 35) (dk dX6_found 45 rfl) (by rw [hx]; decide) (by rw [hx]; decide) (by rw [hx]; decide) (by decide) ?_
              refine g_aload_n F (q := 125) (dk dX6_found 46 rfl) rfl rfl 0 rfl ?_
              have hc12 := (hF85 0 (by omega)).trans hc1
              refine g_getf F (q := 128) hc12 rfl inX6 (by omega) (j := 6) (by decide) tq_246 rfl rfl (dk dX6_found 47 rfl) rfl ?_
              refine g_getf F (q := 131) h229p rfl inX4 (by omega) (j := 5) (by decide) tq_219 rfl rfl (dk dX6_found 48 rfl) rfl ?_
              refine g_i2l F (q := 132) (dk dX6_found 49 rfl) rfl ?_
              have hb13 := hco.fr (fun j h1 h2 => hF47 j (by omega))
              have hb14 := hb13.fr (fun j h1 h2 => hF85 j (by omega))
              have hc15 := (hF85 225 (by omega)).trans hK225_47
              have hc16 := (hF85 226 (by omega)).trans hK226_47
              have hc17 := (hF85 227 (by omega)).trans hK227_47
              have hc18 := (hF85 228 (by omega)).trans hK228_47
              have hc19 := (hF85 230 (by omega)).trans hK230_47
              have hc20 := (hF85 231 (by omega)).trans hK231_47
              have hc21 := (hF85 232 (by omega)).trans hK232_47
              refine hret (nI (plc r ne nt m)).toInt64 E85 _ _ (dk dX6_found 50 rfl) ?_
              exact ⟨(by unfold sFound; rw [hx, if_neg (ixN hm (by omega)), nI_c (by omega), if_neg (by decide), if_neg (by decide), if_neg (by omega), if_pos rfl]), hb14, ⟨_, _, _, _, hc15, hc16, hc17, hc18⟩, ⟨_, _, _, _, _, _, _, _, h229p, hc19, hc20, hc21⟩, (fun j hj => ((hF85 j (by omega)).trans (hF47 j (by omega))))⟩
            · have hx : what = 1 := by rw [hsw]; decide
              refine g_tabIn F (tgt := 133) (off := 44) (dk dX6_found 45 rfl) (by rw [hx]; decide) (by rw [hx]; decide) (by rw [hx]; decide) (by decide) ?_
              refine g_aload_n F (q := 134) (dk dX6_found 51 rfl) rfl rfl 0 rfl ?_
              have hc22 := (hF85 0 (by omega)).trans hc1
              refine g_getf F (q := 137) hc22 rfl inX6 (by omega) (j := 6) (by decide) tq_246 rfl rfl (dk dX6_found 52 rfl) rfl ?_
              refine g_callVL F (q := 140) (av := []) (st := []) (c_X4_time h229p) kv_X4_time tq_479 h229p rfl (by omega) ⟨rfl, rfl⟩ (by decide) ⟨Nat.le_refl _, Nat.le_refl _⟩ rfl rfl (Nat.le_of_ble_eq_true rfl) (dk dX6_found 53 rfl) rfl (fun r137 E137 hp137 => ?_)
              obtain ⟨rfl, rfl⟩ := hp137
              refine g_stl (y := (tmK r ne nt m (nI (plc r ne nt m)))) tm_of ?_
              have hb23 := hco.fr (fun j h1 h2 => hF47 j (by omega))
              have hb24 := hb23.fr (fun j h1 h2 => hF85 j (by omega))
              have hc25 := (hF85 225 (by omega)).trans hK225_47
              have hc26 := (hF85 226 (by omega)).trans hK226_47
              have hc27 := (hF85 227 (by omega)).trans hK227_47
              have hc28 := (hF85 228 (by omega)).trans hK228_47
              have hc29 := (hF85 230 (by omega)).trans hK230_47
              have hc30 := (hF85 231 (by omega)).trans hK231_47
              have hc31 := (hF85 232 (by omega)).trans hK232_47
              refine hret (tmK r ne nt m (nI (plc r ne nt m))) E85 _ _ (dk dX6_found 54 rfl) ?_
              exact ⟨(by unfold sFound; rw [hx, if_neg (ixN hm (by omega)), nI_c (by omega), if_neg (by decide), if_neg (by decide), if_neg (by omega), if_neg (by decide), if_pos rfl]), hb24, ⟨_, _, _, _, hc25, hc26, hc27, hc28⟩, ⟨_, _, _, _, _, _, _, _, h229p, hc29, hc30, hc31⟩, (fun j hj => ((hF85 j (by omega)).trans (hF47 j (by omega))))⟩
            · have hx : what = 2 := by rw [hsw]; decide
              refine g_tabIn F (tgt := 141) (off := 52) (dk dX6_found 45 rfl) (by rw [hx]; decide) (by rw [hx]; decide) (by rw [hx]; decide) (by decide) ?_
              refine g_aload_n F (q := 142) (dk dX6_found 55 rfl) rfl rfl 0 rfl ?_
              have hc32 := (hF85 0 (by omega)).trans hc1
              refine g_getf F (q := 145) hc32 rfl inX6 (by omega) (j := 6) (by decide) tq_246 rfl rfl (dk dX6_found 56 rfl) rfl ?_
              refine g_callVL F (q := 148) (av := []) (st := []) (c_X4_width h229p) kv_X4_width tq_485 h229p rfl (by omega) ⟨rfl, rfl⟩ (by decide) ⟨Nat.le_refl _, Nat.le_refl _⟩ rfl rfl (Nat.le_of_ble_eq_true rfl) (dk dX6_found 57 rfl) rfl (fun r145 E145 hp145 => ?_)
              obtain ⟨rfl, rfl⟩ := hp145
              refine g_stl (y := (spW r ne nt m (nI (plc r ne nt m)))) rfl ?_
              have hb33 := hco.fr (fun j h1 h2 => hF47 j (by omega))
              have hb34 := hb33.fr (fun j h1 h2 => hF85 j (by omega))
              have hc35 := (hF85 225 (by omega)).trans hK225_47
              have hc36 := (hF85 226 (by omega)).trans hK226_47
              have hc37 := (hF85 227 (by omega)).trans hK227_47
              have hc38 := (hF85 228 (by omega)).trans hK228_47
              have hc39 := (hF85 230 (by omega)).trans hK230_47
              have hc40 := (hF85 231 (by omega)).trans hK231_47
              have hc41 := (hF85 232 (by omega)).trans hK232_47
              refine hret (spW r ne nt m (nI (plc r ne nt m))) E85 _ _ (dk dX6_found 58 rfl) ?_
              exact ⟨(by unfold sFound; rw [hx, if_neg (ixN hm (by omega)), nI_c (by omega), if_neg (by decide), if_neg (by decide), if_neg (by omega), if_neg (by decide), if_neg (by decide), if_pos rfl]), hb34, ⟨_, _, _, _, hc35, hc36, hc37, hc38⟩, ⟨_, _, _, _, _, _, _, _, h229p, hc39, hc40, hc41⟩, (fun j hj => ((hF85 j (by omega)).trans (hF47 j (by omega))))⟩
            · have hx : what = 3 := by rw [hsw]; decide
              refine g_tabIn F (tgt := 172) (off := 83) (dk dX6_found 45 rfl) (by rw [hx]; decide) (by rw [hx]; decide) (by rw [hx]; decide) (by decide) ?_
              exact absurd hx c52
            · have hx : what = 4 := by rw [hsw]; decide
              refine g_tabIn F (tgt := 149) (off := 60) (dk dX6_found 45 rfl) (by rw [hx]; decide) (by rw [hx]; decide) (by rw [hx]; decide) (by decide) ?_
              refine g_aload_n F (q := 150) (dk dX6_found 59 rfl) rfl rfl 0 rfl ?_
              have hc42 := (hF85 0 (by omega)).trans hc1
              refine g_getf F (q := 153) hc42 rfl inX6 (by omega) (j := 6) (by decide) tq_246 rfl rfl (dk dX6_found 60 rfl) rfl ?_
              refine g_aload_n F (q := 154) (dk dX6_found 61 rfl) rfl rfl 0 rfl ?_
              refine g_getf F (q := 157) hc42 rfl inX6 (by omega) (j := 0) (by decide) tq_240 rfl rfl (dk dX6_found 62 rfl) rfl ?_
              have hc43 := (hF47 1 (by omega)).trans h1
              have hc44 := (hF85 1 (by omega)).trans hc43
              refine g_getf F (q := 160) hc44 rfl inX5 (by omega) (j := 9) (by decide) tq_98 rfl rfl (dk dX6_found 63 rfl) rfl ?_
              refine g_callVI F (q := 163) (av := [.int (r 4)]) (st := []) (c_X4_fits (tl := (r 4)) h229p) kv_X4_fits tq_368 h229p rfl (by omega) ⟨rfl, rfl⟩ (by decide) ⟨Nat.le_refl _, Nat.le_refl _⟩ rfl rfl (Nat.le_of_ble_eq_true rfl) (dk dX6_found 64 rfl) rfl (fun r160 E160 hp160 => ?_)
              rcases hp160 with ⟨rfl, rfl, b160⟩ | ⟨rfl, rfl, b160⟩
              · refine g_if_eq F (q := 166) (tgt := 170) (dk dX6_found 65 rfl) (by decide) rfl (fun h => absurd h (by decide)) (fun _ => ?_)
                refine g_lconst F (q := 167) (v := 1) (dk dX6_found 66 rfl) rfl (by decide) ?_
                refine g_goto F (tgt := 171) (dk dX6_found 67 rfl) (by decide) ?_
                have hb45 := hco.fr (fun j h1 h2 => hF47 j (by omega))
                have hb46 := hb45.fr (fun j h1 h2 => hF85 j (by omega))
                have hc47 := (hF85 225 (by omega)).trans hK225_47
                have hc48 := (hF85 226 (by omega)).trans hK226_47
                have hc49 := (hF85 227 (by omega)).trans hK227_47
                have hc50 := (hF85 228 (by omega)).trans hK228_47
                have hc51 := (hF85 230 (by omega)).trans hK230_47
                have hc52 := (hF85 231 (by omega)).trans hK231_47
                have hc53 := (hF85 232 (by omega)).trans hK232_47
                refine hret 1 E85 _ _ (dk dX6_found 69 rfl) ?_
                exact ⟨(by unfold sFound; rw [hx, if_neg (ixN hm (by omega)), nI_c (by omega), if_neg (by decide), if_neg (by decide), if_neg (by omega), if_neg (by decide), if_neg (by decide), if_neg (by decide), if_pos rfl, if_pos (show spW r ne nt m (nI (plc r ne nt m)) ≤ 1000 * (r 4).toInt64 from b160)]), hb46, ⟨_, _, _, _, hc47, hc48, hc49, hc50⟩, ⟨_, _, _, _, _, _, _, _, h229p, hc51, hc52, hc53⟩, (fun j hj => ((hF85 j (by omega)).trans (hF47 j (by omega))))⟩
              · refine g_if_eq F (q := 166) (tgt := 170) (dk dX6_found 65 rfl) (by decide) rfl (fun _ => ?_) (fun h => absurd h (by decide))
                refine g_lconst F (q := 171) (v := 0) (dk dX6_found 68 rfl) rfl (by decide) ?_
                have hb54 := hco.fr (fun j h1 h2 => hF47 j (by omega))
                have hb55 := hb54.fr (fun j h1 h2 => hF85 j (by omega))
                have hc56 := (hF85 225 (by omega)).trans hK225_47
                have hc57 := (hF85 226 (by omega)).trans hK226_47
                have hc58 := (hF85 227 (by omega)).trans hK227_47
                have hc59 := (hF85 228 (by omega)).trans hK228_47
                have hc60 := (hF85 230 (by omega)).trans hK230_47
                have hc61 := (hF85 231 (by omega)).trans hK231_47
                have hc62 := (hF85 232 (by omega)).trans hK232_47
                refine hret 0 E85 _ _ (dk dX6_found 69 rfl) ?_
                exact ⟨(by unfold sFound; rw [hx, if_neg (ixN hm (by omega)), nI_c (by omega), if_neg (by decide), if_neg (by decide), if_neg (by omega), if_neg (by decide), if_neg (by decide), if_neg (by decide), if_pos rfl, if_neg (show ¬ spW r ne nt m (nI (plc r ne nt m)) ≤ 1000 * (r 4).toInt64 from b160)]), hb55, ⟨_, _, _, _, hc56, hc57, hc58, hc59⟩, ⟨_, _, _, _, _, _, _, _, h229p, hc60, hc61, hc62⟩, (fun j hj => ((hF85 j (by omega)).trans (hF47 j (by omega))))⟩
        · have nc72 : ¬ 2 ≤ (hC r m ne) := fun h => c72 ((nI_leI (a := 2) (b := (hC r m ne)) (by omega) (by omega)).mpr h)
          refine g_bipush F (q := 77) (v := (-4)) (dk dX6_found 38 rfl) rfl (by decide) ?_
          refine g_callSL F (q := 80) (av := [.int (-4)]) (st := []) (c_X6_longError (a := (-4))) ks_X6_longError tq_425 ⟨rfl, rfl⟩ (by decide) ⟨Nat.le_refl _, Nat.le_refl _⟩ rfl rfl (Nat.le_of_ble_eq_true rfl) (dk dX6_found 39 rfl) rfl (fun r77 E77 hp77 => ?_)
          obtain ⟨rfl, rfl⟩ := hp77
          have hb63 := hco.fr (fun j h1 h2 => hF47 j (by omega))
          refine hret (toldAs (-4)) E47 _ _ (dk dX6_found 40 rfl) ?_
          exact ⟨(by unfold sFound; rw [if_neg (ixN hm (by omega)), nI_c (by omega), if_neg (fun h => h b22), if_neg c52, if_pos (by omega)]), hb63, ⟨_, _, _, _, hK225_47, hK226_47, hK227_47, hK228_47⟩, ⟨_, _, _, _, _, _, _, _, hK229_47, hK230_47, hK231_47, hK232_47⟩, (fun j hj => (hF47 j (by omega)))⟩
      · refine g_aload_n F (q := 56) (dk dX6_found 28 rfl) rfl rfl 0 rfl ?_
        have hc64 := (hF47 0 (by omega)).trans h0
        refine g_getf F (q := 59) hc64 rfl inX6 (by omega) (j := 6) (by decide) tq_246 rfl rfl (dk dX6_found 29 rfl) rfl ?_
        refine g_getf F (q := 62) hK229_47 rfl inX4 (by omega) (j := 3) (by decide) tq_216 rfl rfl (dk dX6_found 30 rfl) rfl ?_
        refine g_i2l F (q := 63) (dk dX6_found 31 rfl) rfl ?_
        have hb65 := hco.fr (fun j h1 h2 => hF47 j (by omega))
        refine hret (nI ((hC r m ne))).toInt64 E47 _ _ (dk dX6_found 32 rfl) ?_
        exact ⟨(by unfold sFound; rw [if_neg (ixN hm (by omega)), nI_c (by omega), if_neg (fun h => h b22), if_pos c52]), hb65, ⟨_, _, _, _, hK225_47, hK226_47, hK227_47, hK228_47⟩, ⟨_, _, _, _, _, _, _, _, hK229_47, hK230_47, hK231_47, hK232_47⟩, (fun j hj => (hF47 j (by omega)))⟩
    · refine g_if_ne F (q := 28) (tgt := 34) (dk dX6_found 13 rfl) (by decide) rfl (fun h => absurd h (by decide)) (fun _ => ?_)
      refine g_bipush F (q := 30) (v := (-2)) (dk dX6_found 14 rfl) rfl (by decide) ?_
      refine g_callSL F (q := 33) (av := [.int (-2)]) (st := []) (c_X6_longError (a := (-2))) ks_X6_longError tq_425 ⟨rfl, rfl⟩ (by decide) ⟨Nat.le_refl _, Nat.le_refl _⟩ rfl rfl (Nat.le_of_ble_eq_true rfl) (dk dX6_found 15 rfl) rfl (fun r30 E30 hp30 => ?_)
      obtain ⟨rfl, rfl⟩ := hp30
      refine hret (toldAs (-2)) E _ _ (dk dX6_found 16 rfl) ?_
      exact ⟨(by unfold sFound; rw [if_neg (ixN hm (by omega)), nI_c (by omega), if_pos b22]), hco, hmk, hsr, (fun j _ => rfl)⟩
  · refine g_if_ne F (q := 14) (tgt := 19) (dk dX6_found 5 rfl) (by decide) rfl (fun h => absurd h (by decide)) (fun _ => ?_)
    refine g_iconst F (q := 15) (v := (-1)) (dk dX6_found 6 rfl) rfl (by decide) ?_
    refine g_callSL F (q := 18) (av := [.int (-1)]) (st := []) (c_X6_longError (a := (-1))) ks_X6_longError tq_425 ⟨rfl, rfl⟩ (by decide) ⟨Nat.le_refl _, Nat.le_refl _⟩ rfl rfl (Nat.le_of_ble_eq_true rfl) (dk dX6_found 7 rfl) rfl (fun r15 E15 hp15 => ?_)
    obtain ⟨rfl, rfl⟩ := hp15
    refine hret (toldAs (-1)) E _ _ (dk dX6_found 8 rfl) ?_
    exact ⟨(by unfold sFound; rw [if_pos b8]), hco, hmk, hsr, (fun j _ => rfl)⟩
theorem kv_X6_found : KV yX6_found "ThumpEars" cX6_found 3 (some .long) 2 := ⟨tq_476, tq_477, tq_9, tq_478, by decide +kernel⟩
abbrev rm_X6_spread : Room := { frames := 4, cells := 0, slots := 0, locals := 100 }
set_option maxHeartbeats 4000000 in
set_option maxRecDepth 100000 in
theorem c_X6_spread {l : Launch} {D : va_G} {cA : Nat → ClassId} {ad : Nat → Nat} {E : Nat → va_E} {r : Nat → Int32} {ne nt nk nh : Nat} {H : Nat → Nat → Int32} {s1 : Int32} {asd : Nat → Int32} {ln : Nat} {txt : Nat → Int32} {kn w0 : Int32}  (hco : Core cA ad E r ne nt nk nh H s1 asd ln txt) (hmk : MkP cA ad E) (hsr : SrP cA ad E)  : CtL l D cA yX6_spread cX6_spread 3 rm_X6_spread 235 ad E [.ref (ad 0), .int kn, .int w0] (fun x E' => (sSpread r ne nt nk kn w0) = x ∧ (Core cA ad E' r ne nt nk nh H s1 asd ln txt) ∧ (MkP cA ad E') ∧ (SrP cA ad E') ∧ ∀ j, (233 ≤ j) → E' j = E j) := by
  refine CtL.of (by decide +kernel) (Nat.le_of_ble_eq_true rfl) (fun X F hret => ?_)
  have F : Fr "ThumpEars" cX6_spread 3 D cA X := F
  refine (show GG rm_X6_spread 3 l D X 0 0 235 ad E 0 [(0, .ref (ad 0)), (1, .int kn), (2, .int w0)] [] from ?_)
  have hco2 := hco
  obtain ⟨v, vs, tg, vh, od, po, nu, ar, pla, ti, re, h0, hst, hsn, h73, h74, hhs, h219, h220, h221, h222, h223, h224, htg, hnh, hln, hcn, hhc, hss⟩ := hco2
  have hmk2 := hmk
  obtain ⟨m0, th, rd, er, h225, hth, hrd, her⟩ := hmk2
  have hsr2 := hsr
  obtain ⟨s0, px, pp, ls, gr, ea, pl, rt, h229, hsea, hspl, hsrt⟩ := hsr2
  have hne := hcn.i.e0
  have hnt := hcn.i.e1
  have hnk := hcn.i.e2
  have h1 : E 1 = .inr (5, [.ref (ad 2), .ref (ad 3), .ref (ad 4), .ref (ad 5), .ref (ad 6), .ref (ad 7), .ref (ad 22), .int (nI ne), .int (r 3), .int (r 4), .int (r 5)]) := by have q := hst.o; rw [hcn.n0, hcn.r3, hcn.r4, hcn.r5] at q; exact q
  have h7 : E 7 = .inr (3, [.ref (ad 8), .ref (ad 9), .ref (ad 10), .ref (ad 11), .int (nI nt)]) := by have q := hst.t; rw [hcn.n1] at q; exact q
  have h22 : E 22 = .inr (3, [.ref (ad 23), .ref (ad 24), .ref (ad 25), .ref (ad 26), .int (nI nk)]) := by have q := hst.k; rw [hcn.n2] at q; exact q
  refine g_aload_n F (q := 1) (dk dX6_spread 0 rfl) rfl rfl 0 rfl ?_
  refine g_getf F (q := 4) h0 rfl inX6 (by omega) (j := 0) (by decide) tq_240 rfl rfl (dk dX6_spread 1 rfl) rfl ?_
  refine g_getf F (q := 7) h1 rfl inX5 (by omega) (j := 6) (by decide) tq_91 rfl rfl (dk dX6_spread 2 rfl) rfl ?_
  refine g_iload_n F (q := 8) (dk dX6_spread 3 rfl) rfl rfl 1 rfl ?_
  refine g_callVI F (q := 11) (av := [.int kn]) (st := []) (c_X3_has_b (x0 := kn) h22 (by first | assumption | decide | omega)) kv_X3_has tq_390 h22 rfl (by omega) ⟨rfl, rfl⟩ (by decide) ⟨Nat.le_refl _, Nat.le_refl _⟩ rfl rfl (Nat.le_of_ble_eq_true rfl) (dk dX6_spread 4 rfl) rfl (fun r8 E8 hp8 => ?_)
  rcases hp8 with ⟨rfl, rfl, b8⟩ | ⟨rfl, rfl, b8⟩
  · obtain ⟨m, hm, rfl⟩ := b8
    refine g_if_ne F (q := 14) (tgt := 19) (dk dX6_spread 5 rfl) (by decide) rfl (fun _ => ?_) (fun h => absurd h (by decide))
    refine g_iload_n F (q := 20) (dk dX6_spread 9 rfl) rfl rfl 2 rfl ?_
    refine g_iconst F (q := 21) (v := 0) (dk dX6_spread 10 rfl) rfl (by decide) ?_
    refine g_sipush F (q := 24) (v := 1000) (dk dX6_spread 11 rfl) rfl (by decide) ?_
    refine g_callSI F (q := 27) (av := [.int w0, .int 0, .int 1000]) (st := []) (c_X6_isWithin (y := w0) (a := 0) (b := 1000)) ks_X6_isWithin tq_266 ⟨rfl, rfl⟩ (by decide) ⟨Nat.le_refl _, Nat.le_refl _⟩ rfl rfl (Nat.le_of_ble_eq_true rfl) (dk dX6_spread 12 rfl) rfl (fun r24 E24 hp24 => ?_)
    rcases hp24 with ⟨rfl, rfl, b24⟩ | ⟨rfl, rfl, b24⟩
    · refine g_if_ne F (q := 30) (tgt := 36) (dk dX6_spread 13 rfl) (by decide) rfl (fun _ => ?_) (fun h => absurd h (by decide))
      refine g_aload_n F (q := 37) (dk dX6_spread 17 rfl) rfl rfl 0 rfl ?_
      refine g_getf F (q := 40) h0 rfl inX6 (by omega) (j := 6) (by decide) tq_246 rfl rfl (dk dX6_spread 18 rfl) rfl ?_
      refine g_aload_n F (q := 41) (dk dX6_spread 19 rfl) rfl rfl 0 rfl ?_
      refine g_getf F (q := 44) h0 rfl inX6 (by omega) (j := 0) (by decide) tq_240 rfl rfl (dk dX6_spread 20 rfl) rfl ?_
      refine g_iload_n F (q := 45) (dk dX6_spread 21 rfl) rfl rfl 1 rfl ?_
      refine g_aload_n F (q := 46) (dk dX6_spread 22 rfl) rfl rfl 0 rfl ?_
      refine g_getf F (q := 49) h0 rfl inX6 (by omega) (j := 5) (by decide) tq_245 rfl rfl (dk dX6_spread 23 rfl) rfl ?_
      refine g_callVV F (q := 52) (av := [.ref (ad 1), .int (nI m), .ref (ad 225)]) (st := []) (c_X4_listen (kn := m) h229 h225 hsea hspl hsrt hth hrd her hst (by first | assumption | decide | omega) (by first | assumption | decide | omega)) kv_X4_listen tq_304 h229 rfl (by omega) ⟨rfl, rfl⟩ (by decide) ⟨Nat.le_refl _, Nat.le_refl _⟩ rfl rfl (Nat.le_of_ble_eq_true rfl) (dk dX6_spread 24 rfl) rfl (fun E49 hp49 => ?_)
      obtain ⟨m1_49, th1_49, rd1_49, er1_49, ea1_49, pl1_49, rt1_49, hK229_49, hK230_49, hK231_49, hK232_49, hK225_49, hK226_49, hK227_49, hK228_49, hS_49, hF49⟩ := hp49
      have hcl := hC_le (r := r) (kn := m) ne
      refine g_aload_n F (q := 53) (dk dX6_spread 25 rfl) rfl rfl 0 rfl ?_
      have hc1 := (hF49 0 (by omega)).trans h0
      refine g_getf F (q := 56) hc1 rfl inX6 (by omega) (j := 6) (by decide) tq_246 rfl rfl (dk dX6_spread 26 rfl) rfl ?_
      refine g_getf F (q := 59) hK229_49 rfl inX4 (by omega) (j := 3) (by decide) tq_216 rfl rfl (dk dX6_spread 27 rfl) rfl ?_
      refine g_iconst F (q := 60) (v := 2) (dk dX6_spread 28 rfl) rfl (by decide) ?_
      refine g_icmp_ge F (q := 63) (tgt := 69) (dk dX6_spread 29 rfl) (by decide) rfl (fun c60 => ?_) (fun c60 => ?_)
      · have nc60 : 2 ≤ (hC r m ne) := (nI_leI (a := 2) (b := (hC r m ne)) (by omega) (by omega)).mp c60
        have hc0 : 0 < hC r m ne := by omega
        refine g_aload_n F (q := 70) (dk dX6_spread 33 rfl) rfl rfl 0 rfl ?_
        refine g_getf F (q := 73) hc1 rfl inX6 (by omega) (j := 6) (by decide) tq_246 rfl rfl (dk dX6_spread 34 rfl) rfl ?_
        refine g_iload_n F (q := 74) (dk dX6_spread 35 rfl) rfl rfl 2 rfl ?_
        refine g_callVV F (q := 77) (av := [.int w0]) (st := []) (c_X4_lookFrom (y := w0) hK229_49 hK231_49 hK232_49 (by first | assumption | decide | omega) (by first | assumption | decide | omega)) kv_X4_lookFrom tq_499 hK229_49 rfl (by omega) ⟨rfl, rfl⟩ (by decide) ⟨Nat.le_refl _, Nat.le_refl _⟩ rfl rfl (Nat.le_of_ble_eq_true rfl) (dk dX6_spread 36 rfl) rfl (fun E74 hp74 => ?_)
        obtain ⟨hK229_74, hF74⟩ := hp74
        refine g_aload_n F (q := 78) (dk dX6_spread 37 rfl) rfl rfl 0 rfl ?_
        have hc2 := (hF74 0 (by omega)).trans hc1
        refine g_getf F (q := 81) hc2 rfl inX6 (by omega) (j := 6) (by decide) tq_246 rfl rfl (dk dX6_spread 38 rfl) rfl ?_
        refine g_callVL F (q := 84) (av := []) (st := []) (c_X4_width hK229_74) kv_X4_width tq_485 hK229_74 rfl (by omega) ⟨rfl, rfl⟩ (by decide) ⟨Nat.le_refl _, Nat.le_refl _⟩ rfl rfl (Nat.le_of_ble_eq_true rfl) (dk dX6_spread 39 rfl) rfl (fun r81 E81 hp81 => ?_)
        obtain ⟨rfl, rfl⟩ := hp81
        refine g_stl (y := (spW r ne nt m w0)) (sH_sp hcn.i hS_49 hc0 (i32le (by decide) (by decide) b24)) ?_
        have hb3 := hco.fr (fun j h1 h2 => hF49 j (by omega))
        have hb4 := hb3.fr (fun j h1 h2 => hF74 j (by omega))
        have hc5 := (hF74 225 (by omega)).trans hK225_49
        have hc6 := (hF74 226 (by omega)).trans hK226_49
        have hc7 := (hF74 227 (by omega)).trans hK227_49
        have hc8 := (hF74 228 (by omega)).trans hK228_49
        have hc9 := (hF74 230 (by omega)).trans hK230_49
        have hc10 := (hF74 231 (by omega)).trans hK231_49
        have hc11 := (hF74 232 (by omega)).trans hK232_49
        refine hret (spW r ne nt m w0) E74 _ _ (dk dX6_spread 40 rfl) ?_
        exact ⟨(by unfold sSpread; rw [if_neg (ixN hm (by omega)), nI_c (by omega), if_neg (fun h => h b24), if_neg (by omega)]), hb4, ⟨_, _, _, _, hc5, hc6, hc7, hc8⟩, ⟨_, _, _, _, _, _, _, _, hK229_74, hc9, hc10, hc11⟩, (fun j hj => ((hF74 j (by omega)).trans (hF49 j (by omega))))⟩
      · have nc60 : ¬ 2 ≤ (hC r m ne) := fun h => c60 ((nI_leI (a := 2) (b := (hC r m ne)) (by omega) (by omega)).mpr h)
        refine g_bipush F (q := 65) (v := (-4)) (dk dX6_spread 30 rfl) rfl (by decide) ?_
        refine g_callSL F (q := 68) (av := [.int (-4)]) (st := []) (c_X6_longError (a := (-4))) ks_X6_longError tq_425 ⟨rfl, rfl⟩ (by decide) ⟨Nat.le_refl _, Nat.le_refl _⟩ rfl rfl (Nat.le_of_ble_eq_true rfl) (dk dX6_spread 31 rfl) rfl (fun r65 E65 hp65 => ?_)
        obtain ⟨rfl, rfl⟩ := hp65
        have hb12 := hco.fr (fun j h1 h2 => hF49 j (by omega))
        refine hret (toldAs (-4)) E49 _ _ (dk dX6_spread 32 rfl) ?_
        exact ⟨(by unfold sSpread; rw [if_neg (ixN hm (by omega)), nI_c (by omega), if_neg (fun h => h b24), if_pos (by omega)]), hb12, ⟨_, _, _, _, hK225_49, hK226_49, hK227_49, hK228_49⟩, ⟨_, _, _, _, _, _, _, _, hK229_49, hK230_49, hK231_49, hK232_49⟩, (fun j hj => (hF49 j (by omega)))⟩
    · refine g_if_ne F (q := 30) (tgt := 36) (dk dX6_spread 13 rfl) (by decide) rfl (fun h => absurd h (by decide)) (fun _ => ?_)
      refine g_bipush F (q := 32) (v := (-2)) (dk dX6_spread 14 rfl) rfl (by decide) ?_
      refine g_callSL F (q := 35) (av := [.int (-2)]) (st := []) (c_X6_longError (a := (-2))) ks_X6_longError tq_425 ⟨rfl, rfl⟩ (by decide) ⟨Nat.le_refl _, Nat.le_refl _⟩ rfl rfl (Nat.le_of_ble_eq_true rfl) (dk dX6_spread 15 rfl) rfl (fun r32 E32 hp32 => ?_)
      obtain ⟨rfl, rfl⟩ := hp32
      refine hret (toldAs (-2)) E _ _ (dk dX6_spread 16 rfl) ?_
      exact ⟨(by unfold sSpread; rw [if_neg (ixN hm (by omega)), nI_c (by omega), if_pos b24]), hco, hmk, hsr, (fun j _ => rfl)⟩
  · refine g_if_ne F (q := 14) (tgt := 19) (dk dX6_spread 5 rfl) (by decide) rfl (fun h => absurd h (by decide)) (fun _ => ?_)
    refine g_iconst F (q := 15) (v := (-1)) (dk dX6_spread 6 rfl) rfl (by decide) ?_
    refine g_callSL F (q := 18) (av := [.int (-1)]) (st := []) (c_X6_longError (a := (-1))) ks_X6_longError tq_425 ⟨rfl, rfl⟩ (by decide) ⟨Nat.le_refl _, Nat.le_refl _⟩ rfl rfl (Nat.le_of_ble_eq_true rfl) (dk dX6_spread 7 rfl) rfl (fun r15 E15 hp15 => ?_)
    obtain ⟨rfl, rfl⟩ := hp15
    refine hret (toldAs (-1)) E _ _ (dk dX6_spread 8 rfl) ?_
    exact ⟨(by unfold sSpread; rw [if_pos b8]), hco, hmk, hsr, (fun j _ => rfl)⟩
theorem kv_X6_spread : KV yX6_spread "ThumpEars" cX6_spread 3 (some .long) 2 := ⟨tq_496, tq_497, tq_9, tq_498, by decide +kernel⟩
abbrev rm_X6_truth : Room := { frames := 5, cells := 0, slots := 0, locals := 121 }
set_option maxHeartbeats 4000000 in
set_option maxRecDepth 100000 in
theorem c_X6_truth {l : Launch} {D : va_G} {cA : Nat → ClassId} {ad : Nat → Nat} {E : Nat → va_E} {r : Nat → Int32} {ne nt nk nh : Nat} {H : Nat → Nat → Int32} {s1 : Int32} {asd : Nat → Int32} {ln : Nat} {txt : Nat → Int32} {kn what : Int32}  (hco : Core cA ad E r ne nt nk nh H s1 asd ln txt) (hmk : MkP cA ad E) (hsr : SrP cA ad E)  : CtI l D cA yX6_truth cX6_truth 3 .int rm_X6_truth 235 ad E [.ref (ad 0), .int kn, .int what] (fun x E' => (sTruth r ne nt nk kn what) = x ∧ (Core cA ad E' r ne nt nk nh H s1 asd ln txt) ∧ (MkP cA ad E') ∧ (SrP cA ad E') ∧ ∀ j, (233 ≤ j) → E' j = E j) := by
  refine CtI.of (by decide +kernel) (Nat.le_of_ble_eq_true rfl) (fun X F hret => ?_)
  have F : Fr "ThumpEars" cX6_truth 3 D cA X := F
  refine (show GG rm_X6_truth 3 l D X 0 0 235 ad E 0 [(0, .ref (ad 0)), (1, .int kn), (2, .int what)] [] from ?_)
  have hco2 := hco
  obtain ⟨v, vs, tg, vh, od, po, nu, ar, pla, ti, re, h0, hst, hsn, h73, h74, hhs, h219, h220, h221, h222, h223, h224, htg, hnh, hln, hcn, hhc, hss⟩ := hco2
  have hmk2 := hmk
  obtain ⟨m0, th, rd, er, h225, hth, hrd, her⟩ := hmk2
  have hsr2 := hsr
  obtain ⟨s0, px, pp, ls, gr, ea, pl, rt, h229, hsea, hspl, hsrt⟩ := hsr2
  have hne := hcn.i.e0
  have hnt := hcn.i.e1
  have hnk := hcn.i.e2
  have h1 : E 1 = .inr (5, [.ref (ad 2), .ref (ad 3), .ref (ad 4), .ref (ad 5), .ref (ad 6), .ref (ad 7), .ref (ad 22), .int (nI ne), .int (r 3), .int (r 4), .int (r 5)]) := by have q := hst.o; rw [hcn.n0, hcn.r3, hcn.r4, hcn.r5] at q; exact q
  have h7 : E 7 = .inr (3, [.ref (ad 8), .ref (ad 9), .ref (ad 10), .ref (ad 11), .int (nI nt)]) := by have q := hst.t; rw [hcn.n1] at q; exact q
  have h22 : E 22 = .inr (3, [.ref (ad 23), .ref (ad 24), .ref (ad 25), .ref (ad 26), .int (nI nk)]) := by have q := hst.k; rw [hcn.n2] at q; exact q
  refine g_aload_n F (q := 1) (dk dX6_truth 0 rfl) rfl rfl 0 rfl ?_
  refine g_getf F (q := 4) h0 rfl inX6 (by omega) (j := 0) (by decide) tq_240 rfl rfl (dk dX6_truth 1 rfl) rfl ?_
  refine g_getf F (q := 7) h1 rfl inX5 (by omega) (j := 6) (by decide) tq_91 rfl rfl (dk dX6_truth 2 rfl) rfl ?_
  refine g_iload_n F (q := 8) (dk dX6_truth 3 rfl) rfl rfl 1 rfl ?_
  refine g_callVI F (q := 11) (av := [.int kn]) (st := []) (c_X3_has_b (x0 := kn) h22 (by first | assumption | decide | omega)) kv_X3_has tq_390 h22 rfl (by omega) ⟨rfl, rfl⟩ (by decide) ⟨Nat.le_refl _, Nat.le_refl _⟩ rfl rfl (Nat.le_of_ble_eq_true rfl) (dk dX6_truth 4 rfl) rfl (fun r8 E8 hp8 => ?_)
  rcases hp8 with ⟨rfl, rfl, b8⟩ | ⟨rfl, rfl, b8⟩
  · obtain ⟨m, hm, rfl⟩ := b8
    refine g_if_ne F (q := 14) (tgt := 16) (dk dX6_truth 5 rfl) (by decide) rfl (fun _ => ?_) (fun h => absurd h (by decide))
    refine g_iload_n F (q := 17) (dk dX6_truth 8 rfl) rfl rfl 2 rfl ?_
    rcases sw_split what (0) 2 with hsw | ⟨jsw, hlt, hsw⟩
    · refine g_tabOut F (tgt := 76) (dk dX6_truth 9 rfl) (by omega) (by decide) ?_
      have hq0 : ¬ what = 0 := fun h => by rw [h] at hsw; revert hsw; decide
      have hq1 : ¬ what = 1 := fun h => by rw [h] at hsw; revert hsw; decide
      have hq2 : ¬ what = 2 := fun h => by rw [h] at hsw; revert hsw; decide
      refine g_bipush F (q := 78) (v := (-2)) (dk dX6_truth 28 rfl) rfl (by decide) ?_
      refine hret (-2) E _ _ (dk dX6_truth 29 rfl) (nint _) ?_
      exact ⟨(by unfold sTruth; rw [if_neg (ixN hm (by omega)), nI_c (by omega), if_pos (fun h => (in02 h).elim hq0 (fun h => h.elim hq1 hq2))]), hco, hmk, hsr, (fun j _ => rfl)⟩
    · rcases (show jsw = 0 ∨ jsw = 1 ∨ jsw = 2 by omega) with rfl | rfl | rfl
      · have hx : what = 0 := by rw [hsw]; decide
        refine g_tabIn F (tgt := 44) (off := 27) (dk dX6_truth 9 rfl) (by rw [hx]; decide) (by rw [hx]; decide) (by rw [hx]; decide) (by decide) ?_
        refine g_aload_n F (q := 45) (dk dX6_truth 10 rfl) rfl rfl 0 rfl ?_
        refine g_getf F (q := 48) h0 rfl inX6 (by omega) (j := 0) (by decide) tq_240 rfl rfl (dk dX6_truth 11 rfl) rfl ?_
        refine g_getf F (q := 51) h1 rfl inX5 (by omega) (j := 6) (by decide) tq_91 rfl rfl (dk dX6_truth 12 rfl) rfl ?_
        refine g_getf F (q := 54) h22 rfl inX3 (by omega) (j := 0) (by decide) tq_43 rfl rfl (dk dX6_truth 13 rfl) rfl ?_
        refine g_iload_n F (q := 55) (dk dX6_truth 14 rfl) rfl rfl 1 rfl ?_
        have hc1 : E 23 = .inl (cA 0, 10, .inl (v 22)) := hst.a 22 (by omega)
        refine g_iald F (q := 56) m hc1 (by omega) rfl (by omega) (by decide) (dk dX6_truth 15 rfl) rfl ?_
        refine hret ((v 22) m) E _ _ (dk dX6_truth 16 rfl) (nint _) ?_
        exact ⟨(by unfold sTruth; rw [hx, if_neg (ixN hm (by omega)), nI_c (by omega), if_neg (by decide), if_pos rfl, ← (hcn.kn hm).1]), hco, hmk, hsr, (fun j _ => rfl)⟩
      · have hx : what = 1 := by rw [hsw]; decide
        refine g_tabIn F (tgt := 57) (off := 40) (dk dX6_truth 9 rfl) (by rw [hx]; decide) (by rw [hx]; decide) (by rw [hx]; decide) (by decide) ?_
        refine g_aload_n F (q := 58) (dk dX6_truth 17 rfl) rfl rfl 0 rfl ?_
        refine g_getf F (q := 61) h0 rfl inX6 (by omega) (j := 0) (by decide) tq_240 rfl rfl (dk dX6_truth 18 rfl) rfl ?_
        refine g_getf F (q := 64) h1 rfl inX5 (by omega) (j := 6) (by decide) tq_91 rfl rfl (dk dX6_truth 19 rfl) rfl ?_
        refine g_getf F (q := 67) h22 rfl inX3 (by omega) (j := 1) (by decide) tq_47 rfl rfl (dk dX6_truth 20 rfl) rfl ?_
        refine g_iload_n F (q := 68) (dk dX6_truth 21 rfl) rfl rfl 1 rfl ?_
        have hc2 : E 24 = .inl (cA 0, 10, .inl (v 23)) := hst.a 23 (by omega)
        refine g_iald F (q := 69) m hc2 (by omega) rfl (by omega) (by decide) (dk dX6_truth 22 rfl) rfl ?_
        refine hret ((v 23) m) E _ _ (dk dX6_truth 23 rfl) (nint _) ?_
        exact ⟨(by unfold sTruth; rw [hx, if_neg (ixN hm (by omega)), nI_c (by omega), if_neg (by decide), if_neg (by decide), if_pos rfl, ← (hcn.kn hm).2.1]), hco, hmk, hsr, (fun j _ => rfl)⟩
      · have hx : what = 2 := by rw [hsw]; decide
        refine g_tabIn F (tgt := 70) (off := 53) (dk dX6_truth 9 rfl) (by rw [hx]; decide) (by rw [hx]; decide) (by rw [hx]; decide) (by decide) ?_
        refine g_aload_n F (q := 71) (dk dX6_truth 24 rfl) rfl rfl 0 rfl ?_
        refine g_iload_n F (q := 72) (dk dX6_truth 25 rfl) rfl rfl 1 rfl ?_
        refine g_callVI F (q := 75) (av := [.int (nI m)]) (st := []) (c_X6_missOf (kn := m) hco hmk hsr (by first | assumption | decide | omega)) kv_X6_missOf tq_504 h0 rfl (by omega) ⟨rfl, rfl⟩ (by decide) ⟨Nat.le_refl _, Nat.le_refl _⟩ rfl rfl (Nat.le_of_ble_eq_true rfl) (dk dX6_truth 26 rfl) rfl (fun r72 E72 hp72 => ?_)
        obtain ⟨rfl, hBcore_72, hBmk_72, hBsr_72, hF72⟩ := hp72
        refine hret (if hC r m ne < 2 then -4 else far (nI (plc r ne nt m)) (r (46 + 50 * 1 + 5 * m + 0))) E72 _ _ (dk dX6_truth 27 rfl) (nint _) ?_
        exact ⟨(by unfold sTruth; rw [hx, if_neg (ixN hm (by omega)), nI_c (by omega), if_neg (by decide), if_neg (by decide), if_neg (by decide)]), hBcore_72, hBmk_72, hBsr_72, (fun j hj => (hF72 j (by omega)))⟩
  · refine g_if_ne F (q := 14) (tgt := 16) (dk dX6_truth 5 rfl) (by decide) rfl (fun h => absurd h (by decide)) (fun _ => ?_)
    refine g_iconst F (q := 15) (v := (-1)) (dk dX6_truth 6 rfl) rfl (by decide) ?_
    refine hret (-1) E _ _ (dk dX6_truth 7 rfl) (nint _) ?_
    exact ⟨(by unfold sTruth; rw [if_pos b8]), hco, hmk, hsr, (fun j _ => rfl)⟩
theorem kv_X6_truth : KV yX6_truth "ThumpEars" cX6_truth 3 (some .int) 2 := ⟨tq_501, tq_502, tq_9, tq_503, by decide +kernel⟩
abbrev rm_X6_ear : Room := { frames := 4, cells := 0, slots := 0, locals := 93 }
set_option maxHeartbeats 4000000 in
set_option maxRecDepth 100000 in
theorem c_X6_ear {l : Launch} {D : va_G} {cA : Nat → ClassId} {ad : Nat → Nat} {E : Nat → va_E} {r : Nat → Int32} {ne nt nk nh : Nat} {H : Nat → Nat → Int32} {s1 : Int32} {asd : Nat → Int32} {ln : Nat} {txt : Nat → Int32} {ear what : Int32}  (hco : Core cA ad E r ne nt nk nh H s1 asd ln txt) (hmk : MkP cA ad E) (hsr : SrP cA ad E)  : CtI l D cA yX6_ear cX6_ear 3 .int rm_X6_ear 235 ad E [.ref (ad 0), .int ear, .int what] (fun x E' => (sEar r ne nt nk ear what) = x ∧ (Core cA ad E' r ne nt nk nh H s1 asd ln txt) ∧ (MkP cA ad E') ∧ (SrP cA ad E') ∧ ∀ j, (233 ≤ j) → E' j = E j) := by
  refine CtI.of (by decide +kernel) (Nat.le_of_ble_eq_true rfl) (fun X F hret => ?_)
  have F : Fr "ThumpEars" cX6_ear 3 D cA X := F
  refine (show GG rm_X6_ear 3 l D X 0 0 235 ad E 0 [(0, .ref (ad 0)), (1, .int ear), (2, .int what)] [] from ?_)
  have hco2 := hco
  obtain ⟨v, vs, tg, vh, od, po, nu, ar, pla, ti, re, h0, hst, hsn, h73, h74, hhs, h219, h220, h221, h222, h223, h224, htg, hnh, hln, hcn, hhc, hss⟩ := hco2
  have hmk2 := hmk
  obtain ⟨m0, th, rd, er, h225, hth, hrd, her⟩ := hmk2
  have hsr2 := hsr
  obtain ⟨s0, px, pp, ls, gr, ea, pl, rt, h229, hsea, hspl, hsrt⟩ := hsr2
  have hne := hcn.i.e0
  have hnt := hcn.i.e1
  have hnk := hcn.i.e2
  have h1 : E 1 = .inr (5, [.ref (ad 2), .ref (ad 3), .ref (ad 4), .ref (ad 5), .ref (ad 6), .ref (ad 7), .ref (ad 22), .int (nI ne), .int (r 3), .int (r 4), .int (r 5)]) := by have q := hst.o; rw [hcn.n0, hcn.r3, hcn.r4, hcn.r5] at q; exact q
  have h7 : E 7 = .inr (3, [.ref (ad 8), .ref (ad 9), .ref (ad 10), .ref (ad 11), .int (nI nt)]) := by have q := hst.t; rw [hcn.n1] at q; exact q
  have h22 : E 22 = .inr (3, [.ref (ad 23), .ref (ad 24), .ref (ad 25), .ref (ad 26), .int (nI nk)]) := by have q := hst.k; rw [hcn.n2] at q; exact q
  refine g_aload_n F (q := 1) (dk dX6_ear 0 rfl) rfl rfl 0 rfl ?_
  refine g_getf F (q := 4) h0 rfl inX6 (by omega) (j := 0) (by decide) tq_240 rfl rfl (dk dX6_ear 1 rfl) rfl ?_
  refine g_iload_n F (q := 5) (dk dX6_ear 2 rfl) rfl rfl 1 rfl ?_
  refine g_callVI F (q := 8) (av := [.int ear]) (st := []) (c_X5_hasEar (ear := ear) h1 (by first | assumption | decide | omega)) kv_X5_hasEar tq_394 h1 rfl (by omega) ⟨rfl, rfl⟩ (by decide) ⟨Nat.le_refl _, Nat.le_refl _⟩ rfl rfl (Nat.le_of_ble_eq_true rfl) (dk dX6_ear 3 rfl) rfl (fun r5 E5 hp5 => ?_)
  rcases hp5 with ⟨rfl, rfl, b5⟩ | ⟨rfl, rfl, b5⟩
  · obtain ⟨e, he, rfl⟩ := b5
    refine g_if_ne F (q := 11) (tgt := 13) (dk dX6_ear 4 rfl) (by decide) rfl (fun _ => ?_) (fun h => absurd h (by decide))
    refine g_iload_n F (q := 14) (dk dX6_ear 7 rfl) rfl rfl 2 rfl ?_
    rcases sw_split what (0) 6 with hsw | ⟨jsw, hlt, hsw⟩
    · refine g_tabOut F (tgt := 150) (dk dX6_ear 8 rfl) (by omega) (by decide) ?_
      have hq0 : ¬ what = 0 := fun h => by rw [h] at hsw; revert hsw; decide
      have hq1 : ¬ what = 1 := fun h => by rw [h] at hsw; revert hsw; decide
      have hq2 : ¬ what = 2 := fun h => by rw [h] at hsw; revert hsw; decide
      have hq3 : ¬ what = 3 := fun h => by rw [h] at hsw; revert hsw; decide
      have hq4 : ¬ what = 4 := fun h => by rw [h] at hsw; revert hsw; decide
      have hq5 : ¬ what = 5 := fun h => by rw [h] at hsw; revert hsw; decide
      have hq6 : ¬ what = 6 := fun h => by rw [h] at hsw; revert hsw; decide
      refine g_bipush F (q := 152) (v := (-2)) (dk dX6_ear 61 rfl) rfl (by decide) ?_
      refine hret (-2) E _ _ (dk dX6_ear 62 rfl) (nint _) ?_
      exact ⟨(by unfold sEar; rw [if_neg (ixN he (by omega)), nI_c (by omega), if_neg hq0, if_neg hq1, if_neg hq2, if_neg hq3, if_neg hq4, if_neg hq5, if_neg hq6]), hco, hmk, hsr, (fun j _ => rfl)⟩
    · rcases (show jsw = 0 ∨ jsw = 1 ∨ jsw = 2 ∨ jsw = 3 ∨ jsw = 4 ∨ jsw = 5 ∨ jsw = 6 by omega) with rfl | rfl | rfl | rfl | rfl | rfl | rfl
      · have hx : what = 0 := by rw [hsw]; decide
        refine g_tabIn F (tgt := 56) (off := 42) (dk dX6_ear 8 rfl) (by rw [hx]; decide) (by rw [hx]; decide) (by rw [hx]; decide) (by decide) ?_
        refine g_aload_n F (q := 57) (dk dX6_ear 9 rfl) rfl rfl 0 rfl ?_
        refine g_getf F (q := 60) h0 rfl inX6 (by omega) (j := 0) (by decide) tq_240 rfl rfl (dk dX6_ear 10 rfl) rfl ?_
        refine g_getf F (q := 63) h1 rfl inX5 (by omega) (j := 0) (by decide) tq_76 rfl rfl (dk dX6_ear 11 rfl) rfl ?_
        refine g_iload_n F (q := 64) (dk dX6_ear 12 rfl) rfl rfl 1 rfl ?_
        have hc1 : E 2 = .inl (cA 0, 10, .inl (v 1)) := hst.a 1 (by omega)
        refine g_iald F (q := 65) e hc1 (by omega) rfl (by omega) (by decide) (dk dX6_ear 13 rfl) rfl ?_
        refine hret ((v 1) e) E _ _ (dk dX6_ear 14 rfl) (nint _) ?_
        exact ⟨(by unfold sEar; rw [hx, if_neg (ixN he (by omega)), nI_c (by omega), if_pos rfl, ← (hcn.ear he).1]), hco, hmk, hsr, (fun j _ => rfl)⟩
      · have hx : what = 1 := by rw [hsw]; decide
        refine g_tabIn F (tgt := 66) (off := 52) (dk dX6_ear 8 rfl) (by rw [hx]; decide) (by rw [hx]; decide) (by rw [hx]; decide) (by decide) ?_
        refine g_aload_n F (q := 67) (dk dX6_ear 15 rfl) rfl rfl 0 rfl ?_
        refine g_getf F (q := 70) h0 rfl inX6 (by omega) (j := 0) (by decide) tq_240 rfl rfl (dk dX6_ear 16 rfl) rfl ?_
        refine g_getf F (q := 73) h1 rfl inX5 (by omega) (j := 3) (by decide) tq_82 rfl rfl (dk dX6_ear 17 rfl) rfl ?_
        refine g_iload_n F (q := 74) (dk dX6_ear 18 rfl) rfl rfl 1 rfl ?_
        have hc2 : E 5 = .inl (cA 2, 10, .inl (v 4)) := hst.z 4 (by omega)
        refine g_zald F (q := 75) e hc2 (by omega) rfl (by omega) (by decide) (dk dX6_ear 19 rfl) rfl ?_
        refine g_if_eq F (q := 78) (tgt := 82) (dk dX6_ear 20 rfl) (by decide) rfl (fun c75 => ?_) (fun c75 => ?_)
        · refine g_iconst F (q := 83) (v := 0) (dk dX6_ear 23 rfl) rfl (by decide) ?_
          refine hret 0 E _ _ (dk dX6_ear 24 rfl) (nint _) ?_
          exact ⟨(by unfold sEar; rw [hx, if_neg (ixN he (by omega)), nI_c (by omega), if_neg (by decide), if_pos rfl, ← (hcn.ear he).2.1, c75]), hco, hmk, hsr, (fun j _ => rfl)⟩
        · refine g_iconst F (q := 79) (v := 1) (dk dX6_ear 21 rfl) rfl (by decide) ?_
          refine g_goto F (tgt := 83) (dk dX6_ear 22 rfl) (by decide) ?_
          refine hret 1 E _ _ (dk dX6_ear 24 rfl) (nint _) ?_
          exact ⟨(by unfold sEar; rw [hx, if_neg (ixN he (by omega)), nI_c (by omega), if_neg (by decide), if_pos rfl, ← (hcn.ear he).2.1, (hcn.bz4 e (by omega)).resolve_left c75]), hco, hmk, hsr, (fun j _ => rfl)⟩
      · have hx : what = 2 := by rw [hsw]; decide
        refine g_tabIn F (tgt := 84) (off := 70) (dk dX6_ear 8 rfl) (by rw [hx]; decide) (by rw [hx]; decide) (by rw [hx]; decide) (by decide) ?_
        refine g_aload_n F (q := 85) (dk dX6_ear 25 rfl) rfl rfl 0 rfl ?_
        refine g_getf F (q := 88) h0 rfl inX6 (by omega) (j := 0) (by decide) tq_240 rfl rfl (dk dX6_ear 26 rfl) rfl ?_
        refine g_getf F (q := 91) h1 rfl inX5 (by omega) (j := 1) (by decide) tq_78 rfl rfl (dk dX6_ear 27 rfl) rfl ?_
        refine g_iload_n F (q := 92) (dk dX6_ear 28 rfl) rfl rfl 1 rfl ?_
        have hc3 : E 3 = .inl (cA 0, 10, .inl (v 2)) := hst.a 2 (by omega)
        refine g_iald F (q := 93) e hc3 (by omega) rfl (by omega) (by decide) (dk dX6_ear 29 rfl) rfl ?_
        refine g_sipush F (q := 96) (v := 1000) (dk dX6_ear 30 rfl) rfl (by decide) ?_
        refine g_iadd F (q := 97) (dk dX6_ear 31 rfl) rfl ?_
        refine hret (((v 2) e) + 1000) E _ _ (dk dX6_ear 32 rfl) (nint _) ?_
        exact ⟨(by unfold sEar; rw [hx, if_neg (ixN he (by omega)), nI_c (by omega), if_neg (by decide), if_neg (by decide), if_pos rfl, ← (hcn.ear he).2.2.1]), hco, hmk, hsr, (fun j _ => rfl)⟩
      · have hx : what = 3 := by rw [hsw]; decide
        refine g_tabIn F (tgt := 98) (off := 84) (dk dX6_ear 8 rfl) (by rw [hx]; decide) (by rw [hx]; decide) (by rw [hx]; decide) (by decide) ?_
        refine g_aload_n F (q := 99) (dk dX6_ear 33 rfl) rfl rfl 0 rfl ?_
        refine g_getf F (q := 102) h0 rfl inX6 (by omega) (j := 0) (by decide) tq_240 rfl rfl (dk dX6_ear 34 rfl) rfl ?_
        refine g_getf F (q := 105) h1 rfl inX5 (by omega) (j := 2) (by decide) tq_80 rfl rfl (dk dX6_ear 35 rfl) rfl ?_
        refine g_iload_n F (q := 106) (dk dX6_ear 36 rfl) rfl rfl 1 rfl ?_
        have hc4 : E 4 = .inl (cA 0, 10, .inl (v 3)) := hst.a 3 (by omega)
        refine g_iald F (q := 107) e hc4 (by omega) rfl (by omega) (by decide) (dk dX6_ear 37 rfl) rfl ?_
        refine g_sipush F (q := 110) (v := 1000) (dk dX6_ear 38 rfl) rfl (by decide) ?_
        refine g_iadd F (q := 111) (dk dX6_ear 39 rfl) rfl ?_
        refine hret (((v 3) e) + 1000) E _ _ (dk dX6_ear 40 rfl) (nint _) ?_
        exact ⟨(by unfold sEar; rw [hx, if_neg (ixN he (by omega)), nI_c (by omega), if_neg (by decide), if_neg (by decide), if_neg (by decide), if_pos rfl, ← (hcn.ear he).2.2.2]), hco, hmk, hsr, (fun j _ => rfl)⟩
      · have hx : what = 4 := by rw [hsw]; decide
        refine g_tabIn F (tgt := 112) (off := 98) (dk dX6_ear 8 rfl) (by rw [hx]; decide) (by rw [hx]; decide) (by rw [hx]; decide) (by decide) ?_
        refine g_aload_n F (q := 113) (dk dX6_ear 41 rfl) rfl rfl 0 rfl ?_
        refine g_getf F (q := 116) h0 rfl inX6 (by omega) (j := 5) (by decide) tq_245 rfl rfl (dk dX6_ear 42 rfl) rfl ?_
        refine g_aload_n F (q := 117) (dk dX6_ear 43 rfl) rfl rfl 0 rfl ?_
        refine g_getf F (q := 120) h0 rfl inX6 (by omega) (j := 0) (by decide) tq_240 rfl rfl (dk dX6_ear 44 rfl) rfl ?_
        refine g_iload_n F (q := 121) (dk dX6_ear 45 rfl) rfl rfl 1 rfl ?_
        refine g_callVV F (q := 124) (av := [.ref (ad 1), .int (nI e)]) (st := []) (c_X1_gather (e := e) h225 hth hrd her hst (by first | assumption | decide | omega) (by first | assumption | decide | omega)) kv_X1_gather tq_403 h225 rfl (by omega) ⟨rfl, rfl⟩ (by decide) ⟨Nat.le_refl _, Nat.le_refl _⟩ rfl rfl (Nat.le_of_ble_eq_true rfl) (dk dX6_ear 46 rfl) rfl (fun E121 hp121 => ?_)
        obtain ⟨th1_121, rd1_121, er1_121, hK225_121, hK226_121, hK227_121, hK228_121, hH_121, hF121⟩ := hp121
        refine g_aload_n F (q := 125) (dk dX6_ear 47 rfl) rfl rfl 0 rfl ?_
        have hc5 := (hF121 0 (by omega)).trans h0
        refine g_getf F (q := 128) hc5 rfl inX6 (by omega) (j := 5) (by decide) tq_245 rfl rfl (dk dX6_ear 48 rfl) rfl ?_
        refine g_getf F (q := 131) hK225_121 rfl inX1 (by omega) (j := 3) (by decide) tq_196 rfl rfl (dk dX6_ear 49 rfl) rfl ?_
        have hb6 := hco.fr (fun j h1 h2 => hF121 j (by omega))
        have hb7 := hsr.fr (fun j h1 h2 => hF121 j (by omega))
        refine hret (nI ((mC r e nt))) E121 _ _ (dk dX6_ear 50 rfl) (nint _) ?_
        exact ⟨(by unfold sEar; rw [hx, if_neg (ixN he (by omega)), nI_c (by omega), if_neg (by decide), if_neg (by decide), if_neg (by decide), if_neg (by decide), if_pos rfl]), hb6, ⟨_, _, _, _, hK225_121, hK226_121, hK227_121, hK228_121⟩, hb7, (fun j hj => (hF121 j (by omega)))⟩
      · have hx : what = 5 := by rw [hsw]; decide
        refine g_tabIn F (tgt := 132) (off := 118) (dk dX6_ear 8 rfl) (by rw [hx]; decide) (by rw [hx]; decide) (by rw [hx]; decide) (by decide) ?_
        refine g_aload_n F (q := 133) (dk dX6_ear 51 rfl) rfl rfl 0 rfl ?_
        refine g_iload_n F (q := 134) (dk dX6_ear 52 rfl) rfl rfl 1 rfl ?_
        refine g_callVI F (q := 137) (av := [.int (nI e)]) (st := []) (c_X6_latestReading (e := e) hco hmk hsr (by first | assumption | decide | omega)) kv_X6_latestReading tq_404 h0 rfl (by omega) ⟨rfl, rfl⟩ (by decide) ⟨Nat.le_refl _, Nat.le_refl _⟩ rfl rfl (Nat.le_of_ble_eq_true rfl) (dk dX6_ear 53 rfl) rfl (fun r134 E134 hp134 => ?_)
        obtain ⟨rfl, hBcore_134, hBmk_134, hBsr_134, hF134⟩ := hp134
        refine hret (if mC r e nt = 0 then -5 else mRd r e nt (mC r e nt - 1) + 10000) E134 _ _ (dk dX6_ear 54 rfl) (nint _) ?_
        exact ⟨(by unfold sEar; rw [hx, if_neg (ixN he (by omega)), nI_c (by omega), if_neg (by decide), if_neg (by decide), if_neg (by decide), if_neg (by decide), if_neg (by decide), if_pos rfl]), hBcore_134, hBmk_134, hBsr_134, (fun j hj => (hF134 j (by omega)))⟩
      · have hx : what = 6 := by rw [hsw]; decide
        refine g_tabIn F (tgt := 138) (off := 124) (dk dX6_ear 8 rfl) (by rw [hx]; decide) (by rw [hx]; decide) (by rw [hx]; decide) (by decide) ?_
        refine g_aload_n F (q := 139) (dk dX6_ear 55 rfl) rfl rfl 0 rfl ?_
        refine g_getf F (q := 142) h0 rfl inX6 (by omega) (j := 0) (by decide) tq_240 rfl rfl (dk dX6_ear 56 rfl) rfl ?_
        refine g_getf F (q := 145) h1 rfl inX5 (by omega) (j := 6) (by decide) tq_91 rfl rfl (dk dX6_ear 57 rfl) rfl ?_
        refine g_iload_n F (q := 146) (dk dX6_ear 58 rfl) rfl rfl 1 rfl ?_
        have hc8 : E 26 = .inl (cA 5, 10, .inr (.inr (.inr (.inr (fun i => some (ad (27 + i))))))) := hst.rk
        refine g_callVI F (q := 149) (av := [.int (nI e)]) (st := []) (c_X3_heardBy (e := e) h22 hc8 (fun i hi => hst.row 26 i (by decide) hi) (by first | assumption | decide | omega) (by first | assumption | decide | omega)) kv_X3_heardBy tq_408 h22 rfl (by omega) ⟨rfl, rfl⟩ (by decide) ⟨Nat.le_refl _, Nat.le_refl _⟩ rfl rfl (Nat.le_of_ble_eq_true rfl) (dk dX6_ear 59 rfl) rfl (fun r146 E146 hp146 => ?_)
        obtain ⟨rfl, rfl⟩ := hp146
        refine hret (nI ((kcC (fun i => v (26 + i)) e nk))) E _ _ (dk dX6_ear 60 rfl) (nint _) ?_
        exact ⟨(by unfold sEar; rw [hx, if_neg (ixN he (by omega)), nI_c (by omega), if_neg (by decide), if_neg (by decide), if_neg (by decide), if_neg (by decide), if_neg (by decide), if_neg (by decide), if_pos rfl, kcC_k hcn (by omega) nk (Nat.le_refl _)]), hco, hmk, hsr, (fun j _ => rfl)⟩
  · refine g_if_ne F (q := 11) (tgt := 13) (dk dX6_ear 4 rfl) (by decide) rfl (fun h => absurd h (by decide)) (fun _ => ?_)
    refine g_iconst F (q := 12) (v := (-1)) (dk dX6_ear 5 rfl) rfl (by decide) ?_
    refine hret (-1) E _ _ (dk dX6_ear 6 rfl) (nint _) ?_
    exact ⟨(by unfold sEar; rw [if_pos b5]), hco, hmk, hsr, (fun j _ => rfl)⟩
theorem kv_X6_ear : KV yX6_ear "ThumpEars" cX6_ear 3 (some .int) 2 := ⟨tq_400, tq_401, tq_9, tq_402, by decide +kernel⟩
abbrev rm_X6_count : Room := { frames := 5, cells := 0, slots := 0, locals := 122 }
set_option maxHeartbeats 4000000 in
set_option maxRecDepth 100000 in
theorem c_X6_count {l : Launch} {D : va_G} {cA : Nat → ClassId} {ad : Nat → Nat} {E : Nat → va_E} {r : Nat → Int32} {ne nt nk nh : Nat} {H : Nat → Nat → Int32} {s1 : Int32} {asd : Nat → Int32} {ln : Nat} {txt : Nat → Int32} {what : Int32}  (hco : Core cA ad E r ne nt nk nh H s1 asd ln txt) (hmk : MkP cA ad E) (hsr : SrP cA ad E)  : CtI l D cA yX6_count cX6_count 2 .int rm_X6_count 235 ad E [.ref (ad 0), .int what] (fun x E' => (sCount r ne nt nk nh ln what) = x ∧ (Core cA ad E' r ne nt nk nh H s1 asd ln txt) ∧ (MkP cA ad E') ∧ (SrP cA ad E') ∧ ∀ j, (233 ≤ j) → E' j = E j) := by
  refine CtI.of (by decide +kernel) (Nat.le_of_ble_eq_true rfl) (fun X F hret => ?_)
  have F : Fr "ThumpEars" cX6_count 2 D cA X := F
  refine (show GG rm_X6_count 2 l D X 0 0 235 ad E 0 [(0, .ref (ad 0)), (1, .int what)] [] from ?_)
  have hco2 := hco
  obtain ⟨v, vs, tg, vh, od, po, nu, ar, pla, ti, re, h0, hst, hsn, h73, h74, hhs, h219, h220, h221, h222, h223, h224, htg, hnh, hln, hcn, hhc, hss⟩ := hco2
  have hmk2 := hmk
  obtain ⟨m0, th, rd, er, h225, hth, hrd, her⟩ := hmk2
  have hsr2 := hsr
  obtain ⟨s0, px, pp, ls, gr, ea, pl, rt, h229, hsea, hspl, hsrt⟩ := hsr2
  have hne := hcn.i.e0
  have hnt := hcn.i.e1
  have hnk := hcn.i.e2
  have h1 : E 1 = .inr (5, [.ref (ad 2), .ref (ad 3), .ref (ad 4), .ref (ad 5), .ref (ad 6), .ref (ad 7), .ref (ad 22), .int (nI ne), .int (r 3), .int (r 4), .int (r 5)]) := by have q := hst.o; rw [hcn.n0, hcn.r3, hcn.r4, hcn.r5] at q; exact q
  have h7 : E 7 = .inr (3, [.ref (ad 8), .ref (ad 9), .ref (ad 10), .ref (ad 11), .int (nI nt)]) := by have q := hst.t; rw [hcn.n1] at q; exact q
  have h22 : E 22 = .inr (3, [.ref (ad 23), .ref (ad 24), .ref (ad 25), .ref (ad 26), .int (nI nk)]) := by have q := hst.k; rw [hcn.n2] at q; exact q
  refine g_iload_n F (q := 1) (dk dX6_count 0 rfl) rfl rfl 1 rfl ?_
  rcases sw_split what (0) 10 with hsw | ⟨jsw, hlt, hsw⟩
  · refine g_tabOut F (tgt := 174) (dk dX6_count 1 rfl) (by omega) (by decide) ?_
    have hq0 : ¬ what = 0 := fun h => by rw [h] at hsw; revert hsw; decide
    have hq1 : ¬ what = 1 := fun h => by rw [h] at hsw; revert hsw; decide
    have hq2 : ¬ what = 2 := fun h => by rw [h] at hsw; revert hsw; decide
    have hq3 : ¬ what = 3 := fun h => by rw [h] at hsw; revert hsw; decide
    have hq4 : ¬ what = 4 := fun h => by rw [h] at hsw; revert hsw; decide
    have hq5 : ¬ what = 5 := fun h => by rw [h] at hsw; revert hsw; decide
    have hq6 : ¬ what = 6 := fun h => by rw [h] at hsw; revert hsw; decide
    have hq7 : ¬ what = 7 := fun h => by rw [h] at hsw; revert hsw; decide
    have hq8 : ¬ what = 8 := fun h => by rw [h] at hsw; revert hsw; decide
    have hq9 : ¬ what = 9 := fun h => by rw [h] at hsw; revert hsw; decide
    have hq10 : ¬ what = 10 := fun h => by rw [h] at hsw; revert hsw; decide
    refine g_bipush F (q := 176) (v := (-2)) (dk dX6_count 56 rfl) rfl (by decide) ?_
    refine hret (-2) E _ _ (dk dX6_count 57 rfl) (nint _) ?_
    exact ⟨(by unfold sCount; rw [if_neg hq0, if_neg hq1, if_neg hq2, if_neg hq3, if_neg hq4, if_neg hq5, if_neg hq6, if_neg hq7, if_neg hq8, if_neg hq9, if_neg hq10]), hco, hmk, hsr, (fun j _ => rfl)⟩
  · rcases (show jsw = 0 ∨ jsw = 1 ∨ jsw = 2 ∨ jsw = 3 ∨ jsw = 4 ∨ jsw = 5 ∨ jsw = 6 ∨ jsw = 7 ∨ jsw = 8 ∨ jsw = 9 ∨ jsw = 10 by omega) with rfl | rfl | rfl | rfl | rfl | rfl | rfl | rfl | rfl | rfl | rfl
    · have hx : what = 0 := by rw [hsw]; decide
      refine g_tabIn F (tgt := 60) (off := 59) (dk dX6_count 1 rfl) (by rw [hx]; decide) (by rw [hx]; decide) (by rw [hx]; decide) (by decide) ?_
      refine g_aload_n F (q := 61) (dk dX6_count 2 rfl) rfl rfl 0 rfl ?_
      refine g_getf F (q := 64) h0 rfl inX6 (by omega) (j := 0) (by decide) tq_240 rfl rfl (dk dX6_count 3 rfl) rfl ?_
      refine g_getf F (q := 67) h1 rfl inX5 (by omega) (j := 7) (by decide) tq_93 rfl rfl (dk dX6_count 4 rfl) rfl ?_
      refine hret (nI ne) E _ _ (dk dX6_count 5 rfl) (nint _) ?_
      exact ⟨(by unfold sCount; rw [hx, if_pos rfl, hcn.i.h0]), hco, hmk, hsr, (fun j _ => rfl)⟩
    · have hx : what = 1 := by rw [hsw]; decide
      refine g_tabIn F (tgt := 68) (off := 67) (dk dX6_count 1 rfl) (by rw [hx]; decide) (by rw [hx]; decide) (by rw [hx]; decide) (by decide) ?_
      refine g_aload_n F (q := 69) (dk dX6_count 6 rfl) rfl rfl 0 rfl ?_
      refine g_getf F (q := 72) h0 rfl inX6 (by omega) (j := 0) (by decide) tq_240 rfl rfl (dk dX6_count 7 rfl) rfl ?_
      refine g_getf F (q := 75) h1 rfl inX5 (by omega) (j := 5) (by decide) tq_88 rfl rfl (dk dX6_count 8 rfl) rfl ?_
      refine g_getf F (q := 78) h7 rfl inX3 (by omega) (j := 4) (by decide) tq_60 rfl rfl (dk dX6_count 9 rfl) rfl ?_
      refine hret (nI nt) E _ _ (dk dX6_count 10 rfl) (nint _) ?_
      exact ⟨(by unfold sCount; rw [hx, if_neg (by decide), if_pos rfl, hcn.i.h1]), hco, hmk, hsr, (fun j _ => rfl)⟩
    · have hx : what = 2 := by rw [hsw]; decide
      refine g_tabIn F (tgt := 79) (off := 78) (dk dX6_count 1 rfl) (by rw [hx]; decide) (by rw [hx]; decide) (by rw [hx]; decide) (by decide) ?_
      refine g_aload_n F (q := 80) (dk dX6_count 11 rfl) rfl rfl 0 rfl ?_
      refine g_getf F (q := 83) h0 rfl inX6 (by omega) (j := 0) (by decide) tq_240 rfl rfl (dk dX6_count 12 rfl) rfl ?_
      refine g_getf F (q := 86) h1 rfl inX5 (by omega) (j := 6) (by decide) tq_91 rfl rfl (dk dX6_count 13 rfl) rfl ?_
      refine g_getf F (q := 89) h22 rfl inX3 (by omega) (j := 4) (by decide) tq_60 rfl rfl (dk dX6_count 14 rfl) rfl ?_
      refine hret (nI nk) E _ _ (dk dX6_count 15 rfl) (nint _) ?_
      exact ⟨(by unfold sCount; rw [hx, if_neg (by decide), if_neg (by decide), if_pos rfl, hcn.i.h2]), hco, hmk, hsr, (fun j _ => rfl)⟩
    · have hx : what = 3 := by rw [hsw]; decide
      refine g_tabIn F (tgt := 90) (off := 89) (dk dX6_count 1 rfl) (by rw [hx]; decide) (by rw [hx]; decide) (by rw [hx]; decide) (by decide) ?_
      refine g_aload_n F (q := 91) (dk dX6_count 16 rfl) rfl rfl 0 rfl ?_
      refine g_getf F (q := 94) h0 rfl inX6 (by omega) (j := 0) (by decide) tq_240 rfl rfl (dk dX6_count 17 rfl) rfl ?_
      refine g_getf F (q := 97) h1 rfl inX5 (by omega) (j := 8) (by decide) tq_96 rfl rfl (dk dX6_count 18 rfl) rfl ?_
      refine hret (r 3) E _ _ (dk dX6_count 19 rfl) (nint _) ?_
      exact ⟨(by unfold sCount; rw [hx, if_neg (by decide), if_neg (by decide), if_neg (by decide), if_pos rfl]), hco, hmk, hsr, (fun j _ => rfl)⟩
    · have hx : what = 4 := by rw [hsw]; decide
      refine g_tabIn F (tgt := 98) (off := 97) (dk dX6_count 1 rfl) (by rw [hx]; decide) (by rw [hx]; decide) (by rw [hx]; decide) (by decide) ?_
      refine g_aload_n F (q := 99) (dk dX6_count 20 rfl) rfl rfl 0 rfl ?_
      refine g_getf F (q := 102) h0 rfl inX6 (by omega) (j := 0) (by decide) tq_240 rfl rfl (dk dX6_count 21 rfl) rfl ?_
      refine g_getf F (q := 105) h1 rfl inX5 (by omega) (j := 9) (by decide) tq_98 rfl rfl (dk dX6_count 22 rfl) rfl ?_
      refine hret (r 4) E _ _ (dk dX6_count 23 rfl) (nint _) ?_
      exact ⟨(by unfold sCount; rw [hx, if_neg (by decide), if_neg (by decide), if_neg (by decide), if_neg (by decide), if_pos rfl]), hco, hmk, hsr, (fun j _ => rfl)⟩
    · have hx : what = 5 := by rw [hsw]; decide
      refine g_tabIn F (tgt := 106) (off := 105) (dk dX6_count 1 rfl) (by rw [hx]; decide) (by rw [hx]; decide) (by rw [hx]; decide) (by decide) ?_
      refine g_aload_n F (q := 107) (dk dX6_count 24 rfl) rfl rfl 0 rfl ?_
      refine g_getf F (q := 110) h0 rfl inX6 (by omega) (j := 0) (by decide) tq_240 rfl rfl (dk dX6_count 25 rfl) rfl ?_
      refine g_getf F (q := 113) h1 rfl inX5 (by omega) (j := 10) (by decide) tq_100 rfl rfl (dk dX6_count 26 rfl) rfl ?_
      refine hret (r 5) E _ _ (dk dX6_count 27 rfl) (nint _) ?_
      exact ⟨(by unfold sCount; rw [hx, if_neg (by decide), if_neg (by decide), if_neg (by decide), if_neg (by decide), if_neg (by decide), if_pos rfl]), hco, hmk, hsr, (fun j _ => rfl)⟩
    · have hx : what = 6 := by rw [hsw]; decide
      refine g_tabIn F (tgt := 114) (off := 113) (dk dX6_count 1 rfl) (by rw [hx]; decide) (by rw [hx]; decide) (by rw [hx]; decide) (by decide) ?_
      refine g_aload_n F (q := 115) (dk dX6_count 28 rfl) rfl rfl 0 rfl ?_
      refine g_getf F (q := 118) h0 rfl inX6 (by omega) (j := 0) (by decide) tq_240 rfl rfl (dk dX6_count 29 rfl) rfl ?_
      refine g_getf F (q := 121) h1 rfl inX5 (by omega) (j := 3) (by decide) tq_82 rfl rfl (dk dX6_count 30 rfl) rfl ?_
      refine g_aload_n F (q := 122) (dk dX6_count 31 rfl) rfl rfl 0 rfl ?_
      refine g_getf F (q := 125) h0 rfl inX6 (by omega) (j := 0) (by decide) tq_240 rfl rfl (dk dX6_count 32 rfl) rfl ?_
      refine g_getf F (q := 128) h1 rfl inX5 (by omega) (j := 7) (by decide) tq_93 rfl rfl (dk dX6_count 33 rfl) rfl ?_
      have hc1 : E 5 = .inl (cA 2, 10, .inl (v 4)) := hst.z 4 (by omega)
      refine g_callSI F (q := 131) (av := [.ref (ad 5), .int (nI ne)]) (st := []) (c_X6_countFlags_a (n := ne) hc1 (by first | assumption | decide | omega) hcn.bz4) ks_X6_countFlags tq_297 ⟨rfl, rfl⟩ (by decide) ⟨Nat.le_refl _, Nat.le_refl _⟩ rfl rfl (Nat.le_of_ble_eq_true rfl) (dk dX6_count 34 rfl) rfl (fun r128 E128 hp128 => ?_)
      obtain ⟨rfl, rfl⟩ := hp128
      refine hret (sumN (v 4) ne) E _ _ (dk dX6_count 35 rfl) (nint _) ?_
      exact ⟨(by unfold sCount; rw [hx, if_neg (by decide), if_neg (by decide), if_neg (by decide), if_neg (by decide), if_neg (by decide), if_neg (by decide), if_pos rfl, sumN_cg ne (fun i hi => (hcn.ear hi).2.1.symm)]), hco, hmk, hsr, (fun j _ => rfl)⟩
    · have hx : what = 7 := by rw [hsw]; decide
      refine g_tabIn F (tgt := 132) (off := 131) (dk dX6_count 1 rfl) (by rw [hx]; decide) (by rw [hx]; decide) (by rw [hx]; decide) (by decide) ?_
      refine g_aload_n F (q := 133) (dk dX6_count 36 rfl) rfl rfl 0 rfl ?_
      refine g_getf F (q := 136) h0 rfl inX6 (by omega) (j := 0) (by decide) tq_240 rfl rfl (dk dX6_count 37 rfl) rfl ?_
      refine g_getf F (q := 139) h1 rfl inX5 (by omega) (j := 4) (by decide) tq_85 rfl rfl (dk dX6_count 38 rfl) rfl ?_
      refine g_aload_n F (q := 140) (dk dX6_count 39 rfl) rfl rfl 0 rfl ?_
      refine g_getf F (q := 143) h0 rfl inX6 (by omega) (j := 0) (by decide) tq_240 rfl rfl (dk dX6_count 40 rfl) rfl ?_
      refine g_getf F (q := 146) h1 rfl inX5 (by omega) (j := 5) (by decide) tq_88 rfl rfl (dk dX6_count 41 rfl) rfl ?_
      refine g_getf F (q := 149) h7 rfl inX3 (by omega) (j := 4) (by decide) tq_60 rfl rfl (dk dX6_count 42 rfl) rfl ?_
      have hc2 : E 6 = .inl (cA 2, 10, .inl (v 5)) := hst.z 5 (by omega)
      refine g_callSI F (q := 152) (av := [.ref (ad 6), .int (nI nt)]) (st := []) (c_X6_countFlags_b (n := nt) hc2 (by first | assumption | decide | omega) hcn.bz5) ks_X6_countFlags tq_297 ⟨rfl, rfl⟩ (by decide) ⟨Nat.le_refl _, Nat.le_refl _⟩ rfl rfl (Nat.le_of_ble_eq_true rfl) (dk dX6_count 43 rfl) rfl (fun r149 E149 hp149 => ?_)
      obtain ⟨rfl, rfl⟩ := hp149
      refine hret (sumN (v 5) nt) E _ _ (dk dX6_count 44 rfl) (nint _) ?_
      exact ⟨(by unfold sCount; rw [hx, if_neg (by decide), if_neg (by decide), if_neg (by decide), if_neg (by decide), if_neg (by decide), if_neg (by decide), if_neg (by decide), if_pos rfl, sumN_cg nt (g := v 5) (fun i hi => (hcn.th hi).2.2.2.1.symm)]), hco, hmk, hsr, (fun j _ => rfl)⟩
    · have hx : what = 8 := by rw [hsw]; decide
      refine g_tabIn F (tgt := 153) (off := 152) (dk dX6_count 1 rfl) (by rw [hx]; decide) (by rw [hx]; decide) (by rw [hx]; decide) (by decide) ?_
      refine g_aload_n F (q := 154) (dk dX6_count 45 rfl) rfl rfl 0 rfl ?_
      refine g_callVI F (q := 157) (av := []) (st := []) (c_X6_countFitting hco hmk hsr) kv_X6_countFitting tq_300 h0 rfl (by omega) ⟨rfl, rfl⟩ (by decide) ⟨Nat.le_refl _, Nat.le_refl _⟩ rfl rfl (Nat.le_of_ble_eq_true rfl) (dk dX6_count 46 rfl) rfl (fun r154 E154 hp154 => ?_)
      obtain ⟨rfl, hBcore_154, hBmk_154, hBsr_154, hF154⟩ := hp154
      refine hret (nI ((fitN r ne nt nk))) E154 _ _ (dk dX6_count 47 rfl) (nint _) ?_
      exact ⟨(by unfold sCount; rw [hx, if_neg (by decide), if_neg (by decide), if_neg (by decide), if_neg (by decide), if_neg (by decide), if_neg (by decide), if_neg (by decide), if_neg (by decide), if_pos rfl]), hBcore_154, hBmk_154, hBsr_154, (fun j hj => (hF154 j (by omega)))⟩
    · have hx : what = 9 := by rw [hsw]; decide
      refine g_tabIn F (tgt := 158) (off := 157) (dk dX6_count 1 rfl) (by rw [hx]; decide) (by rw [hx]; decide) (by rw [hx]; decide) (by decide) ?_
      refine g_aload_n F (q := 159) (dk dX6_count 48 rfl) rfl rfl 0 rfl ?_
      refine g_getf F (q := 162) h0 rfl inX6 (by omega) (j := 3) (by decide) tq_243 rfl rfl (dk dX6_count 49 rfl) rfl ?_
      refine g_getf F (q := 165) h73 rfl inX0 (by omega) (j := 1) (by decide) tq_135 rfl rfl (dk dX6_count 50 rfl) rfl ?_
      refine hret (nI nh) E _ _ (dk dX6_count 51 rfl) (nint _) ?_
      exact ⟨(by unfold sCount; rw [hx, if_neg (by decide), if_neg (by decide), if_neg (by decide), if_neg (by decide), if_neg (by decide), if_neg (by decide), if_neg (by decide), if_neg (by decide), if_neg (by decide), if_pos rfl]), hco, hmk, hsr, (fun j _ => rfl)⟩
    · have hx : what = 10 := by rw [hsw]; decide
      refine g_tabIn F (tgt := 166) (off := 165) (dk dX6_count 1 rfl) (by rw [hx]; decide) (by rw [hx]; decide) (by rw [hx]; decide) (by decide) ?_
      refine g_aload_n F (q := 167) (dk dX6_count 52 rfl) rfl rfl 0 rfl ?_
      refine g_getf F (q := 170) h0 rfl inX6 (by omega) (j := 4) (by decide) tq_244 rfl rfl (dk dX6_count 53 rfl) rfl ?_
      refine g_getf F (q := 173) h219 rfl inX2 (by omega) (j := 1) (by decide) tq_150 rfl rfl (dk dX6_count 54 rfl) rfl ?_
      refine hret (nI ln) E _ _ (dk dX6_count 55 rfl) (nint _) ?_
      exact ⟨(by unfold sCount; rw [hx, if_neg (by decide), if_neg (by decide), if_neg (by decide), if_neg (by decide), if_neg (by decide), if_neg (by decide), if_neg (by decide), if_neg (by decide), if_neg (by decide), if_neg (by decide), if_pos rfl]), hco, hmk, hsr, (fun j _ => rfl)⟩
theorem kv_X6_count : KV yX6_count "ThumpEars" cX6_count 2 (some .int) 1 := ⟨tq_294, tq_295, tq_9, tq_296, by decide +kernel⟩
