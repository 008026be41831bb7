abbrev rm_X4_listen : Room := { frames := 3, cells := 0, slots := 0, locals := 75 }
set_option maxHeartbeats 4000000 in
set_option maxRecDepth 100000 in
theorem c_X4_listen {l : Launch} {D : va_G} {cA : Nat → ClassId} {ad : Nat → Nat} {E : Nat → va_E} {s0 px m0 : Int32} {pp ls gr : Int64} {rt : Nat → Int64} {v : Nat → Nat → Int32} {r : Nat → Int32} {ne nt nk : Nat} {ea pl th rd er : Nat → Int32} {kn : Nat} (h229 : E 229 = .inr (4, [.ref (ad 230), .ref (ad 231), .ref (ad 232), .int s0, .long pp, .int px, .long ls, .long gr])) (h225 : E 225 = .inr (1, [.ref (ad 226), .ref (ad 227), .ref (ad 228), .int m0])) (hsea : E 230 = .inl (cA 0, 10, .inl ea)) (hspl : E 231 = .inl (cA 0, 10, .inl pl)) (hsrt : E 232 = .inl (cA 1, 10, .inr (.inl rt))) (hth : E 226 = .inl (cA 0, 10, .inl th)) (hrd : E 227 = .inl (cA 0, 10, .inl rd)) (her : E 228 = .inl (cA 0, 10, .inl er)) (hst : StA cA ad E 1 v) (hcn : Can v r ne nt nk) (hk : kn < nk) : CtV l D cA yX4_listen cX4_listen 6 rm_X4_listen 235 ad E [.ref (ad 229), .ref (ad 1), .int (nI kn), .ref (ad 225)] (fun E' => ∃ (m1 : Int32) (th1 : Nat → Int32) (rd1 : Nat → Int32) (er1 : Nat → Int32) (ea1 : Nat → Int32) (pl1 : Nat → Int32) (rt1 : Nat → Int64), E' 229 = .inr (4, [.ref (ad 230), .ref (ad 231), .ref (ad 232), .int (nI ((hC r kn ne))), .long (1000 * (r (46 + 50 * 1 + 5 * kn + 3)).toInt64), .int px, .long ls, .long gr]) ∧ E' 230 = .inl (cA 0, 10, .inl ea1) ∧ E' 231 = .inl (cA 0, 10, .inl pl1) ∧ E' 232 = .inl (cA 1, 10, .inr (.inl rt1)) ∧ E' 225 = .inr (1, [.ref (ad 226), .ref (ad 227), .ref (ad 228), .int m1]) ∧ E' 226 = .inl (cA 0, 10, .inl th1) ∧ E' 227 = .inl (cA 0, 10, .inl rd1) ∧ E' 228 = .inl (cA 0, 10, .inl er1) ∧ (sH r nt kn ne ea1 pl1 rt1) ∧ ∀ j, (j ≠ 229 ∧ j ≠ 230 ∧ j ≠ 231 ∧ j ≠ 232 ∧ j ≠ 225 ∧ j ≠ 226 ∧ j ≠ 227 ∧ j ≠ 228) → E' j = E j) := by
  refine CtV.of (by decide +kernel) (Nat.le_of_ble_eq_true rfl) (fun X F hret => ?_)
  have F : Fr "ThumpEars$Source" cX4_listen 6 D cA X := F
  refine (show GG rm_X4_listen 6 l D X 0 0 235 ad E 0 [(0, .ref (ad 229)), (1, .ref (ad 1)), (2, .int (nI kn)), (3, .ref (ad 225))] [] from ?_)
  have hne := hcn.i.e0
  have hnt := hcn.i.e1
  have hnk := hcn.i.e2
  have hkn := hcn.kn hk
  refine g_aload_n F (q := 1) (dk dX4_listen 0 rfl) rfl rfl 0 rfl ?_
  refine g_iconst F (q := 2) (v := 0) (dk dX4_listen 1 rfl) rfl (by decide) ?_
  refine g_putf F (q := 5) (ty := .int) h229 rfl inX4 tyX4 tyX4_ok nmX4 (by omega) (j := 3) (by decide) tq_215 rfl rfl (by decide +kernel) rfl rfl (Nat.le_of_ble_eq_true rfl) (dk dX4_listen 2 rfl) rfl (fun E2 hE2 hO2 => ?_)
  have hE2 : E2 229 = .inr (4, [.ref (ad 230), .ref (ad 231), .ref (ad 232), .int 0, .long pp, .int px, .long ls, .long gr]) := hE2
  refine g_aload_n F (q := 6) (dk dX4_listen 3 rfl) rfl rfl 0 rfl ?_
  refine g_ldc2 F (q := 9) (v := 1000) (dk dX4_listen 4 rfl) rfl tq_308 ?_
  refine g_aload_n F (q := 10) (dk dX4_listen 5 rfl) rfl rfl 1 rfl ?_
  have hb1 := hst.fr (fun j h1 h2 => hO2 j (by omega))
  have hc2 : E2 1 = .inr (5, [.ref (ad 2), .ref (ad 3), .ref (ad 4), .ref (ad 5), .ref (ad 6), .ref (ad 7), .ref (ad 22), .int (v 0 0), .int (v 0 1), .int (v 0 2), .int (v 0 3)]) := hb1.o
  refine g_getf F (q := 13) hc2 rfl inX5 (by omega) (j := 6) (by decide) tq_90 rfl rfl (dk dX4_listen 6 rfl) rfl ?_
  have hc3 : E2 22 = .inr (3, [.ref (ad 23), .ref (ad 24), .ref (ad 25), .ref (ad 26), .int (v 21 0)]) := hb1.k
  refine g_getf F (q := 16) hc3 rfl inX3 (by omega) (j := 2) (by decide) tq_49 rfl rfl (dk dX4_listen 7 rfl) rfl ?_
  refine g_iload_n F (q := 17) (dk dX4_listen 8 rfl) rfl rfl 2 rfl ?_
  have hc4 : E2 25 = .inl (cA 0, 10, .inl (v 24)) := hb1.a 24 (by omega)
  refine g_iald F (q := 18) kn hc4 (by omega) rfl (by omega) (by decide) (dk dX4_listen 9 rfl) rfl ?_
  refine g_sti (y := (r (46 + 50 * 1 + 5 * kn + 3))) hkn.2.2.1 ?_
  refine g_i2l F (q := 19) (dk dX4_listen 10 rfl) rfl ?_
  refine g_lmul F (q := 20) (dk dX4_listen 11 rfl) rfl ?_
  refine g_putf F (q := 23) (ty := .long) hE2 rfl inX4 tyX4 tyX4_ok nmX4 (by omega) (j := 4) (by decide) tq_217 rfl rfl (by decide +kernel) rfl rfl (Nat.le_of_ble_eq_true rfl) (dk dX4_listen 12 rfl) rfl (fun E20 hE20 hO20 => ?_)
  have hE20 : E20 229 = .inr (4, [.ref (ad 230), .ref (ad 231), .ref (ad 232), .int 0, .long (1000 * (r (46 + 50 * 1 + 5 * kn + 3)).toInt64), .int px, .long ls, .long gr]) := hE20
  refine g_iconst F (q := 24) (v := 0) (dk dX4_listen 13 rfl) rfl (by decide) ?_
  refine g_istore F (q := 26) (lv' := [(4, .int 0), (0, .ref (ad 229)), (1, .ref (ad 1)), (2, .int (nI kn)), (3, .ref (ad 225))]) (dk dX4_listen 14 rfl) rfl (Nat.le_of_ble_eq_true rfl) rfl ?_
  have K26 : ∀ (fu : Nat) (i : Nat) (ea1 : Nat → Int32) (pl1 : Nat → Int32) (rt1 : Nat → Int64) (m1 : Int32) (th1 : Nat → Int32) (rd1 : Nat → Int32) (er1 : Nat → Int32) (E1 : Nat → va_E), ne - i < fu → (h229 : E1 229 = .inr (4, [.ref (ad 230), .ref (ad 231), .ref (ad 232), .int (nI ((hC r kn i))), .long (1000 * (r (46 + 50 * 1 + 5 * kn + 3)).toInt64), .int px, .long ls, .long gr])) → (h30 : E1 230 = .inl (cA 0, 10, .inl ea1)) → (h31 : E1 231 = .inl (cA 0, 10, .inl pl1)) → (h32 : E1 232 = .inl (cA 1, 10, .inr (.inl rt1))) → (h225 : E1 225 = .inr (1, [.ref (ad 226), .ref (ad 227), .ref (ad 228), .int m1])) → (h26 : E1 226 = .inl (cA 0, 10, .inl th1)) → (h27 : E1 227 = .inl (cA 0, 10, .inl rd1)) → (h28 : E1 228 = .inl (cA 0, 10, .inl er1)) → (hfr26 : ∀ j, (j ≠ 229 ∧ j ≠ 230 ∧ j ≠ 231 ∧ j ≠ 232 ∧ j ≠ 225 ∧ j ≠ 226 ∧ j ≠ 227 ∧ j ≠ 228) → E1 j = E20 j) → (hi : i ≤ ne) → (hS : sH r nt kn i ea1 pl1 rt1) → GG rm_X4_listen 6 l D X 0 0 235 ad E1 26 [(0, .ref (ad 229)), (1, .ref (ad 1)), (2, .int (nI kn)), (3, .ref (ad 225)), (4, .int (nI i))] [] := by
    intro fu
    induction fu with
    | zero => intro i ea1 pl1 rt1 m1 th1 rd1 er1 E1 hfu_; exact absurd hfu_ (Nat.not_lt_zero _)
    | succ fu ih =>
      intro i ea1 pl1 rt1 m1 th1 rd1 er1 E1 hfu_ h229 h30 h31 h32 h225 h26 h27 h28 hfr26 hi hS
      have hhl := hC_le (r := r) (kn := kn) i
      refine g_iload F (q := 28) (dk dX4_listen 15 rfl) rfl 4 rfl ?_
      refine g_aload_n F (q := 29) (dk dX4_listen 16 rfl) rfl rfl 1 rfl ?_
      have hc5 := (hO20 1 (by omega)).trans hc2
      have hc6 := (hfr26 1 (by omega)).trans hc5
      refine g_getf F (q := 32) hc6 rfl inX5 (by omega) (j := 7) (by decide) tq_94 rfl rfl (dk dX4_listen 17 rfl) rfl ?_
      refine g_sti (y := (nI ne)) hcn.n0 ?_
      refine g_icmp_ge F (q := 35) (tgt := 121) (dk dX4_listen 18 rfl) (by decide) rfl (fun c32 => ?_) (fun c32 => ?_)
      · have nc32 : ne ≤ i := (nI_leI (a := ne) (b := i) (by omega) (by omega)).mp c32
        refine hret E1 _ _ (dk dX4_listen 65 rfl) ?_
        have hie : i = ne := by omega
        subst hie
        exact ⟨_, _, _, _, _, _, _, h229, h30, h31, h32, h225, h26, h27, h28, hS, (fun j hj => (((hfr26 j (by omega)).trans (hO20 j (by omega))).trans (hO2 j (by omega))))⟩
      · have nc32 : ¬ ne ≤ i := fun h => c32 ((nI_leI (a := ne) (b := i) (by omega) (by omega)).mpr h)
        have hin := Nat.lt_of_not_le nc32
        refine g_aload_n F (q := 36) (dk dX4_listen 19 rfl) rfl rfl 1 rfl ?_
        refine g_getf F (q := 39) hc6 rfl inX5 (by omega) (j := 6) (by decide) tq_90 rfl rfl (dk dX4_listen 20 rfl) rfl ?_
        have hc7 := (hO20 22 (by omega)).trans hc3
        have hc8 := (hfr26 22 (by omega)).trans hc7
        refine g_getf F (q := 42) hc8 rfl inX3 (by omega) (j := 3) (by decide) tq_54 rfl rfl (dk dX4_listen 21 rfl) rfl ?_
        refine g_iload_n F (q := 43) (dk dX4_listen 22 rfl) rfl rfl 2 rfl ?_
        have hb9 := hb1.fr (fun j h1 h2 => hO20 j (by omega))
        have hb10 := hb9.fr (fun j h1 h2 => hfr26 j (by omega))
        have hc11 : E1 26 = .inl (cA 5, 10, .inr (.inr (.inr (.inr (fun i => some (ad (27 + i))))))) := hb10.rk
        refine g_aald5 F (q := 44) kn hc11 (by omega) rfl (by omega) (by decide) rfl (dk dX4_listen 23 rfl) rfl ?_
        refine g_iload F (q := 46) (dk dX4_listen 24 rfl) rfl 4 rfl ?_
        have hc12 : E1 ((27 + kn)) = .inl (cA 0, 10, .inl (v (26 + kn))) := (hb10.row 26 kn (by decide) (by omega))
        refine g_iald F (q := 47) i hc12 (by omega) rfl (by omega) (by decide) (dk dX4_listen 25 rfl) rfl ?_
        refine g_istore F (q := 49) (lv' := [(5, .int ((v (26 + kn)) i)), (0, .ref (ad 229)), (1, .ref (ad 1)), (2, .int (nI kn)), (3, .ref (ad 225)), (4, .int (nI i))]) (dk dX4_listen 26 rfl) rfl (Nat.le_of_ble_eq_true rfl) rfl ?_
        refine g_iload F (q := 51) (dk dX4_listen 27 rfl) rfl 0 rfl ?_
        refine g_ldc F (q := 53) (v := (-1000000)) (dk dX4_listen 28 rfl) rfl tq_309 ?_
        refine g_sti (y := SIL) rfl ?_
        refine g_icmp_eq F (q := 56) (tgt := 115) (dk dX4_listen 29 rfl) (by decide) rfl (fun c53 => ?_) (fun c53 => ?_)
        · refine g_iinc F (q := 118) (v := (nI ((i + 1)))) (lv' := [(4, .int (nI ((i + 1)))), (5, .int ((v (26 + kn)) i)), (0, .ref (ad 229)), (1, .ref (ad 1)), (2, .int (nI kn)), (3, .ref (ad 225))]) (dk dX4_listen 63 rfl) rfl 5 rfl (nI_1 _) (Nat.le_of_ble_eq_true rfl) rfl ?_
          refine g_goto F (tgt := 26) (dk dX4_listen 64 rfl) (by decide) ?_
          refine g_lv (lv' := [(0, .ref (ad 229)), (1, .ref (ad 1)), (2, .int (nI kn)), (3, .ref (ad 225)), (4, .int (nI ((i + 1))))]) [2, 3, 4, 5, 0] rfl ?_
          exact ih (i + 1) ea1 pl1 rt1 m1 th1 rd1 er1 E1 (by omega) (by rw [(hF_f ((hkn.2.2.2 i (by omega)).s c53)).1]; exact h229) h30 h31 h32 h225 h26 h27 h28 (fun j hj => (hfr26 j (by omega))) (by omega) (sH_f ((hkn.2.2.2 i (by omega)).s c53) hS)
        · refine g_aload_n F (q := 57) (dk dX4_listen 30 rfl) rfl rfl 4 rfl ?_
          refine g_aload_n F (q := 58) (dk dX4_listen 31 rfl) rfl rfl 2 rfl ?_
          refine g_iload F (q := 60) (dk dX4_listen 32 rfl) rfl 5 rfl ?_
          refine g_callVV F (q := 63) (av := [.ref (ad 1), .int (nI i)]) (st := []) (c_X1_gather (e := i) h225 h26 h27 h28 hb10 (by first | assumption | decide | omega) (by first | assumption | decide | omega)) kv_X1_gather tq_310 h225 rfl (by omega) ⟨rfl, rfl⟩ (by decide) ⟨Nat.le_refl _, Nat.le_refl _⟩ rfl rfl (Nat.le_of_ble_eq_true rfl) (dk dX4_listen 33 rfl) rfl (fun E60 hp60 => ?_)
          obtain ⟨th1_60, rd1_60, er1_60, hK225_60, hK226_60, hK227_60, hK228_60, hH_60, hF60⟩ := hp60
          have hml := mC_le (r := r) (e := i) nt
          refine g_aload_n F (q := 64) (dk dX4_listen 34 rfl) rfl rfl 1 rfl ?_
          have hc13 := (hF60 229 (by omega)).trans h229
          refine g_getf F (q := 67) hc13 rfl inX4 (by omega) (j := 0) (by decide) tq_212 rfl rfl (dk dX4_listen 35 rfl) rfl ?_
          refine g_aload_n F (q := 68) (dk dX4_listen 36 rfl) rfl rfl 1 rfl ?_
          refine g_getf F (q := 71) hc13 rfl inX4 (by omega) (j := 3) (by decide) tq_215 rfl rfl (dk dX4_listen 37 rfl) rfl ?_
          refine g_iload F (q := 73) (dk dX4_listen 38 rfl) rfl 5 rfl ?_
          have hc14 := (hF60 230 (by omega)).trans h30
          refine g_iast F (q := 74) ((hC r kn i)) hc14 (by omega) rfl (by omega) (by decide) (dk dX4_listen 39 rfl) rfl (fun E73 hE73 hO73 => ?_)
          refine g_aload_n F (q := 75) (dk dX4_listen 40 rfl) rfl rfl 1 rfl ?_
          have hc15 := (hO73 229 (by omega)).trans hc13
          refine g_getf F (q := 78) hc15 rfl inX4 (by omega) (j := 1) (by decide) tq_213 rfl rfl (dk dX4_listen 41 rfl) rfl ?_
          refine g_aload_n F (q := 79) (dk dX4_listen 42 rfl) rfl rfl 1 rfl ?_
          refine g_getf F (q := 82) hc15 rfl inX4 (by omega) (j := 3) (by decide) tq_215 rfl rfl (dk dX4_listen 43 rfl) rfl ?_
          refine g_aload_n F (q := 83) (dk dX4_listen 44 rfl) rfl rfl 2 rfl ?_
          have hc16 := (hF60 1 (by omega)).trans hc6
          have hc17 := (hO73 1 (by omega)).trans hc16
          refine g_getf F (q := 86) hc17 rfl inX5 (by omega) (j := 0) (by decide) tq_75 rfl rfl (dk dX4_listen 45 rfl) rfl ?_
          refine g_iload F (q := 88) (dk dX4_listen 46 rfl) rfl 5 rfl ?_
          have hb18 := hb10.fr (fun j h1 h2 => hF60 j (by omega))
          have hb19 := hb18.fr (fun j h1 h2 => hO73 j (by omega))
          have hc20 : E73 2 = .inl (cA 0, 10, .inl (v 1)) := hb19.a 1 (by omega)
          refine g_iald F (q := 89) i hc20 (by omega) rfl (by omega) (by decide) (dk dX4_listen 47 rfl) rfl ?_
          have hc21 := (hF60 231 (by omega)).trans h31
          have hc22 := (hO73 231 (by omega)).trans hc21
          refine g_iast F (q := 90) ((hC r kn i)) hc22 (by omega) rfl (by omega) (by decide) (dk dX4_listen 48 rfl) rfl (fun E89 hE89 hO89 => ?_)
          refine g_aload_n F (q := 91) (dk dX4_listen 49 rfl) rfl rfl 1 rfl ?_
          have hc23 := (hO89 229 (by omega)).trans hc15
          refine g_getf F (q := 94) hc23 rfl inX4 (by omega) (j := 2) (by decide) tq_214 rfl rfl (dk dX4_listen 50 rfl) rfl ?_
          refine g_aload_n F (q := 95) (dk dX4_listen 51 rfl) rfl rfl 1 rfl ?_
          refine g_getf F (q := 98) hc23 rfl inX4 (by omega) (j := 3) (by decide) tq_215 rfl rfl (dk dX4_listen 52 rfl) rfl ?_
          refine g_aload_n F (q := 99) (dk dX4_listen 53 rfl) rfl rfl 4 rfl ?_
          refine g_iload F (q := 101) (dk dX4_listen 54 rfl) rfl 0 rfl ?_
          have hc24 := (hO73 225 (by omega)).trans hK225_60
          have hc25 := (hO89 225 (by omega)).trans hc24
          have hc26 := (hO73 227 (by omega)).trans hK227_60
          have hc27 := (hO89 227 (by omega)).trans hc26
          have hc28 := (hO73 228 (by omega)).trans hK228_60
          have hc29 := (hO89 228 (by omega)).trans hc28
          refine g_callVL F (q := 104) (av := [.int ((v (26 + kn)) i)]) (st := [.int (nI ((hC r kn i))), .ref (ad 232)]) (c_X1_rightTime (y := ((v (26 + kn)) i)) hc25 hc27 hc29 (by first | assumption | decide | omega) (mH_mo hH_60) (mH_b hcn.i (by omega) hH_60)) kv_X1_rightTime tq_326 hc25 rfl (by omega) ⟨rfl, rfl⟩ (by decide) ⟨Nat.le_refl _, Nat.le_refl _⟩ rfl rfl (Nat.le_of_ble_eq_true rfl) (dk dX4_listen 55 rfl) rfl (fun r101 E101 hp101 => ?_)
          obtain ⟨rfl, rfl⟩ := hp101
          have hc30 := (hF60 232 (by omega)).trans h32
          have hc31 := (hO73 232 (by omega)).trans hc30
          have hc32 := (hO89 232 (by omega)).trans hc31
          refine g_last F (q := 105) ((hC r kn i)) hc32 (by omega) rfl (by omega) (by decide) (dk dX4_listen 56 rfl) rfl (fun E104 hE104 hO104 => ?_)
          refine g_aload_n F (q := 106) (dk dX4_listen 57 rfl) rfl rfl 1 rfl ?_
          refine g_dup F (q := 107) (dk dX4_listen 58 rfl) rfl rfl ?_
          have hc33 := (hO104 229 (by omega)).trans hc23
          refine g_getf F (q := 110) hc33 rfl inX4 (by omega) (j := 3) (by decide) tq_215 rfl rfl (dk dX4_listen 59 rfl) rfl ?_
          refine g_iconst F (q := 111) (v := 1) (dk dX4_listen 60 rfl) rfl (by decide) ?_
          refine g_iadd F (q := 112) (dk dX4_listen 61 rfl) rfl ?_
          refine g_sti (nA rfl rfl) ?_
          refine g_putf F (q := 115) (ty := .int) hc33 rfl inX4 tyX4 tyX4_ok nmX4 (by omega) (j := 3) (by decide) tq_215 rfl rfl (by decide +kernel) rfl rfl (Nat.le_of_ble_eq_true rfl) (dk dX4_listen 62 rfl) rfl (fun E112 hE112 hO112 => ?_)
          have hE112 : E112 229 = .inr (4, [.ref (ad 230), .ref (ad 231), .ref (ad 232), .int (nI (((hC r kn i) + 1))), .long (1000 * (r (46 + 50 * 1 + 5 * kn + 3)).toInt64), .int px, .long ls, .long gr]) := hE112
          refine g_iinc F (q := 118) (v := (nI ((i + 1)))) (lv' := [(4, .int (nI ((i + 1)))), (5, .int ((v (26 + kn)) i)), (0, .ref (ad 229)), (1, .ref (ad 1)), (2, .int (nI kn)), (3, .ref (ad 225))]) (dk dX4_listen 63 rfl) rfl 5 rfl (nI_1 _) (Nat.le_of_ble_eq_true rfl) rfl ?_
          refine g_goto F (tgt := 26) (dk dX4_listen 64 rfl) (by decide) ?_
          have hc34 := (hO89 230 (by omega)).trans hE73
          have hc35 := (hO104 230 (by omega)).trans hc34
          have hc36 := (hO112 230 (by omega)).trans hc35
          have hc37 := (hO104 231 (by omega)).trans hE89
          have hc38 := (hO112 231 (by omega)).trans hc37
          have hc39 := (hO112 232 (by omega)).trans hE104
          refine g_lv (lv' := [(0, .ref (ad 229)), (1, .ref (ad 1)), (2, .int (nI kn)), (3, .ref (ad 225)), (4, .int (nI ((i + 1))))]) [2, 3, 4, 5, 0] rfl ?_
          have hc40 := (hO104 225 (by omega)).trans hc25
          have hc41 := (hO112 225 (by omega)).trans hc40
          have hc42 := (hO73 226 (by omega)).trans hK226_60
          have hc43 := (hO89 226 (by omega)).trans hc42
          have hc44 := (hO104 226 (by omega)).trans hc43
          have hc45 := (hO112 226 (by omega)).trans hc44
          have hc46 := (hO104 227 (by omega)).trans hc27
          have hc47 := (hO112 227 (by omega)).trans hc46
          have hc48 := (hO104 228 (by omega)).trans hc29
          have hc49 := (hO112 228 (by omega)).trans hc48
          exact ih (i + 1) (upd ea1 ((hC r kn i)) (nI i)) (upd pl1 ((hC r kn i)) ((v 1) i)) (vp_updL rt1 ((hC r kn i)) (1000 * ((v (26 + kn)) i).toInt64 - eA (mC r i nt) rd1_60 er1_60 ((v (26 + kn)) i))) (nI ((mC r i nt))) th1_60 rd1_60 er1_60 E112 (by omega) (by rw [(hF_t ((hkn.2.2.2 i (by omega)).n c53).2.1).1]; exact hE112) hc36 hc38 hc39 hc41 hc45 hc47 hc49 (fun j hj => ((((((hO112 j (by omega)).trans (hO104 j (by omega))).trans (hO89 j (by omega))).trans (hO73 j (by omega))).trans (hF60 j (by omega))).trans (hfr26 j (by omega)))) (by omega) (sH_t ((hkn.2.2.2 i (by omega)).n c53).2.1 hS (hcn.ear hin).1 (rgt_of hH_60 ((hkn.2.2.2 i (by omega)).n c53).1))
  refine g_lv (lv' := [(0, .ref (ad 229)), (1, .ref (ad 1)), (2, .int (nI kn)), (3, .ref (ad 225)), (4, .int 0)]) [1, 2, 3, 4, 0] rfl ?_
  have hc50 := (hO2 230 (by omega)).trans hsea
  have hc51 := (hO20 230 (by omega)).trans hc50
  have hc52 := (hO2 231 (by omega)).trans hspl
  have hc53 := (hO20 231 (by omega)).trans hc52
  have hc54 := (hO2 232 (by omega)).trans hsrt
  have hc55 := (hO20 232 (by omega)).trans hc54
  have hc56 := (hO2 225 (by omega)).trans h225
  have hc57 := (hO20 225 (by omega)).trans hc56
  have hc58 := (hO2 226 (by omega)).trans hth
  have hc59 := (hO20 226 (by omega)).trans hc58
  have hc60 := (hO2 227 (by omega)).trans hrd
  have hc61 := (hO20 227 (by omega)).trans hc60
  have hc62 := (hO2 228 (by omega)).trans her
  have hc63 := (hO20 228 (by omega)).trans hc62
  exact K26 _ 0 ea pl rt m0 th rd er E20 (Nat.lt_succ_self _) hE20 hc51 hc53 hc55 hc57 hc59 hc61 hc63 (fun j _ => rfl) (by omega) sH_0
theorem kv_X4_listen : KV yX4_listen "ThumpEars$Source" cX4_listen 6 (none) 3 := ⟨tq_305, tq_306, tq_15, tq_307, by decide +kernel⟩
