abbrev rm_X1_gather : Room := { frames := 2, cells := 0, slots := 0, locals := 46 }
set_option maxHeartbeats 4000000 in
set_option maxRecDepth 100000 in
theorem c_X1_gather {l : Launch} {D : va_G} {cA : Nat → ClassId} {ad : Nat → Nat} {E : Nat → va_E} {s0 : Int32} {v : Nat → Nat → Int32} {r : Nat → Int32} {ne nt nk : Nat} {th rd er : Nat → Int32} {e : Nat} (h225 : E 225 = .inr (1, [.ref (ad 226), .ref (ad 227), .ref (ad 228), .int s0])) (hth : E 226 = .inl (cA 0, 10, .inl th)) (hrd : E 227 = .inl (cA 0, 10, .inl rd)) (her : E 228 = .inl (cA 0, 10, .inl er)) (hst : StA cA ad E 1 v) (hcn : Can v r ne nt nk) (he : e < ne) : CtV l D cA yX1_gather cX1_gather 7 rm_X1_gather 235 ad E [.ref (ad 225), .ref (ad 1), .int (nI e)] (fun E' => ∃ (th1 : Nat → Int32) (rd1 : Nat → Int32) (er1 : Nat → Int32), E' 225 = .inr (1, [.ref (ad 226), .ref (ad 227), .ref (ad 228), .int (nI ((mC r e nt)))]) ∧ E' 226 = .inl (cA 0, 10, .inl th1) ∧ E' 227 = .inl (cA 0, 10, .inl rd1) ∧ E' 228 = .inl (cA 0, 10, .inl er1) ∧ (mH r e nt rd1 er1 th1) ∧ ∀ j, (j ≠ 225 ∧ j ≠ 226 ∧ j ≠ 227 ∧ j ≠ 228) → E' j = E j) := by
  refine CtV.of (by decide +kernel) (Nat.le_of_ble_eq_true rfl) (fun X F hret => ?_)
  have F : Fr "ThumpEars$Marks" cX1_gather 7 D cA X := F
  refine (show GG rm_X1_gather 7 l D X 0 0 235 ad E 0 [(0, .ref (ad 225)), (1, .ref (ad 1)), (2, .int (nI e))] [] from ?_)
  have hne := hcn.i.e0
  have hnt := hcn.i.e1
  have he10 : e < 10 := by omega
  refine g_aload_n F (q := 1) (dk dX1_gather 0 rfl) rfl rfl 1 rfl ?_
  have hc1 : E 1 = .inr (5, [.ref (ad 2), .ref (ad 3), .ref (ad 4), .ref (ad 5), .ref (ad 6), .ref (ad 7), .ref (ad 22), .int (v 0 0), .int (v 0 1), .int (v 0 2), .int (v 0 3)]) := hst.o
  refine g_getf F (q := 4) hc1 rfl inX5 (by omega) (j := 5) (by decide) tq_87 rfl rfl (dk dX1_gather 1 rfl) rfl ?_
  refine g_astore_n F (q := 5) (lv' := [(3, .ref (ad 7)), (0, .ref (ad 225)), (1, .ref (ad 1)), (2, .int (nI e))]) (dk dX1_gather 2 rfl) rfl rfl (Nat.le_of_ble_eq_true rfl) rfl ?_
  refine g_aload_n F (q := 6) (dk dX1_gather 3 rfl) rfl rfl 1 rfl ?_
  refine g_iconst F (q := 7) (v := 0) (dk dX1_gather 4 rfl) rfl (by decide) ?_
  refine g_putf F (q := 10) (ty := .int) h225 rfl inX1 tyX1 tyX1_ok nmX1 (by omega) (j := 3) (by decide) tq_195 rfl rfl (by decide +kernel) rfl rfl (Nat.le_of_ble_eq_true rfl) (dk dX1_gather 5 rfl) rfl (fun E7 hE7 hO7 => ?_)
  have hE7 : E7 225 = .inr (1, [.ref (ad 226), .ref (ad 227), .ref (ad 228), .int 0]) := hE7
  refine g_iconst F (q := 11) (v := 0) (dk dX1_gather 6 rfl) rfl (by decide) ?_
  refine g_istore F (q := 13) (lv' := [(4, .int 0), (3, .ref (ad 7)), (0, .ref (ad 225)), (1, .ref (ad 1)), (2, .int (nI e))]) (dk dX1_gather 7 rfl) rfl (Nat.le_of_ble_eq_true rfl) rfl ?_
  have K13 : ∀ (fu : Nat) (i : Nat) (th1 : Nat → Int32) (rd1 : Nat → Int32) (er1 : Nat → Int32) (E1 : Nat → va_E), nt - i < fu → (h225 : E1 225 = .inr (1, [.ref (ad 226), .ref (ad 227), .ref (ad 228), .int (nI ((mC r e i)))])) → (hthm : E1 226 = .inl (cA 0, 10, .inl th1)) → (hrd : E1 227 = .inl (cA 0, 10, .inl rd1)) → (her : E1 228 = .inl (cA 0, 10, .inl er1)) → (hfr13 : ∀ j, (j ≠ 225 ∧ j ≠ 226 ∧ j ≠ 227 ∧ j ≠ 228) → E1 j = E7 j) → (hi : i ≤ nt) → (hH : mH r e i rd1 er1 th1) → GG rm_X1_gather 7 l D X 0 0 235 ad E1 13 [(0, .ref (ad 225)), (1, .ref (ad 1)), (2, .int (nI e)), (3, .ref (ad 7)), (4, .int (nI i))] [] := by
    intro fu
    induction fu with
    | zero => intro i th1 rd1 er1 E1 hfu_; exact absurd hfu_ (Nat.not_lt_zero _)
    | succ fu ih =>
      intro i th1 rd1 er1 E1 hfu_ h225 hthm hrd her hfr13 hi hH
      have hml := mC_le (r := r) (e := e) i
      refine g_iload F (q := 15) (dk dX1_gather 8 rfl) rfl 4 rfl ?_
      refine g_aload_n F (q := 16) (dk dX1_gather 9 rfl) rfl rfl 3 rfl ?_
      have hb2 := hst.fr (fun j h1 h2 => hO7 j (by omega))
      have hb3 := hb2.fr (fun j h1 h2 => hfr13 j (by omega))
      have hc4 : E1 7 = .inr (3, [.ref (ad 8), .ref (ad 9), .ref (ad 10), .ref (ad 11), .int (v 6 0)]) := hb3.t
      refine g_getf F (q := 19) hc4 rfl inX3 (by omega) (j := 4) (by decide) tq_58 rfl rfl (dk dX1_gather 10 rfl) rfl ?_
      refine g_sti (y := (nI nt)) hcn.n1 ?_
      refine g_icmp_ge F (q := 22) (tgt := 141) (dk dX1_gather 11 rfl) (by decide) rfl (fun c19 => ?_) (fun c19 => ?_)
      · have nc19 : nt ≤ i := (nI_leI (a := nt) (b := i) (by omega) (by omega)).mp c19
        refine hret E1 _ _ (dk dX1_gather 77 rfl) ?_
        have hie : i = nt := by omega
        subst hie
        exact ⟨_, _, _, h225, hthm, hrd, her, hH, (fun j hj => ((hfr13 j (by omega)).trans (hO7 j (by omega))))⟩
      · have nc19 : ¬ nt ≤ i := fun h => c19 ((nI_leI (a := nt) (b := i) (by omega) (by omega)).mpr h)
        have hin := Nat.lt_of_not_le nc19
        have hth := hcn.th hin
        refine g_aload_n F (q := 23) (dk dX1_gather 12 rfl) rfl rfl 3 rfl ?_
        refine g_getf F (q := 26) hc4 rfl inX3 (by omega) (j := 3) (by decide) tq_53 rfl rfl (dk dX1_gather 13 rfl) rfl ?_
        refine g_iload F (q := 28) (dk dX1_gather 14 rfl) rfl 4 rfl ?_
        have hc5 : E1 11 = .inl (cA 5, 10, .inr (.inr (.inr (.inr (fun i => some (ad (12 + i))))))) := hb3.rt
        refine g_aald5 F (q := 29) i hc5 (by omega) rfl (by omega) (by decide) rfl (dk dX1_gather 15 rfl) rfl ?_
        refine g_iload_n F (q := 30) (dk dX1_gather 16 rfl) rfl rfl 2 rfl ?_
        have hc6 : E1 ((12 + i)) = .inl (cA 0, 10, .inl (v (11 + i))) := (hb3.row 11 i (by decide) (by omega))
        refine g_iald F (q := 31) e hc6 (by omega) rfl (by omega) (by decide) (dk dX1_gather 17 rfl) rfl ?_
        refine g_istore F (q := 33) (lv' := [(5, .int ((v (11 + i)) e)), (0, .ref (ad 225)), (1, .ref (ad 1)), (2, .int (nI e)), (3, .ref (ad 7)), (4, .int (nI i))]) (dk dX1_gather 18 rfl) rfl (Nat.le_of_ble_eq_true rfl) rfl ?_
        refine g_iload F (q := 35) (dk dX1_gather 19 rfl) rfl 0 rfl ?_
        refine g_ldc F (q := 37) (v := (-1000000)) (dk dX1_gather 20 rfl) rfl tq_314 ?_
        refine g_sti (y := SIL) rfl ?_
        refine g_icmp_eq F (q := 40) (tgt := 135) (dk dX1_gather 21 rfl) (by decide) rfl (fun c37 => ?_) (fun c37 => ?_)
        · refine g_iinc F (q := 138) (v := (nI ((i + 1)))) (lv' := [(4, .int (nI ((i + 1)))), (5, .int ((v (11 + i)) e)), (0, .ref (ad 225)), (1, .ref (ad 1)), (2, .int (nI e)), (3, .ref (ad 7))]) (dk dX1_gather 75 rfl) rfl 5 rfl (nI_1 _) (Nat.le_of_ble_eq_true rfl) rfl ?_
          refine g_goto F (tgt := 13) (dk dX1_gather 76 rfl) (by decide) ?_
          have hg : ¬ mG r e i (mC r e i) (mRd r e i) := fun h => h.1 ((hth.2.2.2.2 e he10).s c37)
          refine g_lv (lv' := [(0, .ref (ad 225)), (1, .ref (ad 1)), (2, .int (nI e)), (3, .ref (ad 7)), (4, .int (nI ((i + 1))))]) [2, 3, 4, 5, 0] rfl ?_
          exact ih (i + 1) th1 rd1 er1 E1 (by omega) (by rw [mC_f hg]; exact h225) hthm hrd her (fun j hj => (hfr13 j (by omega))) (by omega) (mH_f hg hH)
        · refine g_aload_n F (q := 41) (dk dX1_gather 22 rfl) rfl rfl 2 rfl ?_
          have hc7 := (hO7 1 (by omega)).trans hc1
          have hc8 := (hfr13 1 (by omega)).trans hc7
          refine g_getf F (q := 44) hc8 rfl inX5 (by omega) (j := 4) (by decide) tq_84 rfl rfl (dk dX1_gather 23 rfl) rfl ?_
          refine g_iload F (q := 46) (dk dX1_gather 24 rfl) rfl 5 rfl ?_
          have hc9 : E1 6 = .inl (cA 2, 10, .inl (v 5)) := hb3.z 5 (by omega)
          refine g_zald F (q := 47) i hc9 (by omega) rfl (by omega) (by decide) (dk dX1_gather 25 rfl) rfl ?_
          refine g_if_ne F (q := 50) (tgt := 135) (dk dX1_gather 26 rfl) (by decide) rfl (fun c47 => ?_) (fun c47 => ?_)
          · refine g_iinc F (q := 138) (v := (nI ((i + 1)))) (lv' := [(4, .int (nI ((i + 1)))), (5, .int ((v (11 + i)) e)), (0, .ref (ad 225)), (1, .ref (ad 1)), (2, .int (nI e)), (3, .ref (ad 7))]) (dk dX1_gather 75 rfl) rfl 5 rfl (nI_1 _) (Nat.le_of_ble_eq_true rfl) rfl ?_
            refine g_goto F (tgt := 13) (dk dX1_gather 76 rfl) (by decide) ?_
            have hg : ¬ mG r e i (mC r e i) (mRd r e i) := fun h => c47 (hth.2.2.2.1.trans h.2.1)
            refine g_lv (lv' := [(0, .ref (ad 225)), (1, .ref (ad 1)), (2, .int (nI e)), (3, .ref (ad 7)), (4, .int (nI ((i + 1))))]) [2, 3, 4, 5, 0] rfl ?_
            exact ih (i + 1) th1 rd1 er1 E1 (by omega) (by rw [mC_f hg]; exact h225) hthm hrd her (fun j hj => (hfr13 j (by omega))) (by omega) (mH_f hg hH)
          · refine g_aload_n F (q := 51) (dk dX1_gather 27 rfl) rfl rfl 1 rfl ?_
            refine g_iload F (q := 53) (dk dX1_gather 28 rfl) rfl 0 rfl ?_
            refine g_callVI F (q := 56) (av := [.int ((v (11 + i)) e)]) (st := []) (c_X1_isBehindAll (y := ((v (11 + i)) e)) h225 hrd (by first | assumption | decide | omega)) kv_X1_isBehindAll tq_315 h225 rfl (by omega) ⟨rfl, rfl⟩ (by decide) ⟨Nat.le_refl _, Nat.le_refl _⟩ rfl rfl (Nat.le_of_ble_eq_true rfl) (dk dX1_gather 29 rfl) rfl (fun r53 E53 hp53 => ?_)
            rcases hp53 with ⟨rfl, rfl, b53⟩ | ⟨rfl, rfl, b53⟩
            · refine g_if_eq F (q := 59) (tgt := 135) (dk dX1_gather 30 rfl) (by decide) rfl (fun h => absurd h (by decide)) (fun _ => ?_)
              refine g_aload_n F (q := 60) (dk dX1_gather 31 rfl) rfl rfl 2 rfl ?_
              refine g_iload_n F (q := 61) (dk dX1_gather 32 rfl) rfl rfl 3 rfl ?_
              refine g_aload_n F (q := 62) (dk dX1_gather 33 rfl) rfl rfl 4 rfl ?_
              refine g_getf F (q := 65) hc4 rfl inX3 (by omega) (j := 0) (by decide) tq_41 rfl rfl (dk dX1_gather 34 rfl) rfl ?_
              refine g_iload F (q := 67) (dk dX1_gather 35 rfl) rfl 5 rfl ?_
              have hc10 : E1 8 = .inl (cA 0, 10, .inl (v 7)) := hb3.a 7 (by omega)
              refine g_iald F (q := 68) i hc10 (by omega) rfl (by omega) (by decide) (dk dX1_gather 36 rfl) rfl ?_
              have hc11 : E1 2 = .inl (cA 0, 10, .inl (v 1)) := hb3.a 1 (by omega)
              refine g_callVI F (q := 71) (av := [.int (nI e), .int ((v 7) i)]) (st := []) (c_X5_wayTo (e := e) (p := ((v 7) i)) hc8 hc11 (by first | assumption | decide | omega)) kv_X5_wayTo tq_319 hc8 rfl (by omega) ⟨rfl, rfl⟩ (by decide) ⟨Nat.le_refl _, Nat.le_refl _⟩ rfl rfl (Nat.le_of_ble_eq_true rfl) (dk dX1_gather 37 rfl) rfl (fun r68 E68 hp68 => ?_)
              obtain ⟨rfl, rfl⟩ := hp68
              refine g_istore F (q := 73) (lv' := [(6, .int (if 0 ≤ ((v 7) i) - (v 1) e then ((v 7) i) - (v 1) e else 0 - (((v 7) i) - (v 1) e))), (5, .int ((v (11 + i)) e)), (0, .ref (ad 225)), (1, .ref (ad 1)), (2, .int (nI e)), (3, .ref (ad 7)), (4, .int (nI i))]) (dk dX1_gather 38 rfl) rfl (Nat.le_of_ble_eq_true rfl) rfl ?_
              refine g_aload_n F (q := 74) (dk dX1_gather 39 rfl) rfl rfl 2 rfl ?_
              refine g_getf F (q := 77) h225 rfl inX1 (by omega) (j := 0) (by decide) tq_189 rfl rfl (dk dX1_gather 40 rfl) rfl ?_
              refine g_aload_n F (q := 78) (dk dX1_gather 41 rfl) rfl rfl 2 rfl ?_
              refine g_getf F (q := 81) h225 rfl inX1 (by omega) (j := 3) (by decide) tq_195 rfl rfl (dk dX1_gather 42 rfl) rfl ?_
              refine g_iload F (q := 83) (dk dX1_gather 43 rfl) rfl 6 rfl ?_
              refine g_iast F (q := 84) ((mC r e i)) hthm (by omega) rfl (by omega) (by decide) (dk dX1_gather 44 rfl) rfl (fun E83 hE83 hO83 => ?_)
              refine g_aload_n F (q := 85) (dk dX1_gather 45 rfl) rfl rfl 2 rfl ?_
              have hc12 := (hO83 225 (by omega)).trans h225
              refine g_getf F (q := 88) hc12 rfl inX1 (by omega) (j := 1) (by decide) tq_191 rfl rfl (dk dX1_gather 46 rfl) rfl ?_
              refine g_aload_n F (q := 89) (dk dX1_gather 47 rfl) rfl rfl 2 rfl ?_
              refine g_getf F (q := 92) hc12 rfl inX1 (by omega) (j := 3) (by decide) tq_195 rfl rfl (dk dX1_gather 48 rfl) rfl ?_
              refine g_iload F (q := 94) (dk dX1_gather 49 rfl) rfl 1 rfl ?_
              have hc13 := (hO83 227 (by omega)).trans hrd
              refine g_iast F (q := 95) ((mC r e i)) hc13 (by omega) rfl (by omega) (by decide) (dk dX1_gather 50 rfl) rfl (fun E94 hE94 hO94 => ?_)
              refine g_aload_n F (q := 96) (dk dX1_gather 51 rfl) rfl rfl 2 rfl ?_
              have hc14 := (hO94 225 (by omega)).trans hc12
              refine g_getf F (q := 99) hc14 rfl inX1 (by omega) (j := 2) (by decide) tq_193 rfl rfl (dk dX1_gather 52 rfl) rfl ?_
              refine g_aload_n F (q := 100) (dk dX1_gather 53 rfl) rfl rfl 2 rfl ?_
              refine g_getf F (q := 103) hc14 rfl inX1 (by omega) (j := 3) (by decide) tq_195 rfl rfl (dk dX1_gather 54 rfl) rfl ?_
              refine g_iload F (q := 105) (dk dX1_gather 55 rfl) rfl 1 rfl ?_
              refine g_aload_n F (q := 106) (dk dX1_gather 56 rfl) rfl rfl 5 rfl ?_
              have hc15 := (hO83 7 (by omega)).trans hc4
              have hc16 := (hO94 7 (by omega)).trans hc15
              refine g_getf F (q := 109) hc16 rfl inX3 (by omega) (j := 1) (by decide) tq_45 rfl rfl (dk dX1_gather 57 rfl) rfl ?_
              refine g_iload F (q := 111) (dk dX1_gather 58 rfl) rfl 6 rfl ?_
              have hb17 := hb3.fr (fun j h1 h2 => hO83 j (by omega))
              have hb18 := hb17.fr (fun j h1 h2 => hO94 j (by omega))
              have hc19 : E94 9 = .inl (cA 0, 10, .inl (v 8)) := hb18.a 8 (by omega)
              refine g_iald F (q := 112) i hc19 (by omega) rfl (by omega) (by decide) (dk dX1_gather 59 rfl) rfl ?_
              refine g_aload_n F (q := 113) (dk dX1_gather 60 rfl) rfl rfl 5 rfl ?_
              refine g_getf F (q := 116) hc16 rfl inX3 (by omega) (j := 2) (by decide) tq_50 rfl rfl (dk dX1_gather 61 rfl) rfl ?_
              refine g_iload F (q := 118) (dk dX1_gather 62 rfl) rfl 6 rfl ?_
              have hc20 : E94 10 = .inl (cA 0, 10, .inl (v 9)) := hb18.a 9 (by omega)
              refine g_iald F (q := 119) i hc20 (by omega) rfl (by omega) (by decide) (dk dX1_gather 63 rfl) rfl ?_
              refine g_iload F (q := 121) (dk dX1_gather 64 rfl) rfl 0 rfl ?_
              refine g_imul F (q := 122) (dk dX1_gather 65 rfl) rfl ?_
              refine g_iadd F (q := 123) (dk dX1_gather 66 rfl) rfl ?_
              refine g_isub F (q := 124) (dk dX1_gather 67 rfl) rfl ?_
              have hc21 := (hO83 228 (by omega)).trans her
              have hc22 := (hO94 228 (by omega)).trans hc21
              refine g_iast F (q := 125) ((mC r e i)) hc22 (by omega) rfl (by omega) (by decide) (dk dX1_gather 68 rfl) rfl (fun E124 hE124 hO124 => ?_)
              refine g_aload_n F (q := 126) (dk dX1_gather 69 rfl) rfl rfl 2 rfl ?_
              refine g_dup F (q := 127) (dk dX1_gather 70 rfl) rfl rfl ?_
              have hc23 := (hO124 225 (by omega)).trans hc14
              refine g_getf F (q := 130) hc23 rfl inX1 (by omega) (j := 3) (by decide) tq_195 rfl rfl (dk dX1_gather 71 rfl) rfl ?_
              refine g_iconst F (q := 131) (v := 1) (dk dX1_gather 72 rfl) rfl (by decide) ?_
              refine g_iadd F (q := 132) (dk dX1_gather 73 rfl) rfl ?_
              refine g_sti (nA rfl rfl) ?_
              refine g_putf F (q := 135) (ty := .int) hc23 rfl inX1 tyX1 tyX1_ok nmX1 (by omega) (j := 3) (by decide) tq_195 rfl rfl (by decide +kernel) rfl rfl (Nat.le_of_ble_eq_true rfl) (dk dX1_gather 74 rfl) rfl (fun E132 hE132 hO132 => ?_)
              have hE132 : E132 225 = .inr (1, [.ref (ad 226), .ref (ad 227), .ref (ad 228), .int (nI (((mC r e i) + 1)))]) := hE132
              refine g_iinc F (q := 138) (v := (nI ((i + 1)))) (lv' := [(4, .int (nI ((i + 1)))), (6, .int (if 0 ≤ ((v 7) i) - (v 1) e then ((v 7) i) - (v 1) e else 0 - (((v 7) i) - (v 1) e))), (5, .int ((v (11 + i)) e)), (0, .ref (ad 225)), (1, .ref (ad 1)), (2, .int (nI e)), (3, .ref (ad 7))]) (dk dX1_gather 75 rfl) rfl 6 rfl (nI_1 _) (Nat.le_of_ble_eq_true rfl) rfl ?_
              refine g_goto F (tgt := 13) (dk dX1_gather 76 rfl) (by decide) ?_
              have hg : mG r e i (mC r e i) (mRd r e i) := ⟨((hth.2.2.2.2 e he10).n c37).2.1, hth.2.2.2.1.symm.trans c47, (mG_of hH ((hth.2.2.2.2 e he10).n c37).1).mp b53⟩
              have hc24 := (hO124 227 (by omega)).trans hE94
              have hc25 := (hO132 227 (by omega)).trans hc24
              have hc26 := (hO132 228 (by omega)).trans hE124
              have hc27 := (hO94 226 (by omega)).trans hE83
              have hc28 := (hO124 226 (by omega)).trans hc27
              have hc29 := (hO132 226 (by omega)).trans hc28
              refine g_lv (lv' := [(0, .ref (ad 225)), (1, .ref (ad 1)), (2, .int (nI e)), (3, .ref (ad 7)), (4, .int (nI ((i + 1))))]) [3, 4, 5, 6, 0] rfl ?_
              exact ih (i + 1) (upd th1 ((mC r e i)) (nI i)) (upd rd1 ((mC r e i)) ((v (11 + i)) e)) (upd er1 ((mC r e i)) (((v (11 + i)) e) - (((v 8) i) + (((v 9) i) * (if 0 ≤ ((v 7) i) - (v 1) e then ((v 7) i) - (v 1) e else 0 - (((v 7) i) - (v 1) e)))))) E132 (by omega) (by rw [mC_t hg]; exact hE132) hc29 hc25 hc26 (fun j hj => (((((hO132 j (by omega)).trans (hO124 j (by omega))).trans (hO94 j (by omega))).trans (hO83 j (by omega))).trans (hfr13 j (by omega)))) (by omega) (mH_t hg hH ((hth.2.2.2.2 e he10).n c37).1 (mE_of hcn he hin ((hth.2.2.2.2 e he10).n c37).1))
            · refine g_if_eq F (q := 59) (tgt := 135) (dk dX1_gather 30 rfl) (by decide) rfl (fun _ => ?_) (fun h => absurd h (by decide))
              refine g_iinc F (q := 138) (v := (nI ((i + 1)))) (lv' := [(4, .int (nI ((i + 1)))), (5, .int ((v (11 + i)) e)), (0, .ref (ad 225)), (1, .ref (ad 1)), (2, .int (nI e)), (3, .ref (ad 7))]) (dk dX1_gather 75 rfl) rfl 5 rfl (nI_1 _) (Nat.le_of_ble_eq_true rfl) rfl ?_
              refine g_goto F (tgt := 13) (dk dX1_gather 76 rfl) (by decide) ?_
              have hg : ¬ mG r e i (mC r e i) (mRd r e i) := fun h => b53 ((mG_of hH ((hth.2.2.2.2 e he10).n c37).1).mpr h.2.2)
              refine g_lv (lv' := [(0, .ref (ad 225)), (1, .ref (ad 1)), (2, .int (nI e)), (3, .ref (ad 7)), (4, .int (nI ((i + 1))))]) [2, 3, 4, 5, 0] rfl ?_
              exact ih (i + 1) th1 rd1 er1 E1 (by omega) (by rw [mC_f hg]; exact h225) hthm hrd her (fun j hj => (hfr13 j (by omega))) (by omega) (mH_f hg hH)
  refine g_lv (lv' := [(0, .ref (ad 225)), (1, .ref (ad 1)), (2, .int (nI e)), (3, .ref (ad 7)), (4, .int 0)]) [2, 3, 4, 1, 0] rfl ?_
  have hc30 := (hO7 226 (by omega)).trans hth
  have hc31 := (hO7 227 (by omega)).trans hrd
  have hc32 := (hO7 228 (by omega)).trans her
  exact K13 _ 0 th rd er E7 (Nat.lt_succ_self _) hE7 hc30 hc31 hc32 (fun j _ => rfl) (by omega) mH_0
theorem kv_X1_gather : KV yX1_gather "ThumpEars$Marks" cX1_gather 7 (none) 2 := ⟨tq_311, tq_312, tq_14, tq_313, by decide +kernel⟩
