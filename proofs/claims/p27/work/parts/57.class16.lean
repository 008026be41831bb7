abbrev rm_X6_readOrders : Room := { frames := 4, cells := 0, slots := 0, locals := 104 }
set_option maxHeartbeats 4000000 in
set_option maxRecDepth 100000 in
theorem c_X6_readOrders {l : Launch} {D : va_G} {cA : Nat → ClassId} {ad : Nat → Nat} {E : Nat → va_E} {r : Nat → Int32} {ne nt nk nh : Nat} {H : Nat → Nat → Int32} {s1 : Int32} {asd : Nat → Int32} {ln : Nat} {txt : Nat → Int32}   (hco : Core cA ad E r ne nt nk nh H s1 asd ln txt) (hmk : MkP cA ad E) (hsr : SrP cA ad E)  : CtI l D cA yX6_readOrders cX6_readOrders 5 .int rm_X6_readOrders 235 ad E [.ref (ad 0)] (fun x E' => ∃ (ne2 : Nat) (nt2 : Nat) (nk2 : Nat), (sRead r ne nt nk txt ln).1 = x ∧ (Core cA ad E' (nR (sRead r ne nt nk txt ln).2 r) ne2 nt2 nk2 (nN (sRead r ne nt nk txt ln).2 nh) (nHs (sRead r ne nt nk txt ln).2 nh H r) s1 asd ln txt) ∧ (MkP cA ad E') ∧ (SrP cA ad E') ∧ ∀ j, (233 ≤ j) → E' j = E j) := by
  refine CtI.of (by decide +kernel) (Nat.le_of_ble_eq_true rfl) (fun X F hret => ?_)
  have F : Fr "ThumpEars" cX6_readOrders 5 D cA X := F
  refine (show GG rm_X6_readOrders 5 l D X 0 0 235 ad E 0 [(0, .ref (ad 0))] [] from ?_)
  have hco2 := hco
  obtain ⟨v, vs, tg, vh, od, po, nu, ar, pla, ti, re, h0, hst, hsn, h73, h74, hhs, h219, h220, h221, h222, h223, h224, htg, hnh, hln, hcn, hhc, hss⟩ := hco2
  have hmk2 := hmk
  obtain ⟨m0, th, rd, er, h225, hth, hrd, her⟩ := hmk2
  have hsr2 := hsr
  obtain ⟨s0, px, pp, ls, gr, ea, pl, rt, h229, hsea, hspl, hsrt⟩ := hsr2
  have hne := hcn.i.e0
  have hnt := hcn.i.e1
  have hnk := hcn.i.e2
  have h1 : E 1 = .inr (5, [.ref (ad 2), .ref (ad 3), .ref (ad 4), .ref (ad 5), .ref (ad 6), .ref (ad 7), .ref (ad 22), .int (nI ne), .int (r 3), .int (r 4), .int (r 5)]) := by have q := hst.o; rw [hcn.n0, hcn.r3, hcn.r4, hcn.r5] at q; exact q
  have h7 : E 7 = .inr (3, [.ref (ad 8), .ref (ad 9), .ref (ad 10), .ref (ad 11), .int (nI nt)]) := by have q := hst.t; rw [hcn.n1] at q; exact q
  have h22 : E 22 = .inr (3, [.ref (ad 23), .ref (ad 24), .ref (ad 25), .ref (ad 26), .int (nI nk)]) := by have q := hst.k; rw [hcn.n2] at q; exact q
  refine g_aload_n F (q := 1) (dk dX6_readOrders 0 rfl) rfl rfl 0 rfl ?_
  refine g_getf F (q := 4) h0 rfl inX6 (by omega) (j := 4) (by decide) tq_244 rfl rfl (dk dX6_readOrders 1 rfl) rfl ?_
  refine g_callVI F (q := 7) (av := []) (st := []) (c_X2_read h219 h220 h221 h222 h223 h224 (by first | assumption | decide | omega)) kv_X2_read tq_586 h219 rfl (by omega) ⟨rfl, rfl⟩ (by decide) ⟨Nat.le_refl _, Nat.le_refl _⟩ rfl rfl (Nat.le_of_ble_eq_true rfl) (dk dX6_readOrders 2 rfl) rfl (fun r4 E4 hp4 => ?_)
  obtain ⟨n_4, q_4, nu2_4, ar2_4, pla2_4, ti2_4, re2_4, hK219_4, hK221_4, hK222_4, hK223_4, hK224_4, hn_4, hr_4, hF4⟩ := hp4
  rcases hr_4 with ⟨qf, rfl, hq60, hqf⟩ | ⟨hnone, rfl, hlen, hO⟩
  · refine g_istore_n F (q := 8) (lv' := [(1, .int (nI qf)), (0, .ref (ad 0))]) (dk dX6_readOrders 3 rfl) rfl rfl (Nat.le_of_ble_eq_true rfl) rfl ?_
    refine g_iload_n F (q := 9) (dk dX6_readOrders 4 rfl) rfl rfl 0 rfl ?_
    refine g_iconst F (q := 10) (v := (-1)) (dk dX6_readOrders 5 rfl) rfl (by decide) ?_
    refine g_icmp_eq F (q := 13) (tgt := 18) (dk dX6_readOrders 6 rfl) (by decide) rfl (fun c10 => absurd c10 (nI_m1 hq60)) (fun c10 => ?_)
    refine g_bipush F (q := 15) (v := (-100)) (dk dX6_readOrders 7 rfl) rfl (by decide) ?_
    refine g_iload_n F (q := 16) (dk dX6_readOrders 8 rfl) rfl rfl 0 rfl ?_
    refine g_isub F (q := 17) (dk dX6_readOrders 9 rfl) rfl ?_
    have hs : sRead r ne nt nk txt ln = (-100 - nI qf, none) := sRead_q hqf
    have hb1 := hmk.fr (fun j h1 h2 => hF4 j (by omega))
    have hb2 := hsr.fr (fun j h1 h2 => hF4 j (by omega))
    have hb3 := hst.fr (fun j h1 h2 => hF4 j (by omega))
    have hc4 := (hF4 0 (by omega)).trans h0
    have hb5 := hsn.fr (fun j h1 h2 => hF4 j (by omega))
    have hc6 := (hF4 73 (by omega)).trans h73
    have hc7 := (hF4 74 (by omega)).trans h74
    have hb8 : ∀ i, i < 4 → StA cA ad E4 (tg i) (vh i) := (fun i hi => (hhs i hi).fr (fun j h1 h2 => hF4 j (by have := (htg i hi).1; omega)))
    have hc9 := (hF4 220 (by omega)).trans h220
    refine hret ((-100) - (nI qf)) E4 _ _ (dk dX6_readOrders 10 rfl) (nint _) ?_
    exact ⟨ne, nt, nk, (by rw [hs]), (by rw [hs]; exact ⟨_, _, _, _, _, _, _, _, _, _, _, hc4, hb3, hb5, hc6, hc7, hb8, hK219_4, hc9, hK221_4, hK222_4, hK223_4, hK224_4, htg, hnh, hln, hcn, hhc, hss⟩), hb1, hb2, (fun j hj => (hF4 j (by omega)))⟩
  · refine g_istore_n F (q := 8) (lv' := [(1, .int (-1)), (0, .ref (ad 0))]) (dk dX6_readOrders 3 rfl) rfl rfl (Nat.le_of_ble_eq_true rfl) rfl ?_
    refine g_iload_n F (q := 9) (dk dX6_readOrders 4 rfl) rfl rfl 0 rfl ?_
    refine g_iconst F (q := 10) (v := (-1)) (dk dX6_readOrders 5 rfl) rfl (by decide) ?_
    refine g_icmp_eq F (q := 13) (tgt := 18) (dk dX6_readOrders 6 rfl) (by decide) rfl (fun _ => ?_) (fun h => absurd h (by decide))
    refine g_aload_n F (q := 19) (dk dX6_readOrders 11 rfl) rfl rfl 1 rfl ?_
    have hc10 := (hF4 0 (by omega)).trans h0
    have hc11 := (hF4 1 (by omega)).trans h1
    have hc12 := (hF4 7 (by omega)).trans h7
    have hc13 := (hF4 22 (by omega)).trans h22
    refine g_callVI F (q := 22) (av := []) (st := []) (c_X6_refusalOfOrders hc10 hc11 hc12 hc13 hK219_4 hK221_4 hK222_4 hK223_4 hK224_4 hO hlen (by first | assumption | decide | omega) (by first | assumption | decide | omega) (by first | assumption | decide | omega)) kv_X6_refusalOfOrders tq_606 hc10 rfl (by omega) ⟨rfl, rfl⟩ (by decide) ⟨Nat.le_refl _, Nat.le_refl _⟩ rfl rfl (Nat.le_of_ble_eq_true rfl) (dk dX6_readOrders 12 rfl) rfl (fun r19 E19 hp19 => ?_)
    obtain ⟨rfl, rfl⟩ := hp19
    refine g_istore_n F (q := 23) (lv' := [(2, .int (rfL ((prs txt ln 61 0).1) nt nk (r 5))), (1, .int (-1)), (0, .ref (ad 0))]) (dk dX6_readOrders 13 rfl) rfl rfl (Nat.le_of_ble_eq_true rfl) rfl ?_
    refine g_iload_n F (q := 24) (dk dX6_readOrders 14 rfl) rfl rfl 0 rfl ?_
    refine g_if_eq F (q := 27) (tgt := 29) (dk dX6_readOrders 15 rfl) (by decide) rfl (fun c24 => ?_) (fun c24 => ?_)
    · refine g_aload_n F (q := 30) (dk dX6_readOrders 18 rfl) rfl rfl 2 rfl ?_
      refine g_getf F (q := 33) hc10 rfl inX6 (by omega) (j := 3) (by decide) tq_243 rfl rfl (dk dX6_readOrders 19 rfl) rfl ?_
      refine g_aload_n F (q := 34) (dk dX6_readOrders 20 rfl) rfl rfl 2 rfl ?_
      refine g_getf F (q := 37) hc10 rfl inX6 (by omega) (j := 0) (by decide) tq_240 rfl rfl (dk dX6_readOrders 21 rfl) rfl ?_
      have hc14 := (hF4 73 (by omega)).trans h73
      have hc15 := (hF4 74 (by omega)).trans h74
      have hb16 : ∀ i, i < 4 → StA cA ad E4 (tg i) (vh i) := (fun i hi => (hhs i hi).fr (fun j h1 h2 => hF4 j (by have := (htg i hi).1; omega)))
      have hb17 := hst.fr (fun j h1 h2 => hF4 j (by omega))
      refine g_callVV F (q := 40) (av := [.ref (ad 1)]) (st := []) (c_X0_push hc14 hc15 hb16 hb17 (by first | assumption | decide | omega) (by first | assumption | decide | omega) hcn.bz4 hcn.bz5) kv_X0_push tq_269 hc14 rfl (by omega) ⟨rfl, rfl⟩ (by decide) ⟨Nat.le_refl _, Nat.le_refl _⟩ rfl rfl (Nat.le_of_ble_eq_true rfl) (dk dX6_readOrders 22 rfl) rfl (fun E37 hp37 => ?_)
      obtain ⟨wv_37, hK73_37, hK74_37, hBhs_37, hq_37, hF37⟩ := hp37
      have hhc := hist_push hhc ⟨_, _, _, hcn⟩ hq_37 hnh
      have htg := htg.p (nh := nh)
      have hb18 := hb17.fr (fun j h1 h2 => hF37 j (by omega))
      have hstP := hb18
      refine g_iconst F (q := 41) (v := 0) (dk dX6_readOrders 23 rfl) rfl (by decide) ?_
      refine g_istore_n F (q := 42) (lv' := [(3, .int 0), (2, .int (rfL ((prs txt ln 61 0).1) nt nk (r 5))), (1, .int (-1)), (0, .ref (ad 0))]) (dk dX6_readOrders 24 rfl) rfl rfl (Nat.le_of_ble_eq_true rfl) rfl ?_
      have K42 : ∀ (fu : Nat) (i : Nat) (os2 : List Ord) (r1 : Nat → Int32) (nt1 : Nat) (nk1 : Nat) (v1 : Nat → Nat → Int32) (E1 : Nat → va_E), n_4 - i < fu → (hst1 : StA cA ad E1 1 v1) → (hfr42 : ∀ j, (j < 1 ∨ 37 ≤ j) → E1 j = E37 j) → (hi : i ≤ n_4) → (hcn1 : Can v1 r1 ne nt1 nk1) → (hd : (prs txt ln 61 0).1.drop i = os2) → (hR : rl ne (prs txt ln 61 0).1 r nt nk = rl ne os2 r1 nt1 nk1) → (hL : rfL os2 nt1 nk1 (r1 5) = 0) → GG rm_X6_readOrders 5 l D X 0 0 235 ad E1 42 [(0, .ref (ad 0)), (3, .int (nI i))] [] := by
        intro fu
        induction fu with
        | zero => intro i os2 r1 nt1 nk1 v1 E1 hfu_; exact absurd hfu_ (Nat.not_lt_zero _)
        | succ fu ih =>
          intro i os2 r1 nt1 nk1 v1 E1 hfu_ hst1 hfr42 hi hcn1 hd hR hL
          have hnt1 := hcn1.i.e1
          have hnk1 := hcn1.i.e2
          have h1 : E1 1 = .inr (5, [.ref (ad 2), .ref (ad 3), .ref (ad 4), .ref (ad 5), .ref (ad 6), .ref (ad 7), .ref (ad 22), .int (nI ne), .int (r1 3), .int (r1 4), .int (r1 5)]) := by have q := hst1.o; rw [hcn1.n0, hcn1.r3, hcn1.r4, hcn1.r5] at q; exact q
          have h7 : E1 7 = .inr (3, [.ref (ad 8), .ref (ad 9), .ref (ad 10), .ref (ad 11), .int (nI nt1)]) := by have q := hst1.t; rw [hcn1.n1] at q; exact q
          have h22 : E1 22 = .inr (3, [.ref (ad 23), .ref (ad 24), .ref (ad 25), .ref (ad 26), .int (nI nk1)]) := by have q := hst1.k; rw [hcn1.n2] at q; exact q
          refine g_iload_n F (q := 43) (dk dX6_readOrders 25 rfl) rfl rfl 1 rfl ?_
          refine g_aload_n F (q := 44) (dk dX6_readOrders 26 rfl) rfl rfl 0 rfl ?_
          have hc19 := (hF37 0 (by omega)).trans hc10
          have hc20 := (hfr42 0 (by omega)).trans hc19
          refine g_getf F (q := 47) hc20 rfl inX6 (by omega) (j := 4) (by decide) tq_244 rfl rfl (dk dX6_readOrders 27 rfl) rfl ?_
          have hc21 := (hF37 219 (by omega)).trans hK219_4
          have hc22 := (hfr42 219 (by omega)).trans hc21
          refine g_getf F (q := 50) hc22 rfl inX2 (by omega) (j := 6) (by decide) tq_160 rfl rfl (dk dX6_readOrders 28 rfl) rfl ?_
          refine g_icmp_ge F (q := 53) (tgt := 127) (dk dX6_readOrders 29 rfl) (by decide) rfl (fun c50 => ?_) (fun c50 => ?_)
          · have nc50 : n_4 ≤ i := (nI_leI (a := n_4) (b := i) (by omega) (by omega)).mp c50
            refine g_aload_n F (q := 128) (dk dX6_readOrders 66 rfl) rfl rfl 0 rfl ?_
            refine g_getf F (q := 131) hc20 rfl inX6 (by omega) (j := 4) (by decide) tq_244 rfl rfl (dk dX6_readOrders 67 rfl) rfl ?_
            refine g_getf F (q := 134) hc22 rfl inX2 (by omega) (j := 6) (by decide) tq_160 rfl rfl (dk dX6_readOrders 68 rfl) rfl ?_
            have he := ord_end hlen (show n_4 ≤ i by omega) hd
            subst he
            have hs : sRead r ne nt nk txt ln = (nI (prs txt ln 61 0).1.length, some (r1)) := sRead_s rfl hnone (hR.trans rl_nil)
            have hb23 := hmk.fr (fun j h1 h2 => hF4 j (by omega))
            have hb24 := hb23.fr (fun j h1 h2 => hF37 j (by omega))
            have hb25 := hb24.fr (fun j h1 h2 => hfr42 j (by omega))
            have hb26 := hsr.fr (fun j h1 h2 => hF4 j (by omega))
            have hb27 := hb26.fr (fun j h1 h2 => hF37 j (by omega))
            have hb28 := hb27.fr (fun j h1 h2 => hfr42 j (by omega))
            have hsv : StA cA ad E1 1 (v1) := hst1
            have hcv : Can (v1) (r1) ne nt1 nk1 := hcn1
            have hb29 := hsn.fr (fun j h1 h2 => hF4 j (by omega))
            have hb30 := hb29.fr (fun j h1 h2 => hF37 j (by omega))
            have hb31 := hb30.fr (fun j h1 h2 => hfr42 j (by omega))
            have hc32 := (hfr42 73 (by omega)).trans hK73_37
            have hc33 := (hfr42 74 (by omega)).trans hK74_37
            have hb34 : ∀ i, i < 4 → StA cA ad E1 ((pRot nh tg) i) ((va_up (pRot nh vh) (pAt nh) wv_37) i) := (fun i hi => (hBhs_37 i hi).fr (fun j h1 h2 => hfr42 j (by have := (htg i hi).1; omega)))
            have hc35 := (hF4 220 (by omega)).trans h220
            have hc36 := (hF37 220 (by omega)).trans hc35
            have hc37 := (hfr42 220 (by omega)).trans hc36
            have hc38 := (hF37 221 (by omega)).trans hK221_4
            have hc39 := (hfr42 221 (by omega)).trans hc38
            have hc40 := (hF37 222 (by omega)).trans hK222_4
            have hc41 := (hfr42 222 (by omega)).trans hc40
            have hc42 := (hF37 223 (by omega)).trans hK223_4
            have hc43 := (hfr42 223 (by omega)).trans hc42
            have hc44 := (hF37 224 (by omega)).trans hK224_4
            have hc45 := (hfr42 224 (by omega)).trans hc44
            refine hret (nI n_4) E1 _ _ (dk dX6_readOrders 69 rfl) (nint _) ?_
            exact ⟨ne, nt1, nk1, (by rw [hs, ← hlen]), (by rw [hs]; exact ⟨_, _, _, _, _, _, _, _, _, _, _, hc20, hsv, hb31, hc32, hc33, hb34, hc22, hc37, hc39, hc41, hc43, hc45, htg, (nup_le hnh), hln, hcv, hhc, hss⟩), hb25, hb28, (fun j hj => (((hfr42 j (by omega)).trans (hF37 j (by omega))).trans (hF4 j (by omega))))⟩
          · have nc50 : ¬ n_4 ≤ i := fun h => c50 ((nI_leI (a := n_4) (b := i) (by omega) (by omega)).mpr h)
            obtain ⟨k, os3, rfl, hd3, hA, hmem⟩ := ord_at hO hlen (show i < n_4 by omega) hd
            have hk2 : k < 2 := prs_k _ _ _ hmem
            have hz := rfL_z hL
            by_cases hk0 : k = 0
            · rw [if_pos hk0] at hA
              have hz2 := hz.1
              rw [if_pos hk0] at hz2
              have hrf := rfS_0 hz2
              have hm10 := hrf.2.2
              subst hk0
              refine g_aload_n F (q := 54) (dk dX6_readOrders 30 rfl) rfl rfl 0 rfl ?_
              refine g_getf F (q := 57) hc20 rfl inX6 (by omega) (j := 4) (by decide) tq_244 rfl rfl (dk dX6_readOrders 31 rfl) rfl ?_
              refine g_getf F (q := 60) hc22 rfl inX2 (by omega) (j := 2) (by decide) tq_152 rfl rfl (dk dX6_readOrders 32 rfl) rfl ?_
              refine g_iload_n F (q := 61) (dk dX6_readOrders 33 rfl) rfl rfl 1 rfl ?_
              have hc46 := (hF37 221 (by omega)).trans hK221_4
              have hc47 := (hfr42 221 (by omega)).trans hc46
              refine g_zald F (q := 62) i hc47 (by omega) rfl (by omega) (by decide) (dk dX6_readOrders 34 rfl) rfl ?_
              refine g_sti (y := 1) hA ?_
              refine g_if_eq F (q := 65) (tgt := 75) (dk dX6_readOrders 35 rfl) (by decide) rfl (fun h => absurd h (by decide)) (fun _ => ?_)
              refine g_aload_n F (q := 66) (dk dX6_readOrders 36 rfl) rfl rfl 0 rfl ?_
              refine g_getf F (q := 69) hc20 rfl inX6 (by omega) (j := 0) (by decide) tq_240 rfl rfl (dk dX6_readOrders 37 rfl) rfl ?_
              refine g_getf F (q := 72) h1 rfl inX5 (by omega) (j := 5) (by decide) tq_88 rfl rfl (dk dX6_readOrders 38 rfl) rfl ?_
              refine g_goto F (tgt := 82) (dk dX6_readOrders 39 rfl) (by decide) ?_
              refine g_astore F (q := 84) (lv' := [(4, .ref (ad 7)), (0, .ref (ad 0)), (3, .int (nI i))]) (dk dX6_readOrders 43 rfl) rfl (Nat.le_of_ble_eq_true rfl) rfl ?_
              refine g_aload_n F (q := 85) (dk dX6_readOrders 44 rfl) rfl rfl 1 rfl ?_
              refine g_getf F (q := 88) hc20 rfl inX6 (by omega) (j := 0) (by decide) tq_240 rfl rfl (dk dX6_readOrders 45 rfl) rfl ?_
              refine g_aload F (q := 90) (dk dX6_readOrders 46 rfl) rfl 0 rfl ?_
              refine g_aload_n F (q := 91) (dk dX6_readOrders 47 rfl) rfl rfl 1 rfl ?_
              refine g_getf F (q := 94) hc20 rfl inX6 (by omega) (j := 4) (by decide) tq_244 rfl rfl (dk dX6_readOrders 48 rfl) rfl ?_
              refine g_getf F (q := 97) hc22 rfl inX2 (by omega) (j := 3) (by decide) tq_154 rfl rfl (dk dX6_readOrders 49 rfl) rfl ?_
              refine g_iload_n F (q := 98) (dk dX6_readOrders 50 rfl) rfl rfl 2 rfl ?_
              have hc48 := (hF37 222 (by omega)).trans hK222_4
              have hc49 := (hfr42 222 (by omega)).trans hc48
              refine g_iald F (q := 99) i hc49 (by omega) rfl (by omega) (by decide) (dk dX6_readOrders 51 rfl) rfl ?_
              refine g_aload_n F (q := 100) (dk dX6_readOrders 52 rfl) rfl rfl 1 rfl ?_
              refine g_getf F (q := 103) hc20 rfl inX6 (by omega) (j := 4) (by decide) tq_244 rfl rfl (dk dX6_readOrders 53 rfl) rfl ?_
              refine g_getf F (q := 106) hc22 rfl inX2 (by omega) (j := 4) (by decide) tq_156 rfl rfl (dk dX6_readOrders 54 rfl) rfl ?_
              refine g_iload_n F (q := 107) (dk dX6_readOrders 55 rfl) rfl rfl 2 rfl ?_
              have hc50 := (hF37 223 (by omega)).trans hK223_4
              have hc51 := (hfr42 223 (by omega)).trans hc50
              refine g_iald F (q := 108) i hc51 (by omega) rfl (by omega) (by decide) (dk dX6_readOrders 56 rfl) rfl ?_
              refine g_aload_n F (q := 109) (dk dX6_readOrders 57 rfl) rfl rfl 1 rfl ?_
              refine g_getf F (q := 112) hc20 rfl inX6 (by omega) (j := 4) (by decide) tq_244 rfl rfl (dk dX6_readOrders 58 rfl) rfl ?_
              refine g_getf F (q := 115) hc22 rfl inX2 (by omega) (j := 5) (by decide) tq_158 rfl rfl (dk dX6_readOrders 59 rfl) rfl ?_
              refine g_iload_n F (q := 116) (dk dX6_readOrders 60 rfl) rfl rfl 2 rfl ?_
              have hc52 := (hF37 224 (by omega)).trans hK224_4
              have hc53 := (hfr42 224 (by omega)).trans hc52
              refine g_iald F (q := 117) i hc53 (by omega) rfl (by omega) (by decide) (dk dX6_readOrders 61 rfl) rfl ?_
              have hc54 : E1 2 = .inl (cA 0, 10, .inl (v1 1)) := hst1.a 1 (by omega)
              have hc55 : E1 3 = .inl (cA 0, 10, .inl (v1 2)) := hst1.a 2 (by omega)
              have hc56 : E1 4 = .inl (cA 0, 10, .inl (v1 3)) := hst1.a 3 (by omega)
              have hc57 : E1 5 = .inl (cA 2, 10, .inl (v1 4)) := hst1.z 4 (by omega)
              have hc58 : E1 8 = .inl (cA 0, 10, .inl (v1 7)) := hst1.a 7 (by omega)
              have hc59 : E1 9 = .inl (cA 0, 10, .inl (v1 8)) := hst1.a 8 (by omega)
              have hc60 : E1 10 = .inl (cA 0, 10, .inl (v1 9)) := hst1.a 9 (by omega)
              have hc61 : E1 11 = .inl (cA 5, 10, .inr (.inr (.inr (.inr (fun i => some (ad (12 + i))))))) := hst1.rt
              have hc62 : E1 ((12 + nt1)) = .inl (cA 0, 10, .inl (v1 (11 + nt1))) := (hst1.row 11 nt1 (by decide) (by omega))
              refine g_callVI F (q := 120) (av := [.ref (ad 7), .int (pla2_4 i), .int (ti2_4 i), .int (re2_4 i)]) (st := []) (c_X5_addSound_a (p := (pla2_4 i)) (t := (ti2_4 i)) (c := (re2_4 i)) h1 hc54 hc55 hc56 hc57 h7 hc58 hc59 hc60 hc61 hc62 (by first | assumption | decide | omega) (by first | assumption | decide | omega)) kv_X5_addSound tq_559 h1 rfl (by omega) ⟨rfl, rfl⟩ (by decide) ⟨Nat.le_refl _, Nat.le_refl _⟩ rfl rfl (Nat.le_of_ble_eq_true rfl) (dk dX6_readOrders 62 rfl) rfl (fun r117 E117 hp117 => ?_)
              obtain ⟨w2_117, rfl, hK1_117, hK7_117, hK8_117, hK9_117, hK10_117, hK_12___nt1__117, hw_117, hF117⟩ := hp117
              refine g_pop F (q := 121) (dk dX6_readOrders 63 rfl) rfl rfl ?_
              refine g_iinc F (q := 124) (v := (nI ((i + 1)))) (lv' := [(3, .int (nI ((i + 1)))), (4, .ref (ad 7)), (0, .ref (ad 0))]) (dk dX6_readOrders 64 rfl) rfl 2 rfl (nI_1 _) (Nat.le_of_ble_eq_true rfl) rfl ?_
              refine g_goto F (tgt := 42) (dk dX6_readOrders 65 rfl) (by decide) ?_
              have hsv : StA cA ad E117 1 (sndV v1 6 nt1 (upd (v1 7) nt1 (pla2_4 i)) (upd (v1 8) nt1 (ti2_4 i)) (upd (v1 9) nt1 (r1 3)) w2_117 (nI (nt1 + 1)) (oV (nI ne) (r1 3) (r1 4) (ti2_4 i))) := hst1.snd (Or.inl rfl) hm10 hK1_117 hK7_117 hK8_117 hK9_117 hK10_117 hK_12___nt1__117 (fun i hi => hF117 i (by omega))
              refine g_lv (lv' := [(0, .ref (ad 0)), (3, .int (nI ((i + 1))))]) [2, 0] rfl ?_
              exact ih (i + 1) os3 (mkR r1 ne 0 nt1 (pla2_4 i) (ti2_4 i) (re2_4 i)) (nt1 + 1) nk1 (sndV v1 6 nt1 (upd (v1 7) nt1 (pla2_4 i)) (upd (v1 8) nt1 (ti2_4 i)) (upd (v1 9) nt1 (r1 3)) w2_117 (nI (nt1 + 1)) (oV (nI ne) (r1 3) (r1 4) (ti2_4 i))) E117 (by omega) hsv (fun j hj => ((hF117 j (by omega)).trans (hfr42 j (by omega)))) (by omega) (hcn1.snd0 hm10 hrf.1 hrf.2.1 (fun e he => hw_117 e he)) hd3 (hR.trans (rl_t hnt1 hnk1 hz.1)) (by rw [mkR_5]; exact hz.2)
            · rw [if_neg hk0] at hA
              have hz2 := hz.1
              rw [if_neg hk0] at hz2
              have hrf := rfS_0 hz2
              have hm10 := hrf.2.2
              obtain rfl : k = 1 := by omega
              refine g_aload_n F (q := 54) (dk dX6_readOrders 30 rfl) rfl rfl 0 rfl ?_
              refine g_getf F (q := 57) hc20 rfl inX6 (by omega) (j := 4) (by decide) tq_244 rfl rfl (dk dX6_readOrders 31 rfl) rfl ?_
              refine g_getf F (q := 60) hc22 rfl inX2 (by omega) (j := 2) (by decide) tq_152 rfl rfl (dk dX6_readOrders 32 rfl) rfl ?_
              refine g_iload_n F (q := 61) (dk dX6_readOrders 33 rfl) rfl rfl 1 rfl ?_
              have hc63 := (hF37 221 (by omega)).trans hK221_4
              have hc64 := (hfr42 221 (by omega)).trans hc63
              refine g_zald F (q := 62) i hc64 (by omega) rfl (by omega) (by decide) (dk dX6_readOrders 34 rfl) rfl ?_
              refine g_sti (y := 0) hA ?_
              refine g_if_eq F (q := 65) (tgt := 75) (dk dX6_readOrders 35 rfl) (by decide) rfl (fun _ => ?_) (fun h => absurd h (by decide))
              refine g_aload_n F (q := 76) (dk dX6_readOrders 40 rfl) rfl rfl 0 rfl ?_
              refine g_getf F (q := 79) hc20 rfl inX6 (by omega) (j := 0) (by decide) tq_240 rfl rfl (dk dX6_readOrders 41 rfl) rfl ?_
              refine g_getf F (q := 82) h1 rfl inX5 (by omega) (j := 6) (by decide) tq_91 rfl rfl (dk dX6_readOrders 42 rfl) rfl ?_
              refine g_astore F (q := 84) (lv' := [(4, .ref (ad 22)), (0, .ref (ad 0)), (3, .int (nI i))]) (dk dX6_readOrders 43 rfl) rfl (Nat.le_of_ble_eq_true rfl) rfl ?_
              refine g_aload_n F (q := 85) (dk dX6_readOrders 44 rfl) rfl rfl 1 rfl ?_
              refine g_getf F (q := 88) hc20 rfl inX6 (by omega) (j := 0) (by decide) tq_240 rfl rfl (dk dX6_readOrders 45 rfl) rfl ?_
              refine g_aload F (q := 90) (dk dX6_readOrders 46 rfl) rfl 0 rfl ?_
              refine g_aload_n F (q := 91) (dk dX6_readOrders 47 rfl) rfl rfl 1 rfl ?_
              refine g_getf F (q := 94) hc20 rfl inX6 (by omega) (j := 4) (by decide) tq_244 rfl rfl (dk dX6_readOrders 48 rfl) rfl ?_
              refine g_getf F (q := 97) hc22 rfl inX2 (by omega) (j := 3) (by decide) tq_154 rfl rfl (dk dX6_readOrders 49 rfl) rfl ?_
              refine g_iload_n F (q := 98) (dk dX6_readOrders 50 rfl) rfl rfl 2 rfl ?_
              have hc65 := (hF37 222 (by omega)).trans hK222_4
              have hc66 := (hfr42 222 (by omega)).trans hc65
              refine g_iald F (q := 99) i hc66 (by omega) rfl (by omega) (by decide) (dk dX6_readOrders 51 rfl) rfl ?_
              refine g_aload_n F (q := 100) (dk dX6_readOrders 52 rfl) rfl rfl 1 rfl ?_
              refine g_getf F (q := 103) hc20 rfl inX6 (by omega) (j := 4) (by decide) tq_244 rfl rfl (dk dX6_readOrders 53 rfl) rfl ?_
              refine g_getf F (q := 106) hc22 rfl inX2 (by omega) (j := 4) (by decide) tq_156 rfl rfl (dk dX6_readOrders 54 rfl) rfl ?_
              refine g_iload_n F (q := 107) (dk dX6_readOrders 55 rfl) rfl rfl 2 rfl ?_
              have hc67 := (hF37 223 (by omega)).trans hK223_4
              have hc68 := (hfr42 223 (by omega)).trans hc67
              refine g_iald F (q := 108) i hc68 (by omega) rfl (by omega) (by decide) (dk dX6_readOrders 56 rfl) rfl ?_
              refine g_aload_n F (q := 109) (dk dX6_readOrders 57 rfl) rfl rfl 1 rfl ?_
              refine g_getf F (q := 112) hc20 rfl inX6 (by omega) (j := 4) (by decide) tq_244 rfl rfl (dk dX6_readOrders 58 rfl) rfl ?_
              refine g_getf F (q := 115) hc22 rfl inX2 (by omega) (j := 5) (by decide) tq_158 rfl rfl (dk dX6_readOrders 59 rfl) rfl ?_
              refine g_iload_n F (q := 116) (dk dX6_readOrders 60 rfl) rfl rfl 2 rfl ?_
              have hc69 := (hF37 224 (by omega)).trans hK224_4
              have hc70 := (hfr42 224 (by omega)).trans hc69
              refine g_iald F (q := 117) i hc70 (by omega) rfl (by omega) (by decide) (dk dX6_readOrders 61 rfl) rfl ?_
              have hc71 : E1 2 = .inl (cA 0, 10, .inl (v1 1)) := hst1.a 1 (by omega)
              have hc72 : E1 3 = .inl (cA 0, 10, .inl (v1 2)) := hst1.a 2 (by omega)
              have hc73 : E1 4 = .inl (cA 0, 10, .inl (v1 3)) := hst1.a 3 (by omega)
              have hc74 : E1 5 = .inl (cA 2, 10, .inl (v1 4)) := hst1.z 4 (by omega)
              have hc75 : E1 23 = .inl (cA 0, 10, .inl (v1 22)) := hst1.a 22 (by omega)
              have hc76 : E1 24 = .inl (cA 0, 10, .inl (v1 23)) := hst1.a 23 (by omega)
              have hc77 : E1 25 = .inl (cA 0, 10, .inl (v1 24)) := hst1.a 24 (by omega)
              have hc78 : E1 26 = .inl (cA 5, 10, .inr (.inr (.inr (.inr (fun i => some (ad (27 + i))))))) := hst1.rk
              have hc79 : E1 ((27 + nk1)) = .inl (cA 0, 10, .inl (v1 (26 + nk1))) := (hst1.row 26 nk1 (by decide) (by omega))
              refine g_callVI F (q := 120) (av := [.ref (ad 22), .int (pla2_4 i), .int (ti2_4 i), .int (re2_4 i)]) (st := []) (c_X5_addSound_b (p := (pla2_4 i)) (t := (ti2_4 i)) (c := (re2_4 i)) h1 hc71 hc72 hc73 hc74 h22 hc75 hc76 hc77 hc78 hc79 (by first | assumption | decide | omega) (by first | assumption | decide | omega)) kv_X5_addSound tq_559 h1 rfl (by omega) ⟨rfl, rfl⟩ (by decide) ⟨Nat.le_refl _, Nat.le_refl _⟩ rfl rfl (Nat.le_of_ble_eq_true rfl) (dk dX6_readOrders 62 rfl) rfl (fun r117 E117 hp117 => ?_)
              obtain ⟨w2_117, rfl, hK1_117, hK22_117, hK23_117, hK24_117, hK25_117, hK_27___nk1__117, hw_117, hF117⟩ := hp117
              refine g_pop F (q := 121) (dk dX6_readOrders 63 rfl) rfl rfl ?_
              refine g_iinc F (q := 124) (v := (nI ((i + 1)))) (lv' := [(3, .int (nI ((i + 1)))), (4, .ref (ad 22)), (0, .ref (ad 0))]) (dk dX6_readOrders 64 rfl) rfl 2 rfl (nI_1 _) (Nat.le_of_ble_eq_true rfl) rfl ?_
              refine g_goto F (tgt := 42) (dk dX6_readOrders 65 rfl) (by decide) ?_
              have hsv : StA cA ad E117 1 (sndV v1 21 nk1 (upd (v1 22) nk1 (pla2_4 i)) (upd (v1 23) nk1 (ti2_4 i)) (upd (v1 24) nk1 (r1 3)) w2_117 (nI (nk1 + 1)) (oV (nI ne) (r1 3) (r1 4) (ti2_4 i))) := hst1.snd (Or.inr rfl) hm10 hK1_117 hK22_117 hK23_117 hK24_117 hK25_117 hK_27___nk1__117 (fun i hi => hF117 i (by omega))
              refine g_lv (lv' := [(0, .ref (ad 0)), (3, .int (nI ((i + 1))))]) [2, 0] rfl ?_
              exact ih (i + 1) os3 (mkR r1 ne 1 nk1 (pla2_4 i) (ti2_4 i) (re2_4 i)) nt1 (nk1 + 1) (sndV v1 21 nk1 (upd (v1 22) nk1 (pla2_4 i)) (upd (v1 23) nk1 (ti2_4 i)) (upd (v1 24) nk1 (r1 3)) w2_117 (nI (nk1 + 1)) (oV (nI ne) (r1 3) (r1 4) (ti2_4 i))) E117 (by omega) hsv (fun j hj => ((hF117 j (by omega)).trans (hfr42 j (by omega)))) (by omega) (hcn1.snd1 hm10 hrf.1 hrf.2.1 (fun e he => hw_117 e he)) hd3 (hR.trans (rl_t hnt1 hnk1 hz.1)) (by rw [mkR_5]; exact hz.2)
      refine g_lv (lv' := [(0, .ref (ad 0)), (3, .int 0)]) [3, 0] rfl ?_
      exact K42 _ 0 ((prs txt ln 61 0).1) r nt nk v E37 (Nat.lt_succ_self _) hb18 (fun j _ => rfl) (by omega) hcn rfl rfl c24
    · refine g_iload_n F (q := 28) (dk dX6_readOrders 16 rfl) rfl rfl 0 rfl ?_
      have hs : sRead r ne nt nk txt ln = (rfL (prs txt ln 61 0).1 nt nk (r 5), none) := sRead_n rfl hnone hnt hnk c24
      have hb80 := hmk.fr (fun j h1 h2 => hF4 j (by omega))
      have hb81 := hsr.fr (fun j h1 h2 => hF4 j (by omega))
      have hb82 := hst.fr (fun j h1 h2 => hF4 j (by omega))
      have hb83 := hsn.fr (fun j h1 h2 => hF4 j (by omega))
      have hc84 := (hF4 73 (by omega)).trans h73
      have hc85 := (hF4 74 (by omega)).trans h74
      have hb86 : ∀ i, i < 4 → StA cA ad E4 (tg i) (vh i) := (fun i hi => (hhs i hi).fr (fun j h1 h2 => hF4 j (by have := (htg i hi).1; omega)))
      have hc87 := (hF4 220 (by omega)).trans h220
      refine hret (rfL ((prs txt ln 61 0).1) nt nk (r 5)) E4 _ _ (dk dX6_readOrders 17 rfl) (nint _) ?_
      exact ⟨ne, nt, nk, (by rw [hs]), (by rw [hs]; exact ⟨_, _, _, _, _, _, _, _, _, _, _, hc10, hb82, hb83, hc84, hc85, hb86, hK219_4, hc87, hK221_4, hK222_4, hK223_4, hK224_4, htg, hnh, hln, hcn, hhc, hss⟩), hb80, hb81, (fun j hj => (hF4 j (by omega)))⟩
theorem kv_X6_readOrders : KV yX6_readOrders "ThumpEars" cX6_readOrders 5 (some .int) 0 := ⟨tq_583, tq_584, tq_9, tq_585, by decide +kernel⟩
