abbrev rm_X6_setPace : Room := { frames := 4, cells := 0, slots := 0, locals := 104 }
set_option maxHeartbeats 4000000 in
set_option maxRecDepth 100000 in
theorem c_X6_setPace {l : Launch} {D : va_G} {cA : Nat → ClassId} {ad : Nat → Nat} {E : Nat → va_E} {r : Nat → Int32} {ne nt nk nh : Nat} {H : Nat → Nat → Int32} {s1 : Int32} {asd : Nat → Int32} {ln : Nat} {txt : Nat → Int32} {value : Int32}  (hco : Core cA ad E r ne nt nk nh H s1 asd ln txt) (hmk : MkP cA ad E) (hsr : SrP cA ad E)  : CtI l D cA yX6_setPace cX6_setPace 3 .int rm_X6_setPace 235 ad E [.ref (ad 0), .int value] (fun x E' => ∃ (ne2 : Nat) (nt2 : Nat) (nk2 : Nat), (sSet r 0 value).1 = x ∧ (Core cA ad E' (nR (sSet r 0 value).2 r) ne2 nt2 nk2 (nN (sSet r 0 value).2 nh) (nHs (sSet r 0 value).2 nh H r) s1 asd ln txt) ∧ (MkP cA ad E') ∧ (SrP cA ad E') ∧ ∀ j, (233 ≤ j) → E' j = E j) := by
  refine CtI.of (by decide +kernel) (Nat.le_of_ble_eq_true rfl) (fun X F hret => ?_)
  have F : Fr "ThumpEars" cX6_setPace 3 D cA X := F
  refine (show GG rm_X6_setPace 3 l D X 0 0 235 ad E 0 [(0, .ref (ad 0)), (1, .int value)] [] from ?_)
  have hco2 := hco
  obtain ⟨v, vs, tg, vh, od, po, nu, ar, pla, ti, re, h0, hst, hsn, h73, h74, hhs, h219, h220, h221, h222, h223, h224, htg, hnh, hln, hcn, hhc, hss⟩ := hco2
  have hmk2 := hmk
  obtain ⟨m0, th, rd, er, h225, hth, hrd, her⟩ := hmk2
  have hsr2 := hsr
  obtain ⟨s0, px, pp, ls, gr, ea, pl, rt, h229, hsea, hspl, hsrt⟩ := hsr2
  have hne := hcn.i.e0
  have hnt := hcn.i.e1
  have hnk := hcn.i.e2
  have h1 : E 1 = .inr (5, [.ref (ad 2), .ref (ad 3), .ref (ad 4), .ref (ad 5), .ref (ad 6), .ref (ad 7), .ref (ad 22), .int (nI ne), .int (r 3), .int (r 4), .int (r 5)]) := by have q := hst.o; rw [hcn.n0, hcn.r3, hcn.r4, hcn.r5] at q; exact q
  have h7 : E 7 = .inr (3, [.ref (ad 8), .ref (ad 9), .ref (ad 10), .ref (ad 11), .int (nI nt)]) := by have q := hst.t; rw [hcn.n1] at q; exact q
  have h22 : E 22 = .inr (3, [.ref (ad 23), .ref (ad 24), .ref (ad 25), .ref (ad 26), .int (nI nk)]) := by have q := hst.k; rw [hcn.n2] at q; exact q
  refine g_iload_n F (q := 1) (dk dX6_setPace 0 rfl) rfl rfl 1 rfl ?_
  refine g_iconst F (q := 2) (v := 1) (dk dX6_setPace 1 rfl) rfl (by decide) ?_
  refine g_bipush F (q := 4) (v := 20) (dk dX6_setPace 2 rfl) rfl (by decide) ?_
  refine g_callSI F (q := 7) (av := [.int value, .int 1, .int 20]) (st := []) (c_X6_isWithin (y := value) (a := 1) (b := 20)) ks_X6_isWithin tq_266 ⟨rfl, rfl⟩ (by decide) ⟨Nat.le_refl _, Nat.le_refl _⟩ rfl rfl (Nat.le_of_ble_eq_true rfl) (dk dX6_setPace 3 rfl) rfl (fun r4 E4 hp4 => ?_)
  rcases hp4 with ⟨rfl, rfl, b4⟩ | ⟨rfl, rfl, b4⟩
  · refine g_if_ne F (q := 10) (tgt := 13) (dk dX6_setPace 4 rfl) (by decide) rfl (fun _ => ?_) (fun h => absurd h (by decide))
    refine g_aload_n F (q := 14) (dk dX6_setPace 7 rfl) rfl rfl 0 rfl ?_
    refine g_getf F (q := 17) h0 rfl inX6 (by omega) (j := 0) (by decide) tq_240 rfl rfl (dk dX6_setPace 8 rfl) rfl ?_
    refine g_getf F (q := 20) h1 rfl inX5 (by omega) (j := 8) (by decide) tq_96 rfl rfl (dk dX6_setPace 9 rfl) rfl ?_
    refine g_istore_n F (q := 21) (lv' := [(2, .int (r 3)), (0, .ref (ad 0)), (1, .int value)]) (dk dX6_setPace 10 rfl) rfl rfl (Nat.le_of_ble_eq_true rfl) rfl ?_
    refine g_iload_n F (q := 22) (dk dX6_setPace 11 rfl) rfl rfl 2 rfl ?_
    refine g_iload_n F (q := 23) (dk dX6_setPace 12 rfl) rfl rfl 0 rfl ?_
    refine g_icmp_ne F (q := 26) (tgt := 29) (dk dX6_setPace 13 rfl) (by decide) rfl (fun c23 => ?_) (fun c23 => ?_)
    · refine g_aload_n F (q := 30) (dk dX6_setPace 16 rfl) rfl rfl 1 rfl ?_
      refine g_getf F (q := 33) h0 rfl inX6 (by omega) (j := 3) (by decide) tq_243 rfl rfl (dk dX6_setPace 17 rfl) rfl ?_
      refine g_aload_n F (q := 34) (dk dX6_setPace 18 rfl) rfl rfl 1 rfl ?_
      refine g_getf F (q := 37) h0 rfl inX6 (by omega) (j := 0) (by decide) tq_240 rfl rfl (dk dX6_setPace 19 rfl) rfl ?_
      refine g_callVV F (q := 40) (av := [.ref (ad 1)]) (st := []) (c_X0_push h73 h74 hhs hst (by first | assumption | decide | omega) (by first | assumption | decide | omega) hcn.bz4 hcn.bz5) kv_X0_push tq_269 h73 rfl (by omega) ⟨rfl, rfl⟩ (by decide) ⟨Nat.le_refl _, Nat.le_refl _⟩ rfl rfl (Nat.le_of_ble_eq_true rfl) (dk dX6_setPace 20 rfl) rfl (fun E37 hp37 => ?_)
      obtain ⟨wv_37, hK73_37, hK74_37, hBhs_37, hq_37, hF37⟩ := hp37
      have hhc := hist_push hhc ⟨_, _, _, hcn⟩ hq_37 hnh
      have htg := htg.p (nh := nh)
      have hb1 := hst.fr (fun j h1 h2 => hF37 j (by omega))
      have hstP := hb1
      refine g_aload_n F (q := 41) (dk dX6_setPace 21 rfl) rfl rfl 1 rfl ?_
      have hc2 := (hF37 0 (by omega)).trans h0
      refine g_getf F (q := 44) hc2 rfl inX6 (by omega) (j := 0) (by decide) tq_240 rfl rfl (dk dX6_setPace 22 rfl) rfl ?_
      refine g_iload_n F (q := 45) (dk dX6_setPace 23 rfl) rfl rfl 2 rfl ?_
      have hc3 := (hF37 1 (by omega)).trans h1
      refine g_putf F (q := 48) (ty := .int) hc3 rfl inX5 tyX5 tyX5_ok nmX5 (by omega) (j := 8) (by decide) tq_96 rfl rfl (by decide +kernel) rfl rfl (Nat.le_of_ble_eq_true rfl) (dk dX6_setPace 24 rfl) rfl (fun E45 hE45 hO45 => ?_)
      have hE45 : E45 1 = .inr (5, [.ref (ad 2), .ref (ad 3), .ref (ad 4), .ref (ad 5), .ref (ad 6), .ref (ad 7), .ref (ad 22), .int (nI ne), .int value, .int (r 4), .int (r 5)]) := hE45
      refine g_iload_n F (q := 49) (dk dX6_setPace 25 rfl) rfl rfl 0 rfl ?_
      have hs : sSet r 0 value = (r 3, some (upd r 3 value)) := by unfold sSet; rw [if_pos rfl, if_pos b4, if_neg (fun h => c23 h.symm)]
      have hb4 := hmk.fr (fun j h1 h2 => hF37 j (by omega))
      have hb5 := hb4.fr (fun j h1 h2 => hO45 j (by omega))
      have hb6 := hsr.fr (fun j h1 h2 => hF37 j (by omega))
      have hb7 := hb6.fr (fun j h1 h2 => hO45 j (by omega))
      have hsv : StA cA ad E45 1 (vset v 0 (oV (nI ne) value (r 4) (r 5))) := hstP.puts hE45 hO45
      have hcv : Can (vset v 0 (oV (nI ne) value (r 4) (r 5))) (upd r 3 value) ne nt nk := hcn.pace (i32le (by decide) (by decide) b4)
      have hc8 := (hO45 0 (by omega)).trans hc2
      have hb9 := hsn.fr (fun j h1 h2 => hF37 j (by omega))
      have hb10 := hb9.fr (fun j h1 h2 => hO45 j (by omega))
      have hc11 := (hO45 73 (by omega)).trans hK73_37
      have hc12 := (hO45 74 (by omega)).trans hK74_37
      have hb13 : ∀ i, i < 4 → StA cA ad E45 ((pRot nh tg) i) ((va_up (pRot nh vh) (pAt nh) wv_37) i) := (fun i hi => (hBhs_37 i hi).fr (fun j h1 h2 => hO45 j (by have := (htg i hi).1; omega)))
      have hc14 := (hF37 219 (by omega)).trans h219
      have hc15 := (hO45 219 (by omega)).trans hc14
      have hc16 := (hF37 220 (by omega)).trans h220
      have hc17 := (hO45 220 (by omega)).trans hc16
      have hc18 := (hF37 221 (by omega)).trans h221
      have hc19 := (hO45 221 (by omega)).trans hc18
      have hc20 := (hF37 222 (by omega)).trans h222
      have hc21 := (hO45 222 (by omega)).trans hc20
      have hc22 := (hF37 223 (by omega)).trans h223
      have hc23 := (hO45 223 (by omega)).trans hc22
      have hc24 := (hF37 224 (by omega)).trans h224
      have hc25 := (hO45 224 (by omega)).trans hc24
      refine hret (r 3) E45 _ _ (dk dX6_setPace 26 rfl) (nint _) ?_
      exact ⟨ne, nt, nk, (by rw [hs]), (by rw [hs]; exact ⟨_, _, _, _, _, _, _, _, _, _, _, hc8, hsv, hb10, hc11, hc12, hb13, hc15, hc17, hc19, hc21, hc23, hc25, htg, (nup_le hnh), hln, hcv, hhc, hss⟩), hb5, hb7, (fun j hj => ((hO45 j (by omega)).trans (hF37 j (by omega))))⟩
    · refine g_bipush F (q := 28) (v := (-5)) (dk dX6_setPace 14 rfl) rfl (by decide) ?_
      have hs : sSet r 0 value = (-5, none) := by unfold sSet; rw [if_pos rfl, if_pos b4, if_pos c23.symm]
      refine hret (-5) E _ _ (dk dX6_setPace 15 rfl) (nint _) ?_
      exact ⟨ne, nt, nk, (by rw [hs]), (by rw [hs]; exact hco), hmk, hsr, (fun j _ => rfl)⟩
  · refine g_if_ne F (q := 10) (tgt := 13) (dk dX6_setPace 4 rfl) (by decide) rfl (fun h => absurd h (by decide)) (fun _ => ?_)
    refine g_bipush F (q := 12) (v := (-2)) (dk dX6_setPace 5 rfl) rfl (by decide) ?_
    have hs : sSet r 0 value = (-2, none) := by unfold sSet; rw [if_pos rfl, if_neg b4]
    refine hret (-2) E _ _ (dk dX6_setPace 6 rfl) (nint _) ?_
    exact ⟨ne, nt, nk, (by rw [hs]), (by rw [hs]; exact hco), hmk, hsr, (fun j _ => rfl)⟩
theorem kv_X6_setPace : KV yX6_setPace "ThumpEars" cX6_setPace 3 (some .int) 1 := ⟨tq_533, tq_4, tq_9, tq_534, by decide +kernel⟩
abbrev rm_X6_setTolerance : Room := { frames := 4, cells := 0, slots := 0, locals := 104 }
set_option maxHeartbeats 4000000 in
set_option maxRecDepth 100000 in
theorem c_X6_setTolerance {l : Launch} {D : va_G} {cA : Nat → ClassId} {ad : Nat → Nat} {E : Nat → va_E} {r : Nat → Int32} {ne nt nk nh : Nat} {H : Nat → Nat → Int32} {s1 : Int32} {asd : Nat → Int32} {ln : Nat} {txt : Nat → Int32} {value : Int32}  (hco : Core cA ad E r ne nt nk nh H s1 asd ln txt) (hmk : MkP cA ad E) (hsr : SrP cA ad E)  : CtI l D cA yX6_setTolerance cX6_setTolerance 3 .int rm_X6_setTolerance 235 ad E [.ref (ad 0), .int value] (fun x E' => ∃ (ne2 : Nat) (nt2 : Nat) (nk2 : Nat), (sSet r 1 value).1 = x ∧ (Core cA ad E' (nR (sSet r 1 value).2 r) ne2 nt2 nk2 (nN (sSet r 1 value).2 nh) (nHs (sSet r 1 value).2 nh H r) s1 asd ln txt) ∧ (MkP cA ad E') ∧ (SrP cA ad E') ∧ ∀ j, (233 ≤ j) → E' j = E j) := by
  refine CtI.of (by decide +kernel) (Nat.le_of_ble_eq_true rfl) (fun X F hret => ?_)
  have F : Fr "ThumpEars" cX6_setTolerance 3 D cA X := F
  refine (show GG rm_X6_setTolerance 3 l D X 0 0 235 ad E 0 [(0, .ref (ad 0)), (1, .int value)] [] from ?_)
  have hco2 := hco
  obtain ⟨v, vs, tg, vh, od, po, nu, ar, pla, ti, re, h0, hst, hsn, h73, h74, hhs, h219, h220, h221, h222, h223, h224, htg, hnh, hln, hcn, hhc, hss⟩ := hco2
  have hmk2 := hmk
  obtain ⟨m0, th, rd, er, h225, hth, hrd, her⟩ := hmk2
  have hsr2 := hsr
  obtain ⟨s0, px, pp, ls, gr, ea, pl, rt, h229, hsea, hspl, hsrt⟩ := hsr2
  have hne := hcn.i.e0
  have hnt := hcn.i.e1
  have hnk := hcn.i.e2
  have h1 : E 1 = .inr (5, [.ref (ad 2), .ref (ad 3), .ref (ad 4), .ref (ad 5), .ref (ad 6), .ref (ad 7), .ref (ad 22), .int (nI ne), .int (r 3), .int (r 4), .int (r 5)]) := by have q := hst.o; rw [hcn.n0, hcn.r3, hcn.r4, hcn.r5] at q; exact q
  have h7 : E 7 = .inr (3, [.ref (ad 8), .ref (ad 9), .ref (ad 10), .ref (ad 11), .int (nI nt)]) := by have q := hst.t; rw [hcn.n1] at q; exact q
  have h22 : E 22 = .inr (3, [.ref (ad 23), .ref (ad 24), .ref (ad 25), .ref (ad 26), .int (nI nk)]) := by have q := hst.k; rw [hcn.n2] at q; exact q
  refine g_iload_n F (q := 1) (dk dX6_setTolerance 0 rfl) rfl rfl 1 rfl ?_
  refine g_iconst F (q := 2) (v := 0) (dk dX6_setTolerance 1 rfl) rfl (by decide) ?_
  refine g_sipush F (q := 5) (v := 500) (dk dX6_setTolerance 2 rfl) rfl (by decide) ?_
  refine g_callSI F (q := 8) (av := [.int value, .int 0, .int 500]) (st := []) (c_X6_isWithin (y := value) (a := 0) (b := 500)) ks_X6_isWithin tq_266 ⟨rfl, rfl⟩ (by decide) ⟨Nat.le_refl _, Nat.le_refl _⟩ rfl rfl (Nat.le_of_ble_eq_true rfl) (dk dX6_setTolerance 3 rfl) rfl (fun r5 E5 hp5 => ?_)
  rcases hp5 with ⟨rfl, rfl, b5⟩ | ⟨rfl, rfl, b5⟩
  · refine g_if_ne F (q := 11) (tgt := 14) (dk dX6_setTolerance 4 rfl) (by decide) rfl (fun _ => ?_) (fun h => absurd h (by decide))
    refine g_aload_n F (q := 15) (dk dX6_setTolerance 7 rfl) rfl rfl 0 rfl ?_
    refine g_getf F (q := 18) h0 rfl inX6 (by omega) (j := 0) (by decide) tq_240 rfl rfl (dk dX6_setTolerance 8 rfl) rfl ?_
    refine g_getf F (q := 21) h1 rfl inX5 (by omega) (j := 9) (by decide) tq_98 rfl rfl (dk dX6_setTolerance 9 rfl) rfl ?_
    refine g_istore_n F (q := 22) (lv' := [(2, .int (r 4)), (0, .ref (ad 0)), (1, .int value)]) (dk dX6_setTolerance 10 rfl) rfl rfl (Nat.le_of_ble_eq_true rfl) rfl ?_
    refine g_iload_n F (q := 23) (dk dX6_setTolerance 11 rfl) rfl rfl 2 rfl ?_
    refine g_iload_n F (q := 24) (dk dX6_setTolerance 12 rfl) rfl rfl 0 rfl ?_
    refine g_icmp_ne F (q := 27) (tgt := 30) (dk dX6_setTolerance 13 rfl) (by decide) rfl (fun c24 => ?_) (fun c24 => ?_)
    · refine g_aload_n F (q := 31) (dk dX6_setTolerance 16 rfl) rfl rfl 1 rfl ?_
      refine g_getf F (q := 34) h0 rfl inX6 (by omega) (j := 3) (by decide) tq_243 rfl rfl (dk dX6_setTolerance 17 rfl) rfl ?_
      refine g_aload_n F (q := 35) (dk dX6_setTolerance 18 rfl) rfl rfl 1 rfl ?_
      refine g_getf F (q := 38) h0 rfl inX6 (by omega) (j := 0) (by decide) tq_240 rfl rfl (dk dX6_setTolerance 19 rfl) rfl ?_
      refine g_callVV F (q := 41) (av := [.ref (ad 1)]) (st := []) (c_X0_push h73 h74 hhs hst (by first | assumption | decide | omega) (by first | assumption | decide | omega) hcn.bz4 hcn.bz5) kv_X0_push tq_269 h73 rfl (by omega) ⟨rfl, rfl⟩ (by decide) ⟨Nat.le_refl _, Nat.le_refl _⟩ rfl rfl (Nat.le_of_ble_eq_true rfl) (dk dX6_setTolerance 20 rfl) rfl (fun E38 hp38 => ?_)
      obtain ⟨wv_38, hK73_38, hK74_38, hBhs_38, hq_38, hF38⟩ := hp38
      have hhc := hist_push hhc ⟨_, _, _, hcn⟩ hq_38 hnh
      have htg := htg.p (nh := nh)
      have hb1 := hst.fr (fun j h1 h2 => hF38 j (by omega))
      have hstP := hb1
      refine g_aload_n F (q := 42) (dk dX6_setTolerance 21 rfl) rfl rfl 1 rfl ?_
      have hc2 := (hF38 0 (by omega)).trans h0
      refine g_getf F (q := 45) hc2 rfl inX6 (by omega) (j := 0) (by decide) tq_240 rfl rfl (dk dX6_setTolerance 22 rfl) rfl ?_
      refine g_iload_n F (q := 46) (dk dX6_setTolerance 23 rfl) rfl rfl 2 rfl ?_
      have hc3 := (hF38 1 (by omega)).trans h1
      refine g_putf F (q := 49) (ty := .int) hc3 rfl inX5 tyX5 tyX5_ok nmX5 (by omega) (j := 9) (by decide) tq_98 rfl rfl (by decide +kernel) rfl rfl (Nat.le_of_ble_eq_true rfl) (dk dX6_setTolerance 24 rfl) rfl (fun E46 hE46 hO46 => ?_)
      have hE46 : E46 1 = .inr (5, [.ref (ad 2), .ref (ad 3), .ref (ad 4), .ref (ad 5), .ref (ad 6), .ref (ad 7), .ref (ad 22), .int (nI ne), .int (r 3), .int value, .int (r 5)]) := hE46
      refine g_iload_n F (q := 50) (dk dX6_setTolerance 25 rfl) rfl rfl 0 rfl ?_
      have hs : sSet r 1 value = (r 4, some (upd r 4 value)) := by unfold sSet; rw [if_neg (by decide), if_pos rfl, if_pos b5, if_neg (fun h => c24 h.symm)]
      have hb4 := hmk.fr (fun j h1 h2 => hF38 j (by omega))
      have hb5 := hb4.fr (fun j h1 h2 => hO46 j (by omega))
      have hb6 := hsr.fr (fun j h1 h2 => hF38 j (by omega))
      have hb7 := hb6.fr (fun j h1 h2 => hO46 j (by omega))
      have hsv : StA cA ad E46 1 (vset v 0 (oV (nI ne) (r 3) value (r 5))) := hstP.puts hE46 hO46
      have hcv : Can (vset v 0 (oV (nI ne) (r 3) value (r 5))) (upd r 4 value) ne nt nk := hcn.tol (i32le (by decide) (by decide) b5)
      have hc8 := (hO46 0 (by omega)).trans hc2
      have hb9 := hsn.fr (fun j h1 h2 => hF38 j (by omega))
      have hb10 := hb9.fr (fun j h1 h2 => hO46 j (by omega))
      have hc11 := (hO46 73 (by omega)).trans hK73_38
      have hc12 := (hO46 74 (by omega)).trans hK74_38
      have hb13 : ∀ i, i < 4 → StA cA ad E46 ((pRot nh tg) i) ((va_up (pRot nh vh) (pAt nh) wv_38) i) := (fun i hi => (hBhs_38 i hi).fr (fun j h1 h2 => hO46 j (by have := (htg i hi).1; omega)))
      have hc14 := (hF38 219 (by omega)).trans h219
      have hc15 := (hO46 219 (by omega)).trans hc14
      have hc16 := (hF38 220 (by omega)).trans h220
      have hc17 := (hO46 220 (by omega)).trans hc16
      have hc18 := (hF38 221 (by omega)).trans h221
      have hc19 := (hO46 221 (by omega)).trans hc18
      have hc20 := (hF38 222 (by omega)).trans h222
      have hc21 := (hO46 222 (by omega)).trans hc20
      have hc22 := (hF38 223 (by omega)).trans h223
      have hc23 := (hO46 223 (by omega)).trans hc22
      have hc24 := (hF38 224 (by omega)).trans h224
      have hc25 := (hO46 224 (by omega)).trans hc24
      refine hret (r 4) E46 _ _ (dk dX6_setTolerance 26 rfl) (nint _) ?_
      exact ⟨ne, nt, nk, (by rw [hs]), (by rw [hs]; exact ⟨_, _, _, _, _, _, _, _, _, _, _, hc8, hsv, hb10, hc11, hc12, hb13, hc15, hc17, hc19, hc21, hc23, hc25, htg, (nup_le hnh), hln, hcv, hhc, hss⟩), hb5, hb7, (fun j hj => ((hO46 j (by omega)).trans (hF38 j (by omega))))⟩
    · refine g_bipush F (q := 29) (v := (-5)) (dk dX6_setTolerance 14 rfl) rfl (by decide) ?_
      have hs : sSet r 1 value = (-5, none) := by unfold sSet; rw [if_neg (by decide), if_pos rfl, if_pos b5, if_pos c24.symm]
      refine hret (-5) E _ _ (dk dX6_setTolerance 15 rfl) (nint _) ?_
      exact ⟨ne, nt, nk, (by rw [hs]), (by rw [hs]; exact hco), hmk, hsr, (fun j _ => rfl)⟩
  · refine g_if_ne F (q := 11) (tgt := 14) (dk dX6_setTolerance 4 rfl) (by decide) rfl (fun h => absurd h (by decide)) (fun _ => ?_)
    refine g_bipush F (q := 13) (v := (-2)) (dk dX6_setTolerance 5 rfl) rfl (by decide) ?_
    have hs : sSet r 1 value = (-2, none) := by unfold sSet; rw [if_neg (by decide), if_pos rfl, if_neg b5]
    refine hret (-2) E _ _ (dk dX6_setTolerance 6 rfl) (nint _) ?_
    exact ⟨ne, nt, nk, (by rw [hs]), (by rw [hs]; exact hco), hmk, hsr, (fun j _ => rfl)⟩
theorem kv_X6_setTolerance : KV yX6_setTolerance "ThumpEars" cX6_setTolerance 3 (some .int) 1 := ⟨tq_537, tq_5, tq_9, tq_538, by decide +kernel⟩
abbrev rm_X6_set : Room := { frames := 5, cells := 0, slots := 0, locals := 126 }
set_option maxHeartbeats 4000000 in
set_option maxRecDepth 100000 in
theorem c_X6_set {l : Launch} {D : va_G} {cA : Nat → ClassId} {ad : Nat → Nat} {E : Nat → va_E} {r : Nat → Int32} {ne nt nk nh : Nat} {H : Nat → Nat → Int32} {s1 : Int32} {asd : Nat → Int32} {ln : Nat} {txt : Nat → Int32} {what value : Int32}  (hco : Core cA ad E r ne nt nk nh H s1 asd ln txt) (hmk : MkP cA ad E) (hsr : SrP cA ad E)  : CtI l D cA yX6_set cX6_set 3 .int rm_X6_set 235 ad E [.ref (ad 0), .int what, .int value] (fun x E' => ∃ (ne2 : Nat) (nt2 : Nat) (nk2 : Nat), (sSet r what value).1 = x ∧ (Core cA ad E' (nR (sSet r what value).2 r) ne2 nt2 nk2 (nN (sSet r what value).2 nh) (nHs (sSet r what value).2 nh H r) s1 asd ln txt) ∧ (MkP cA ad E') ∧ (SrP cA ad E') ∧ ∀ j, (233 ≤ j) → E' j = E j) := by
  refine CtI.of (by decide +kernel) (Nat.le_of_ble_eq_true rfl) (fun X F hret => ?_)
  have F : Fr "ThumpEars" cX6_set 3 D cA X := F
  refine (show GG rm_X6_set 3 l D X 0 0 235 ad E 0 [(0, .ref (ad 0)), (1, .int what), (2, .int value)] [] from ?_)
  have hco2 := hco
  obtain ⟨v, vs, tg, vh, od, po, nu, ar, pla, ti, re, h0, hst, hsn, h73, h74, hhs, h219, h220, h221, h222, h223, h224, htg, hnh, hln, hcn, hhc, hss⟩ := hco2
  have hmk2 := hmk
  obtain ⟨m0, th, rd, er, h225, hth, hrd, her⟩ := hmk2
  have hsr2 := hsr
  obtain ⟨s0, px, pp, ls, gr, ea, pl, rt, h229, hsea, hspl, hsrt⟩ := hsr2
  have hne := hcn.i.e0
  have hnt := hcn.i.e1
  have hnk := hcn.i.e2
  have h1 : E 1 = .inr (5, [.ref (ad 2), .ref (ad 3), .ref (ad 4), .ref (ad 5), .ref (ad 6), .ref (ad 7), .ref (ad 22), .int (nI ne), .int (r 3), .int (r 4), .int (r 5)]) := by have q := hst.o; rw [hcn.n0, hcn.r3, hcn.r4, hcn.r5] at q; exact q
  have h7 : E 7 = .inr (3, [.ref (ad 8), .ref (ad 9), .ref (ad 10), .ref (ad 11), .int (nI nt)]) := by have q := hst.t; rw [hcn.n1] at q; exact q
  have h22 : E 22 = .inr (3, [.ref (ad 23), .ref (ad 24), .ref (ad 25), .ref (ad 26), .int (nI nk)]) := by have q := hst.k; rw [hcn.n2] at q; exact q
  refine g_iload_n F (q := 1) (dk dX6_set 0 rfl) rfl rfl 1 rfl ?_
  refine g_if_ne F (q := 4) (tgt := 10) (dk dX6_set 1 rfl) (by decide) rfl (fun c1 => ?_) (fun c1 => ?_)
  · refine g_iload_n F (q := 11) (dk dX6_set 6 rfl) rfl rfl 1 rfl ?_
    refine g_iconst F (q := 12) (v := 1) (dk dX6_set 7 rfl) rfl (by decide) ?_
    refine g_icmp_ne F (q := 15) (tgt := 23) (dk dX6_set 8 rfl) (by decide) rfl (fun c12 => ?_) (fun c12 => ?_)
    · refine g_bipush F (q := 25) (v := (-2)) (dk dX6_set 13 rfl) rfl (by decide) ?_
      have hs : sSet r what value = (-2, none) := by unfold sSet; rw [if_neg c1, if_neg c12]
      refine hret (-2) E _ _ (dk dX6_set 14 rfl) (nint _) ?_
      exact ⟨ne, nt, nk, (by rw [hs]), (by rw [hs]; exact hco), hmk, hsr, (fun j _ => rfl)⟩
    · refine g_aload_n F (q := 16) (dk dX6_set 9 rfl) rfl rfl 0 rfl ?_
      refine g_iload_n F (q := 17) (dk dX6_set 10 rfl) rfl rfl 2 rfl ?_
      refine g_callVI F (q := 20) (av := [.int value]) (st := []) (c_X6_setTolerance (value := value) hco hmk hsr) kv_X6_setTolerance tq_535 h0 rfl (by omega) ⟨rfl, rfl⟩ (by decide) ⟨Nat.le_refl _, Nat.le_refl _⟩ rfl rfl (Nat.le_of_ble_eq_true rfl) (dk dX6_set 11 rfl) rfl (fun r17 E17 hp17 => ?_)
      obtain ⟨ne2_17, nt2_17, nk2_17, rfl, hBcore_17, hBmk_17, hBsr_17, hF17⟩ := hp17
      refine g_goto F (tgt := 25) (dk dX6_set 12 rfl) (by decide) ?_
      refine hret (sSet r 1 value).1 E17 _ _ (dk dX6_set 14 rfl) (nint _) ?_
      exact ⟨_, _, _, (by rw [c12]), (by rw [c12]; exact hBcore_17), hBmk_17, hBsr_17, (fun j hj => (hF17 j (by omega)))⟩
  · refine g_aload_n F (q := 5) (dk dX6_set 2 rfl) rfl rfl 0 rfl ?_
    refine g_iload_n F (q := 6) (dk dX6_set 3 rfl) rfl rfl 2 rfl ?_
    refine g_callVI F (q := 9) (av := [.int value]) (st := []) (c_X6_setPace (value := value) hco hmk hsr) kv_X6_setPace tq_531 h0 rfl (by omega) ⟨rfl, rfl⟩ (by decide) ⟨Nat.le_refl _, Nat.le_refl _⟩ rfl rfl (Nat.le_of_ble_eq_true rfl) (dk dX6_set 4 rfl) rfl (fun r6 E6 hp6 => ?_)
    obtain ⟨ne2_6, nt2_6, nk2_6, rfl, hBcore_6, hBmk_6, hBsr_6, hF6⟩ := hp6
    refine hret (sSet r 0 value).1 E6 _ _ (dk dX6_set 5 rfl) (nint _) ?_
    exact ⟨_, _, _, (by rw [c1]), (by rw [c1]; exact hBcore_6), hBmk_6, hBsr_6, (fun j hj => (hF6 j (by omega)))⟩
theorem kv_X6_set : KV yX6_set "ThumpEars" cX6_set 3 (some .int) 2 := ⟨tq_528, tq_529, tq_9, tq_530, by decide +kernel⟩
abbrev rm_X6_refusal : Room := { frames := 1, cells := 0, slots := 0, locals := 22 }
set_option maxHeartbeats 4000000 in
set_option maxRecDepth 100000 in
theorem c_X6_refusal {l : Launch} {D : va_G} {cA : Nat → ClassId} {ad : Nat → Nat} {E : Nat → va_E} {p t c lt : Int32} {m : Nat}   (hm : m ≤ 10) : CtI l D cA yX6_refusal cX6_refusal 5 .int rm_X6_refusal 235 ad E [.int p, .int t, .int c, .int lt, .int (nI m)] (fun x E' => (rfS p t c lt m) = x ∧ E = E') := by
  refine CtI.of (by decide +kernel) (Nat.le_of_ble_eq_true rfl) (fun X F hret => ?_)
  have F : Fr "ThumpEars" cX6_refusal 5 D cA X := F
  refine (show GG rm_X6_refusal 5 l D X 0 0 235 ad E 0 [(0, .int p), (1, .int t), (2, .int c), (3, .int lt), (4, .int (nI m))] [] from ?_)
  refine g_iload_n F (q := 1) (dk dX6_refusal 0 rfl) rfl rfl 0 rfl ?_
  refine g_iconst F (q := 2) (v := 0) (dk dX6_refusal 1 rfl) rfl (by decide) ?_
  refine g_sipush F (q := 5) (v := 1000) (dk dX6_refusal 2 rfl) rfl (by decide) ?_
  refine g_callSI F (q := 8) (av := [.int p, .int 0, .int 1000]) (st := []) (c_X6_isWithin (y := p) (a := 0) (b := 1000)) ks_X6_isWithin tq_266 ⟨rfl, rfl⟩ (by decide) ⟨Nat.le_refl _, Nat.le_refl _⟩ rfl rfl (Nat.le_of_ble_eq_true rfl) (dk dX6_refusal 3 rfl) rfl (fun r5 E5 hp5 => ?_)
  rcases hp5 with ⟨rfl, rfl, b5⟩ | ⟨rfl, rfl, b5⟩
  · refine g_if_eq F (q := 11) (tgt := 32) (dk dX6_refusal 4 rfl) (by decide) rfl (fun h => absurd h (by decide)) (fun _ => ?_)
    refine g_iload_n F (q := 12) (dk dX6_refusal 5 rfl) rfl rfl 1 rfl ?_
    refine g_iconst F (q := 13) (v := 0) (dk dX6_refusal 6 rfl) rfl (by decide) ?_
    refine g_ldc F (q := 15) (v := 100000) (dk dX6_refusal 7 rfl) rfl tq_558 ?_
    refine g_callSI F (q := 18) (av := [.int t, .int 0, .int 100000]) (st := []) (c_X6_isWithin (y := t) (a := 0) (b := 100000)) ks_X6_isWithin tq_266 ⟨rfl, rfl⟩ (by decide) ⟨Nat.le_refl _, Nat.le_refl _⟩ rfl rfl (Nat.le_of_ble_eq_true rfl) (dk dX6_refusal 8 rfl) rfl (fun r15 E15 hp15 => ?_)
    rcases hp15 with ⟨rfl, rfl, b15⟩ | ⟨rfl, rfl, b15⟩
    · refine g_if_eq F (q := 21) (tgt := 32) (dk dX6_refusal 9 rfl) (by decide) rfl (fun h => absurd h (by decide)) (fun _ => ?_)
      refine g_iload_n F (q := 22) (dk dX6_refusal 10 rfl) rfl rfl 2 rfl ?_
      refine g_iconst F (q := 23) (v := 1) (dk dX6_refusal 11 rfl) rfl (by decide) ?_
      refine g_sipush F (q := 26) (v := 1000) (dk dX6_refusal 12 rfl) rfl (by decide) ?_
      refine g_callSI F (q := 29) (av := [.int c, .int 1, .int 1000]) (st := []) (c_X6_isWithin (y := c) (a := 1) (b := 1000)) ks_X6_isWithin tq_266 ⟨rfl, rfl⟩ (by decide) ⟨Nat.le_refl _, Nat.le_refl _⟩ rfl rfl (Nat.le_of_ble_eq_true rfl) (dk dX6_refusal 13 rfl) rfl (fun r26 E26 hp26 => ?_)
      rcases hp26 with ⟨rfl, rfl, b26⟩ | ⟨rfl, rfl, b26⟩
      · refine g_if_ne F (q := 32) (tgt := 35) (dk dX6_refusal 14 rfl) (by decide) rfl (fun _ => ?_) (fun h => absurd h (by decide))
        refine g_iload_n F (q := 36) (dk dX6_refusal 17 rfl) rfl rfl 1 rfl ?_
        refine g_iload_n F (q := 37) (dk dX6_refusal 18 rfl) rfl rfl 3 rfl ?_
        refine g_icmp_ge F (q := 40) (tgt := 43) (dk dX6_refusal 19 rfl) (by decide) rfl (fun c37 => ?_) (fun c37 => ?_)
        · refine g_iload F (q := 45) (dk dX6_refusal 22 rfl) rfl 4 rfl ?_
          refine g_bipush F (q := 47) (v := 10) (dk dX6_refusal 23 rfl) rfl (by decide) ?_
          refine g_icmp_lt F (q := 50) (tgt := 55) (dk dX6_refusal 24 rfl) (by decide) rfl (fun c47 => ?_) (fun c47 => ?_)
          · have nc47 : m < 10 := (nI_ltI (a := m) (b := 10) (by omega) (by omega)).mp c47
            refine g_iconst F (q := 56) (v := 0) (dk dX6_refusal 27 rfl) rfl (by decide) ?_
            refine hret 0 E _ _ (dk dX6_refusal 28 rfl) (nint _) ?_
            exact ⟨by unfold rfS; rw [if_pos ⟨b5, b15, b26⟩, if_neg (Int32.not_lt.mpr c37), if_neg (by omega)], rfl⟩
          · have nc47 : ¬ m < 10 := fun h => c47 ((nI_ltI (a := m) (b := 10) (by omega) (by omega)).mpr h)
            refine g_bipush F (q := 52) (v := (-3)) (dk dX6_refusal 25 rfl) rfl (by decide) ?_
            refine g_goto F (tgt := 56) (dk dX6_refusal 26 rfl) (by decide) ?_
            refine hret (-3) E _ _ (dk dX6_refusal 28 rfl) (nint _) ?_
            exact ⟨by unfold rfS; rw [if_pos ⟨b5, b15, b26⟩, if_neg (Int32.not_lt.mpr c37), if_pos (by omega)], rfl⟩
        · refine g_bipush F (q := 42) (v := (-4)) (dk dX6_refusal 20 rfl) rfl (by decide) ?_
          refine hret (-4) E _ _ (dk dX6_refusal 21 rfl) (nint _) ?_
          exact ⟨by unfold rfS; rw [if_pos ⟨b5, b15, b26⟩, if_pos (Int32.not_le.mp c37)], rfl⟩
      · refine g_if_ne F (q := 32) (tgt := 35) (dk dX6_refusal 14 rfl) (by decide) rfl (fun h => absurd h (by decide)) (fun _ => ?_)
        refine g_bipush F (q := 34) (v := (-2)) (dk dX6_refusal 15 rfl) rfl (by decide) ?_
        refine hret (-2) E _ _ (dk dX6_refusal 16 rfl) (nint _) ?_
        exact ⟨by unfold rfS; rw [if_neg (fun h => b26 h.2.2)], rfl⟩
    · refine g_if_eq F (q := 21) (tgt := 32) (dk dX6_refusal 9 rfl) (by decide) rfl (fun _ => ?_) (fun h => absurd h (by decide))
      refine g_bipush F (q := 34) (v := (-2)) (dk dX6_refusal 15 rfl) rfl (by decide) ?_
      refine hret (-2) E _ _ (dk dX6_refusal 16 rfl) (nint _) ?_
      exact ⟨by unfold rfS; rw [if_neg (fun h => b15 h.2.1)], rfl⟩
  · refine g_if_eq F (q := 11) (tgt := 32) (dk dX6_refusal 4 rfl) (by decide) rfl (fun _ => ?_) (fun h => absurd h (by decide))
    refine g_bipush F (q := 34) (v := (-2)) (dk dX6_refusal 15 rfl) rfl (by decide) ?_
    refine hret (-2) E _ _ (dk dX6_refusal 16 rfl) (nint _) ?_
    exact ⟨by unfold rfS; rw [if_neg (fun h => b5 h.1)], rfl⟩
theorem ks_X6_refusal : KS yX6_refusal "ThumpEars" cX6_refusal 5 (some .int) 5 := ⟨tq_556, tq_9, tq_557, by decide +kernel⟩
abbrev rm_X6_makeSound_a : Room := { frames := 4, cells := 0, slots := 0, locals := 104 }
set_option maxHeartbeats 4000000 in
set_option maxRecDepth 100000 in
theorem c_X6_makeSound_a {l : Launch} {D : va_G} {cA : Nat → ClassId} {ad : Nat → Nat} {E : Nat → va_E} {r : Nat → Int32} {ne nt nk nh : Nat} {H : Nat → Nat → Int32} {s1 : Int32} {asd : Nat → Int32} {ln : Nat} {txt : Nat → Int32} {p t c : Int32}  (hco : Core cA ad E r ne nt nk nh H s1 asd ln txt) (hmk : MkP cA ad E) (hsr : SrP cA ad E)  : CtI l D cA yX6_makeSound cX6_makeSound 6 .int rm_X6_makeSound_a 235 ad E [.ref (ad 0), .ref (ad 7), .int p, .int t, .int c] (fun x E' => ∃ (ne2 : Nat) (nt2 : Nat) (nk2 : Nat), (sAct r ne 0 nt p t c).1 = x ∧ (Core cA ad E' (nR (sAct r ne 0 nt p t c).2 r) ne2 nt2 nk2 (nN (sAct r ne 0 nt p t c).2 nh) (nHs (sAct r ne 0 nt p t c).2 nh H r) s1 asd ln txt) ∧ (MkP cA ad E') ∧ (SrP cA ad E') ∧ ∀ j, (233 ≤ j) → E' j = E j) := by
  refine CtI.of (by decide +kernel) (Nat.le_of_ble_eq_true rfl) (fun X F hret => ?_)
  have F : Fr "ThumpEars" cX6_makeSound 6 D cA X := F
  refine (show GG rm_X6_makeSound_a 6 l D X 0 0 235 ad E 0 [(0, .ref (ad 0)), (1, .ref (ad 7)), (2, .int p), (3, .int t), (4, .int c)] [] from ?_)
  have hco2 := hco
  obtain ⟨v, vs, tg, vh, od, po, nu, ar, pla, ti, re, h0, hst, hsn, h73, h74, hhs, h219, h220, h221, h222, h223, h224, htg, hnh, hln, hcn, hhc, hss⟩ := hco2
  have hmk2 := hmk
  obtain ⟨m0, th, rd, er, h225, hth, hrd, her⟩ := hmk2
  have hsr2 := hsr
  obtain ⟨s0, px, pp, ls, gr, ea, pl, rt, h229, hsea, hspl, hsrt⟩ := hsr2
  have hne := hcn.i.e0
  have hnt := hcn.i.e1
  have hnk := hcn.i.e2
  have h1 : E 1 = .inr (5, [.ref (ad 2), .ref (ad 3), .ref (ad 4), .ref (ad 5), .ref (ad 6), .ref (ad 7), .ref (ad 22), .int (nI ne), .int (r 3), .int (r 4), .int (r 5)]) := by have q := hst.o; rw [hcn.n0, hcn.r3, hcn.r4, hcn.r5] at q; exact q
  have h7 : E 7 = .inr (3, [.ref (ad 8), .ref (ad 9), .ref (ad 10), .ref (ad 11), .int (nI nt)]) := by have q := hst.t; rw [hcn.n1] at q; exact q
  have h22 : E 22 = .inr (3, [.ref (ad 23), .ref (ad 24), .ref (ad 25), .ref (ad 26), .int (nI nk)]) := by have q := hst.k; rw [hcn.n2] at q; exact q
  refine g_iload_n F (q := 1) (dk dX6_makeSound 0 rfl) rfl rfl 2 rfl ?_
  refine g_iload_n F (q := 2) (dk dX6_makeSound 1 rfl) rfl rfl 3 rfl ?_
  refine g_iload F (q := 4) (dk dX6_makeSound 2 rfl) rfl 4 rfl ?_
  refine g_aload_n F (q := 5) (dk dX6_makeSound 3 rfl) rfl rfl 0 rfl ?_
  refine g_getf F (q := 8) h0 rfl inX6 (by omega) (j := 0) (by decide) tq_240 rfl rfl (dk dX6_makeSound 4 rfl) rfl ?_
  refine g_getf F (q := 11) h1 rfl inX5 (by omega) (j := 10) (by decide) tq_100 rfl rfl (dk dX6_makeSound 5 rfl) rfl ?_
  refine g_aload_n F (q := 12) (dk dX6_makeSound 6 rfl) rfl rfl 1 rfl ?_
  refine g_getf F (q := 15) h7 rfl inX3 (by omega) (j := 4) (by decide) tq_60 rfl rfl (dk dX6_makeSound 7 rfl) rfl ?_
  refine g_callSI F (q := 18) (av := [.int p, .int t, .int c, .int (r 5), .int (nI nt)]) (st := []) (c_X6_refusal (p := p) (t := t) (c := c) (lt := (r 5)) (m := nt) (by first | assumption | decide | omega)) ks_X6_refusal tq_555 ⟨rfl, rfl⟩ (by decide) ⟨Nat.le_refl _, Nat.le_refl _⟩ rfl rfl (Nat.le_of_ble_eq_true rfl) (dk dX6_makeSound 8 rfl) rfl (fun r15 E15 hp15 => ?_)
  obtain ⟨rfl, rfl⟩ := hp15
  refine g_istore F (q := 20) (lv' := [(5, .int (rfS p t c (r 5) nt)), (0, .ref (ad 0)), (1, .ref (ad 7)), (2, .int p), (3, .int t), (4, .int c)]) (dk dX6_makeSound 9 rfl) rfl (Nat.le_of_ble_eq_true rfl) rfl ?_
  refine g_iload F (q := 22) (dk dX6_makeSound 10 rfl) rfl 0 rfl ?_
  refine g_if_eq F (q := 25) (tgt := 28) (dk dX6_makeSound 11 rfl) (by decide) rfl (fun c22 => ?_) (fun c22 => ?_)
  · have hrf := rfS_0 c22
    have hm10 := hrf.2.2
    refine g_aload_n F (q := 29) (dk dX6_makeSound 14 rfl) rfl rfl 1 rfl ?_
    refine g_getf F (q := 32) h0 rfl inX6 (by omega) (j := 3) (by decide) tq_243 rfl rfl (dk dX6_makeSound 15 rfl) rfl ?_
    refine g_aload_n F (q := 33) (dk dX6_makeSound 16 rfl) rfl rfl 1 rfl ?_
    refine g_getf F (q := 36) h0 rfl inX6 (by omega) (j := 0) (by decide) tq_240 rfl rfl (dk dX6_makeSound 17 rfl) rfl ?_
    refine g_callVV F (q := 39) (av := [.ref (ad 1)]) (st := []) (c_X0_push h73 h74 hhs hst (by first | assumption | decide | omega) (by first | assumption | decide | omega) hcn.bz4 hcn.bz5) kv_X0_push tq_269 h73 rfl (by omega) ⟨rfl, rfl⟩ (by decide) ⟨Nat.le_refl _, Nat.le_refl _⟩ rfl rfl (Nat.le_of_ble_eq_true rfl) (dk dX6_makeSound 18 rfl) rfl (fun E36 hp36 => ?_)
    obtain ⟨wv_36, hK73_36, hK74_36, hBhs_36, hq_36, hF36⟩ := hp36
    have hhc := hist_push hhc ⟨_, _, _, hcn⟩ hq_36 hnh
    have htg := htg.p (nh := nh)
    have hb1 := hst.fr (fun j h1 h2 => hF36 j (by omega))
    have hstP := hb1
    refine g_aload_n F (q := 40) (dk dX6_makeSound 19 rfl) rfl rfl 1 rfl ?_
    have hc2 := (hF36 0 (by omega)).trans h0
    refine g_getf F (q := 43) hc2 rfl inX6 (by omega) (j := 0) (by decide) tq_240 rfl rfl (dk dX6_makeSound 20 rfl) rfl ?_
    refine g_aload_n F (q := 44) (dk dX6_makeSound 21 rfl) rfl rfl 2 rfl ?_
    refine g_iload_n F (q := 45) (dk dX6_makeSound 22 rfl) rfl rfl 3 rfl ?_
    refine g_iload_n F (q := 46) (dk dX6_makeSound 23 rfl) rfl rfl 4 rfl ?_
    refine g_iload F (q := 48) (dk dX6_makeSound 24 rfl) rfl 5 rfl ?_
    have hc3 := (hF36 1 (by omega)).trans h1
    have hc4 : E36 2 = .inl (cA 0, 10, .inl (v 1)) := hb1.a 1 (by omega)
    have hc5 : E36 3 = .inl (cA 0, 10, .inl (v 2)) := hb1.a 2 (by omega)
    have hc6 : E36 4 = .inl (cA 0, 10, .inl (v 3)) := hb1.a 3 (by omega)
    have hc7 : E36 5 = .inl (cA 2, 10, .inl (v 4)) := hb1.z 4 (by omega)
    have hc8 := (hF36 7 (by omega)).trans h7
    have hc9 : E36 8 = .inl (cA 0, 10, .inl (v 7)) := hb1.a 7 (by omega)
    have hc10 : E36 9 = .inl (cA 0, 10, .inl (v 8)) := hb1.a 8 (by omega)
    have hc11 : E36 10 = .inl (cA 0, 10, .inl (v 9)) := hb1.a 9 (by omega)
    have hc12 : E36 11 = .inl (cA 5, 10, .inr (.inr (.inr (.inr (fun i => some (ad (12 + i))))))) := hb1.rt
    have hc13 : E36 ((12 + nt)) = .inl (cA 0, 10, .inl (v (11 + nt))) := (hb1.row 11 nt (by decide) (by omega))
    refine g_callVI F (q := 51) (av := [.ref (ad 7), .int p, .int t, .int c]) (st := []) (c_X5_addSound_a (p := p) (t := t) (c := c) hc3 hc4 hc5 hc6 hc7 hc8 hc9 hc10 hc11 hc12 hc13 (by first | assumption | decide | omega) (by first | assumption | decide | omega)) kv_X5_addSound tq_559 hc3 rfl (by omega) ⟨rfl, rfl⟩ (by decide) ⟨Nat.le_refl _, Nat.le_refl _⟩ rfl rfl (Nat.le_of_ble_eq_true rfl) (dk dX6_makeSound 25 rfl) rfl (fun r48 E48 hp48 => ?_)
    obtain ⟨w2_48, rfl, hK1_48, hK7_48, hK8_48, hK9_48, hK10_48, hK_12___nt__48, hw_48, hF48⟩ := hp48
    have hs : sAct r ne 0 nt p t c = (hcnt r ne p c 10, some (mkR r ne 0 nt p t c)) := sAct_s (by omega) c22
    have hb14 := hmk.fr (fun j h1 h2 => hF36 j (by omega))
    have hb15 := hb14.fr (fun j h1 h2 => hF48 j (by omega))
    have hb16 := hsr.fr (fun j h1 h2 => hF36 j (by omega))
    have hb17 := hb16.fr (fun j h1 h2 => hF48 j (by omega))
    have hsv : StA cA ad E48 1 (sndV v 6 nt (upd (v 7) nt p) (upd (v 8) nt t) (upd (v 9) nt (r 3)) w2_48 (nI (nt + 1)) (oV (nI ne) (r 3) (r 4) t)) := hstP.snd (Or.inl rfl) hm10 hK1_48 hK7_48 hK8_48 hK9_48 hK10_48 hK_12___nt__48 (fun i hi => hF48 i (by omega))
    have hcv : Can (sndV v 6 nt (upd (v 7) nt p) (upd (v 8) nt t) (upd (v 9) nt (r 3)) w2_48 (nI (nt + 1)) (oV (nI ne) (r 3) (r 4) t)) (mkR r ne 0 nt p t c) ne (nt + 1) nk := hcn.snd0 hm10 hrf.1 hrf.2.1 (fun e he => hw_48 e he)
    have hc18 := (hF48 0 (by omega)).trans hc2
    have hb19 := hsn.fr (fun j h1 h2 => hF36 j (by omega))
    have hb20 := hb19.fr (fun j h1 h2 => hF48 j (by omega))
    have hc21 := (hF48 73 (by omega)).trans hK73_36
    have hc22 := (hF48 74 (by omega)).trans hK74_36
    have hb23 : ∀ i, i < 4 → StA cA ad E48 ((pRot nh tg) i) ((va_up (pRot nh vh) (pAt nh) wv_36) i) := (fun i hi => (hBhs_36 i hi).fr (fun j h1 h2 => hF48 j (by have := (htg i hi).1; omega)))
    have hc24 := (hF36 219 (by omega)).trans h219
    have hc25 := (hF48 219 (by omega)).trans hc24
    have hc26 := (hF36 220 (by omega)).trans h220
    have hc27 := (hF48 220 (by omega)).trans hc26
    have hc28 := (hF36 221 (by omega)).trans h221
    have hc29 := (hF48 221 (by omega)).trans hc28
    have hc30 := (hF36 222 (by omega)).trans h222
    have hc31 := (hF48 222 (by omega)).trans hc30
    have hc32 := (hF36 223 (by omega)).trans h223
    have hc33 := (hF48 223 (by omega)).trans hc32
    have hc34 := (hF36 224 (by omega)).trans h224
    have hc35 := (hF48 224 (by omega)).trans hc34
    refine hret (hcC ne (v 1) (v 4) p c 10) E48 _ _ (dk dX6_makeSound 26 rfl) (nint _) ?_
    exact ⟨ne, (nt + 1), nk, (by rw [hs]; exact (hc_eq hcn hrf.1 hrf.2.1 10).symm), (by rw [hs]; exact ⟨_, _, _, _, _, _, _, _, _, _, _, hc18, hsv, hb20, hc21, hc22, hb23, hc25, hc27, hc29, hc31, hc33, hc35, htg, (nup_le hnh), hln, hcv, hhc, hss⟩), hb15, hb17, (fun j hj => ((hF48 j (by omega)).trans (hF36 j (by omega))))⟩
  · refine g_iload F (q := 27) (dk dX6_makeSound 12 rfl) rfl 0 rfl ?_
    have hs : sAct r ne 0 nt p t c = (rfS p t c (r 5) nt, none) := sAct_n (by omega) c22
    refine hret (rfS p t c (r 5) nt) E _ _ (dk dX6_makeSound 13 rfl) (nint _) ?_
    exact ⟨ne, nt, nk, (by rw [hs]), (by rw [hs]; exact hco), hmk, hsr, (fun j _ => rfl)⟩
theorem kv_X6_makeSound : KV yX6_makeSound "ThumpEars" cX6_makeSound 6 (some .int) 4 := ⟨tq_553, tq_6, tq_9, tq_554, by decide +kernel⟩
abbrev rm_X6_thump : Room := { frames := 5, cells := 0, slots := 0, locals := 129 }
set_option maxHeartbeats 4000000 in
set_option maxRecDepth 100000 in
theorem c_X6_thump {l : Launch} {D : va_G} {cA : Nat → ClassId} {ad : Nat → Nat} {E : Nat → va_E} {r : Nat → Int32} {ne nt nk nh : Nat} {H : Nat → Nat → Int32} {s1 : Int32} {asd : Nat → Int32} {ln : Nat} {txt : Nat → Int32} {p t c : Int32}  (hco : Core cA ad E r ne nt nk nh H s1 asd ln txt) (hmk : MkP cA ad E) (hsr : SrP cA ad E)  : CtI l D cA yX6_thump cX6_thump 4 .int rm_X6_thump 235 ad E [.ref (ad 0), .int p, .int t, .int c] (fun x E' => ∃ (ne2 : Nat) (nt2 : Nat) (nk2 : Nat), (sAct r ne 0 nt p t c).1 = x ∧ (Core cA ad E' (nR (sAct r ne 0 nt p t c).2 r) ne2 nt2 nk2 (nN (sAct r ne 0 nt p t c).2 nh) (nHs (sAct r ne 0 nt p t c).2 nh H r) s1 asd ln txt) ∧ (MkP cA ad E') ∧ (SrP cA ad E') ∧ ∀ j, (233 ≤ j) → E' j = E j) := by
  refine CtI.of (by decide +kernel) (Nat.le_of_ble_eq_true rfl) (fun X F hret => ?_)
  have F : Fr "ThumpEars" cX6_thump 4 D cA X := F
  refine (show GG rm_X6_thump 4 l D X 0 0 235 ad E 0 [(0, .ref (ad 0)), (1, .int p), (2, .int t), (3, .int c)] [] from ?_)
  have hco2 := hco
  obtain ⟨v, vs, tg, vh, od, po, nu, ar, pla, ti, re, h0, hst, hsn, h73, h74, hhs, h219, h220, h221, h222, h223, h224, htg, hnh, hln, hcn, hhc, hss⟩ := hco2
  have hmk2 := hmk
  obtain ⟨m0, th, rd, er, h225, hth, hrd, her⟩ := hmk2
  have hsr2 := hsr
  obtain ⟨s0, px, pp, ls, gr, ea, pl, rt, h229, hsea, hspl, hsrt⟩ := hsr2
  have hne := hcn.i.e0
  have hnt := hcn.i.e1
  have hnk := hcn.i.e2
  have h1 : E 1 = .inr (5, [.ref (ad 2), .ref (ad 3), .ref (ad 4), .ref (ad 5), .ref (ad 6), .ref (ad 7), .ref (ad 22), .int (nI ne), .int (r 3), .int (r 4), .int (r 5)]) := by have q := hst.o; rw [hcn.n0, hcn.r3, hcn.r4, hcn.r5] at q; exact q
  have h7 : E 7 = .inr (3, [.ref (ad 8), .ref (ad 9), .ref (ad 10), .ref (ad 11), .int (nI nt)]) := by have q := hst.t; rw [hcn.n1] at q; exact q
  have h22 : E 22 = .inr (3, [.ref (ad 23), .ref (ad 24), .ref (ad 25), .ref (ad 26), .int (nI nk)]) := by have q := hst.k; rw [hcn.n2] at q; exact q
  refine g_aload_n F (q := 1) (dk dX6_thump 0 rfl) rfl rfl 0 rfl ?_
  refine g_aload_n F (q := 2) (dk dX6_thump 1 rfl) rfl rfl 0 rfl ?_
  refine g_getf F (q := 5) h0 rfl inX6 (by omega) (j := 0) (by decide) tq_240 rfl rfl (dk dX6_thump 2 rfl) rfl ?_
  refine g_getf F (q := 8) h1 rfl inX5 (by omega) (j := 5) (by decide) tq_88 rfl rfl (dk dX6_thump 3 rfl) rfl ?_
  refine g_iload_n F (q := 9) (dk dX6_thump 4 rfl) rfl rfl 1 rfl ?_
  refine g_iload_n F (q := 10) (dk dX6_thump 5 rfl) rfl rfl 2 rfl ?_
  refine g_iload_n F (q := 11) (dk dX6_thump 6 rfl) rfl rfl 3 rfl ?_
  refine g_callVI F (q := 14) (av := [.ref (ad 7), .int p, .int t, .int c]) (st := []) (c_X6_makeSound_a (p := p) (t := t) (c := c) hco hmk hsr) kv_X6_makeSound tq_551 h0 rfl (by omega) ⟨rfl, rfl⟩ (by decide) ⟨Nat.le_refl _, Nat.le_refl _⟩ rfl rfl (Nat.le_of_ble_eq_true rfl) (dk dX6_thump 7 rfl) rfl (fun r11 E11 hp11 => ?_)
  obtain ⟨ne2_11, nt2_11, nk2_11, rfl, hBcore_11, hBmk_11, hBsr_11, hF11⟩ := hp11
  refine hret (sAct r ne 0 nt p t c).1 E11 _ _ (dk dX6_thump 8 rfl) (nint _) ?_
  exact ⟨_, _, _, rfl, hBcore_11, hBmk_11, hBsr_11, (fun j hj => (hF11 j (by omega)))⟩
theorem kv_X6_thump : KV yX6_thump "ThumpEars" cX6_thump 4 (some .int) 3 := ⟨tq_572, tq_573, tq_9, tq_574, by decide +kernel⟩
abbrev rm_X6_makeSound_b : Room := { frames := 4, cells := 0, slots := 0, locals := 104 }
set_option maxHeartbeats 4000000 in
set_option maxRecDepth 100000 in
theorem c_X6_makeSound_b {l : Launch} {D : va_G} {cA : Nat → ClassId} {ad : Nat → Nat} {E : Nat → va_E} {r : Nat → Int32} {ne nt nk nh : Nat} {H : Nat → Nat → Int32} {s1 : Int32} {asd : Nat → Int32} {ln : Nat} {txt : Nat → Int32} {p t c : Int32}  (hco : Core cA ad E r ne nt nk nh H s1 asd ln txt) (hmk : MkP cA ad E) (hsr : SrP cA ad E)  : CtI l D cA yX6_makeSound cX6_makeSound 6 .int rm_X6_makeSound_b 235 ad E [.ref (ad 0), .ref (ad 22), .int p, .int t, .int c] (fun x E' => ∃ (ne2 : Nat) (nt2 : Nat) (nk2 : Nat), (sAct r ne 1 nk p t c).1 = x ∧ (Core cA ad E' (nR (sAct r ne 1 nk p t c).2 r) ne2 nt2 nk2 (nN (sAct r ne 1 nk p t c).2 nh) (nHs (sAct r ne 1 nk p t c).2 nh H r) s1 asd ln txt) ∧ (MkP cA ad E') ∧ (SrP cA ad E') ∧ ∀ j, (233 ≤ j) → E' j = E j) := by
  refine CtI.of (by decide +kernel) (Nat.le_of_ble_eq_true rfl) (fun X F hret => ?_)
  have F : Fr "ThumpEars" cX6_makeSound 6 D cA X := F
  refine (show GG rm_X6_makeSound_b 6 l D X 0 0 235 ad E 0 [(0, .ref (ad 0)), (1, .ref (ad 22)), (2, .int p), (3, .int t), (4, .int c)] [] from ?_)
  have hco2 := hco
  obtain ⟨v, vs, tg, vh, od, po, nu, ar, pla, ti, re, h0, hst, hsn, h73, h74, hhs, h219, h220, h221, h222, h223, h224, htg, hnh, hln, hcn, hhc, hss⟩ := hco2
  have hmk2 := hmk
  obtain ⟨m0, th, rd, er, h225, hth, hrd, her⟩ := hmk2
  have hsr2 := hsr
  obtain ⟨s0, px, pp, ls, gr, ea, pl, rt, h229, hsea, hspl, hsrt⟩ := hsr2
  have hne := hcn.i.e0
  have hnt := hcn.i.e1
  have hnk := hcn.i.e2
  have h1 : E 1 = .inr (5, [.ref (ad 2), .ref (ad 3), .ref (ad 4), .ref (ad 5), .ref (ad 6), .ref (ad 7), .ref (ad 22), .int (nI ne), .int (r 3), .int (r 4), .int (r 5)]) := by have q := hst.o; rw [hcn.n0, hcn.r3, hcn.r4, hcn.r5] at q; exact q
  have h7 : E 7 = .inr (3, [.ref (ad 8), .ref (ad 9), .ref (ad 10), .ref (ad 11), .int (nI nt)]) := by have q := hst.t; rw [hcn.n1] at q; exact q
  have h22 : E 22 = .inr (3, [.ref (ad 23), .ref (ad 24), .ref (ad 25), .ref (ad 26), .int (nI nk)]) := by have q := hst.k; rw [hcn.n2] at q; exact q
  refine g_iload_n F (q := 1) (dk dX6_makeSound 0 rfl) rfl rfl 2 rfl ?_
  refine g_iload_n F (q := 2) (dk dX6_makeSound 1 rfl) rfl rfl 3 rfl ?_
  refine g_iload F (q := 4) (dk dX6_makeSound 2 rfl) rfl 4 rfl ?_
  refine g_aload_n F (q := 5) (dk dX6_makeSound 3 rfl) rfl rfl 0 rfl ?_
  refine g_getf F (q := 8) h0 rfl inX6 (by omega) (j := 0) (by decide) tq_240 rfl rfl (dk dX6_makeSound 4 rfl) rfl ?_
  refine g_getf F (q := 11) h1 rfl inX5 (by omega) (j := 10) (by decide) tq_100 rfl rfl (dk dX6_makeSound 5 rfl) rfl ?_
  refine g_aload_n F (q := 12) (dk dX6_makeSound 6 rfl) rfl rfl 1 rfl ?_
  refine g_getf F (q := 15) h22 rfl inX3 (by omega) (j := 4) (by decide) tq_60 rfl rfl (dk dX6_makeSound 7 rfl) rfl ?_
  refine g_callSI F (q := 18) (av := [.int p, .int t, .int c, .int (r 5), .int (nI nk)]) (st := []) (c_X6_refusal (p := p) (t := t) (c := c) (lt := (r 5)) (m := nk) (by first | assumption | decide | omega)) ks_X6_refusal tq_555 ⟨rfl, rfl⟩ (by decide) ⟨Nat.le_refl _, Nat.le_refl _⟩ rfl rfl (Nat.le_of_ble_eq_true rfl) (dk dX6_makeSound 8 rfl) rfl (fun r15 E15 hp15 => ?_)
  obtain ⟨rfl, rfl⟩ := hp15
  refine g_istore F (q := 20) (lv' := [(5, .int (rfS p t c (r 5) nk)), (0, .ref (ad 0)), (1, .ref (ad 22)), (2, .int p), (3, .int t), (4, .int c)]) (dk dX6_makeSound 9 rfl) rfl (Nat.le_of_ble_eq_true rfl) rfl ?_
  refine g_iload F (q := 22) (dk dX6_makeSound 10 rfl) rfl 0 rfl ?_
  refine g_if_eq F (q := 25) (tgt := 28) (dk dX6_makeSound 11 rfl) (by decide) rfl (fun c22 => ?_) (fun c22 => ?_)
  · have hrf := rfS_0 c22
    have hm10 := hrf.2.2
    refine g_aload_n F (q := 29) (dk dX6_makeSound 14 rfl) rfl rfl 1 rfl ?_
    refine g_getf F (q := 32) h0 rfl inX6 (by omega) (j := 3) (by decide) tq_243 rfl rfl (dk dX6_makeSound 15 rfl) rfl ?_
    refine g_aload_n F (q := 33) (dk dX6_makeSound 16 rfl) rfl rfl 1 rfl ?_
    refine g_getf F (q := 36) h0 rfl inX6 (by omega) (j := 0) (by decide) tq_240 rfl rfl (dk dX6_makeSound 17 rfl) rfl ?_
    refine g_callVV F (q := 39) (av := [.ref (ad 1)]) (st := []) (c_X0_push h73 h74 hhs hst (by first | assumption | decide | omega) (by first | assumption | decide | omega) hcn.bz4 hcn.bz5) kv_X0_push tq_269 h73 rfl (by omega) ⟨rfl, rfl⟩ (by decide) ⟨Nat.le_refl _, Nat.le_refl _⟩ rfl rfl (Nat.le_of_ble_eq_true rfl) (dk dX6_makeSound 18 rfl) rfl (fun E36 hp36 => ?_)
    obtain ⟨wv_36, hK73_36, hK74_36, hBhs_36, hq_36, hF36⟩ := hp36
    have hhc := hist_push hhc ⟨_, _, _, hcn⟩ hq_36 hnh
    have htg := htg.p (nh := nh)
    have hb1 := hst.fr (fun j h1 h2 => hF36 j (by omega))
    have hstP := hb1
    refine g_aload_n F (q := 40) (dk dX6_makeSound 19 rfl) rfl rfl 1 rfl ?_
    have hc2 := (hF36 0 (by omega)).trans h0
    refine g_getf F (q := 43) hc2 rfl inX6 (by omega) (j := 0) (by decide) tq_240 rfl rfl (dk dX6_makeSound 20 rfl) rfl ?_
    refine g_aload_n F (q := 44) (dk dX6_makeSound 21 rfl) rfl rfl 2 rfl ?_
    refine g_iload_n F (q := 45) (dk dX6_makeSound 22 rfl) rfl rfl 3 rfl ?_
    refine g_iload_n F (q := 46) (dk dX6_makeSound 23 rfl) rfl rfl 4 rfl ?_
    refine g_iload F (q := 48) (dk dX6_makeSound 24 rfl) rfl 5 rfl ?_
    have hc3 := (hF36 1 (by omega)).trans h1
    have hc4 : E36 2 = .inl (cA 0, 10, .inl (v 1)) := hb1.a 1 (by omega)
    have hc5 : E36 3 = .inl (cA 0, 10, .inl (v 2)) := hb1.a 2 (by omega)
    have hc6 : E36 4 = .inl (cA 0, 10, .inl (v 3)) := hb1.a 3 (by omega)
    have hc7 : E36 5 = .inl (cA 2, 10, .inl (v 4)) := hb1.z 4 (by omega)
    have hc8 := (hF36 22 (by omega)).trans h22
    have hc9 : E36 23 = .inl (cA 0, 10, .inl (v 22)) := hb1.a 22 (by omega)
    have hc10 : E36 24 = .inl (cA 0, 10, .inl (v 23)) := hb1.a 23 (by omega)
    have hc11 : E36 25 = .inl (cA 0, 10, .inl (v 24)) := hb1.a 24 (by omega)
    have hc12 : E36 26 = .inl (cA 5, 10, .inr (.inr (.inr (.inr (fun i => some (ad (27 + i))))))) := hb1.rk
    have hc13 : E36 ((27 + nk)) = .inl (cA 0, 10, .inl (v (26 + nk))) := (hb1.row 26 nk (by decide) (by omega))
    refine g_callVI F (q := 51) (av := [.ref (ad 22), .int p, .int t, .int c]) (st := []) (c_X5_addSound_b (p := p) (t := t) (c := c) hc3 hc4 hc5 hc6 hc7 hc8 hc9 hc10 hc11 hc12 hc13 (by first | assumption | decide | omega) (by first | assumption | decide | omega)) kv_X5_addSound tq_559 hc3 rfl (by omega) ⟨rfl, rfl⟩ (by decide) ⟨Nat.le_refl _, Nat.le_refl _⟩ rfl rfl (Nat.le_of_ble_eq_true rfl) (dk dX6_makeSound 25 rfl) rfl (fun r48 E48 hp48 => ?_)
    obtain ⟨w2_48, rfl, hK1_48, hK22_48, hK23_48, hK24_48, hK25_48, hK_27___nk__48, hw_48, hF48⟩ := hp48
    have hs : sAct r ne 1 nk p t c = (hcnt r ne p c 10, some (mkR r ne 1 nk p t c)) := sAct_s (by omega) c22
    have hb14 := hmk.fr (fun j h1 h2 => hF36 j (by omega))
    have hb15 := hb14.fr (fun j h1 h2 => hF48 j (by omega))
    have hb16 := hsr.fr (fun j h1 h2 => hF36 j (by omega))
    have hb17 := hb16.fr (fun j h1 h2 => hF48 j (by omega))
    have hsv : StA cA ad E48 1 (sndV v 21 nk (upd (v 22) nk p) (upd (v 23) nk t) (upd (v 24) nk (r 3)) w2_48 (nI (nk + 1)) (oV (nI ne) (r 3) (r 4) t)) := hstP.snd (Or.inr rfl) hm10 hK1_48 hK22_48 hK23_48 hK24_48 hK25_48 hK_27___nk__48 (fun i hi => hF48 i (by omega))
    have hcv : Can (sndV v 21 nk (upd (v 22) nk p) (upd (v 23) nk t) (upd (v 24) nk (r 3)) w2_48 (nI (nk + 1)) (oV (nI ne) (r 3) (r 4) t)) (mkR r ne 1 nk p t c) ne nt (nk + 1) := hcn.snd1 hm10 hrf.1 hrf.2.1 (fun e he => hw_48 e he)
    have hc18 := (hF48 0 (by omega)).trans hc2
    have hb19 := hsn.fr (fun j h1 h2 => hF36 j (by omega))
    have hb20 := hb19.fr (fun j h1 h2 => hF48 j (by omega))
    have hc21 := (hF48 73 (by omega)).trans hK73_36
    have hc22 := (hF48 74 (by omega)).trans hK74_36
    have hb23 : ∀ i, i < 4 → StA cA ad E48 ((pRot nh tg) i) ((va_up (pRot nh vh) (pAt nh) wv_36) i) := (fun i hi => (hBhs_36 i hi).fr (fun j h1 h2 => hF48 j (by have := (htg i hi).1; omega)))
    have hc24 := (hF36 219 (by omega)).trans h219
    have hc25 := (hF48 219 (by omega)).trans hc24
    have hc26 := (hF36 220 (by omega)).trans h220
    have hc27 := (hF48 220 (by omega)).trans hc26
    have hc28 := (hF36 221 (by omega)).trans h221
    have hc29 := (hF48 221 (by omega)).trans hc28
    have hc30 := (hF36 222 (by omega)).trans h222
    have hc31 := (hF48 222 (by omega)).trans hc30
    have hc32 := (hF36 223 (by omega)).trans h223
    have hc33 := (hF48 223 (by omega)).trans hc32
    have hc34 := (hF36 224 (by omega)).trans h224
    have hc35 := (hF48 224 (by omega)).trans hc34
    refine hret (hcC ne (v 1) (v 4) p c 10) E48 _ _ (dk dX6_makeSound 26 rfl) (nint _) ?_
    exact ⟨ne, nt, (nk + 1), (by rw [hs]; exact (hc_eq hcn hrf.1 hrf.2.1 10).symm), (by rw [hs]; exact ⟨_, _, _, _, _, _, _, _, _, _, _, hc18, hsv, hb20, hc21, hc22, hb23, hc25, hc27, hc29, hc31, hc33, hc35, htg, (nup_le hnh), hln, hcv, hhc, hss⟩), hb15, hb17, (fun j hj => ((hF48 j (by omega)).trans (hF36 j (by omega))))⟩
  · refine g_iload F (q := 27) (dk dX6_makeSound 12 rfl) rfl 0 rfl ?_
    have hs : sAct r ne 1 nk p t c = (rfS p t c (r 5) nk, none) := sAct_n (by omega) c22
    refine hret (rfS p t c (r 5) nk) E _ _ (dk dX6_makeSound 13 rfl) (nint _) ?_
    exact ⟨ne, nt, nk, (by rw [hs]), (by rw [hs]; exact hco), hmk, hsr, (fun j _ => rfl)⟩
abbrev rm_X6_knock : Room := { frames := 5, cells := 0, slots := 0, locals := 129 }
set_option maxHeartbeats 4000000 in
set_option maxRecDepth 100000 in
theorem c_X6_knock {l : Launch} {D : va_G} {cA : Nat → ClassId} {ad : Nat → Nat} {E : Nat → va_E} {r : Nat → Int32} {ne nt nk nh : Nat} {H : Nat → Nat → Int32} {s1 : Int32} {asd : Nat → Int32} {ln : Nat} {txt : Nat → Int32} {p t c : Int32}  (hco : Core cA ad E r ne nt nk nh H s1 asd ln txt) (hmk : MkP cA ad E) (hsr : SrP cA ad E)  : CtI l D cA yX6_knock cX6_knock 4 .int rm_X6_knock 235 ad E [.ref (ad 0), .int p, .int t, .int c] (fun x E' => ∃ (ne2 : Nat) (nt2 : Nat) (nk2 : Nat), (sAct r ne 1 nk p t c).1 = x ∧ (Core cA ad E' (nR (sAct r ne 1 nk p t c).2 r) ne2 nt2 nk2 (nN (sAct r ne 1 nk p t c).2 nh) (nHs (sAct r ne 1 nk p t c).2 nh H r) s1 asd ln txt) ∧ (MkP cA ad E') ∧ (SrP cA ad E') ∧ ∀ j, (233 ≤ j) → E' j = E j) := by
  refine CtI.of (by decide +kernel) (Nat.le_of_ble_eq_true rfl) (fun X F hret => ?_)
  have F : Fr "ThumpEars" cX6_knock 4 D cA X := F
  refine (show GG rm_X6_knock 4 l D X 0 0 235 ad E 0 [(0, .ref (ad 0)), (1, .int p), (2, .int t), (3, .int c)] [] from ?_)
  have hco2 := hco
  obtain ⟨v, vs, tg, vh, od, po, nu, ar, pla, ti, re, h0, hst, hsn, h73, h74, hhs, h219, h220, h221, h222, h223, h224, htg, hnh, hln, hcn, hhc, hss⟩ := hco2
  have hmk2 := hmk
  obtain ⟨m0, th, rd, er, h225, hth, hrd, her⟩ := hmk2
  have hsr2 := hsr
  obtain ⟨s0, px, pp, ls, gr, ea, pl, rt, h229, hsea, hspl, hsrt⟩ := hsr2
  have hne := hcn.i.e0
  have hnt := hcn.i.e1
  have hnk := hcn.i.e2
  have h1 : E 1 = .inr (5, [.ref (ad 2), .ref (ad 3), .ref (ad 4), .ref (ad 5), .ref (ad 6), .ref (ad 7), .ref (ad 22), .int (nI ne), .int (r 3), .int (r 4), .int (r 5)]) := by have q := hst.o; rw [hcn.n0, hcn.r3, hcn.r4, hcn.r5] at q; exact q
  have h7 : E 7 = .inr (3, [.ref (ad 8), .ref (ad 9), .ref (ad 10), .ref (ad 11), .int (nI nt)]) := by have q := hst.t; rw [hcn.n1] at q; exact q
  have h22 : E 22 = .inr (3, [.ref (ad 23), .ref (ad 24), .ref (ad 25), .ref (ad 26), .int (nI nk)]) := by have q := hst.k; rw [hcn.n2] at q; exact q
  refine g_aload_n F (q := 1) (dk dX6_knock 0 rfl) rfl rfl 0 rfl ?_
  refine g_aload_n F (q := 2) (dk dX6_knock 1 rfl) rfl rfl 0 rfl ?_
  refine g_getf F (q := 5) h0 rfl inX6 (by omega) (j := 0) (by decide) tq_240 rfl rfl (dk dX6_knock 2 rfl) rfl ?_
  refine g_getf F (q := 8) h1 rfl inX5 (by omega) (j := 6) (by decide) tq_91 rfl rfl (dk dX6_knock 3 rfl) rfl ?_
  refine g_iload_n F (q := 9) (dk dX6_knock 4 rfl) rfl rfl 1 rfl ?_
  refine g_iload_n F (q := 10) (dk dX6_knock 5 rfl) rfl rfl 2 rfl ?_
  refine g_iload_n F (q := 11) (dk dX6_knock 6 rfl) rfl rfl 3 rfl ?_
  refine g_callVI F (q := 14) (av := [.ref (ad 22), .int p, .int t, .int c]) (st := []) (c_X6_makeSound_b (p := p) (t := t) (c := c) hco hmk hsr) kv_X6_makeSound tq_551 h0 rfl (by omega) ⟨rfl, rfl⟩ (by decide) ⟨Nat.le_refl _, Nat.le_refl _⟩ rfl rfl (Nat.le_of_ble_eq_true rfl) (dk dX6_knock 7 rfl) rfl (fun r11 E11 hp11 => ?_)
  obtain ⟨ne2_11, nt2_11, nk2_11, rfl, hBcore_11, hBmk_11, hBsr_11, hF11⟩ := hp11
  refine hret (sAct r ne 1 nk p t c).1 E11 _ _ (dk dX6_knock 8 rfl) (nint _) ?_
  exact ⟨_, _, _, rfl, hBcore_11, hBmk_11, hBsr_11, (fun j hj => (hF11 j (by omega)))⟩
theorem kv_X6_knock : KV yX6_knock "ThumpEars" cX6_knock 4 (some .int) 3 := ⟨tq_548, tq_549, tq_9, tq_550, by decide +kernel⟩
abbrev rm_X6_type : Room := { frames := 0, cells := 0, slots := 0, locals := 0 }
set_option maxHeartbeats 4000000 in
set_option maxRecDepth 100000 in
theorem c_X6_type {l : Launch} {D : va_G} {cA : Nat → ClassId} {ad : Nat → Nat} {E : Nat → va_E} {r : Nat → Int32} {ne nt nk nh : Nat} {H : Nat → Nat → Int32} {s1 : Int32} {asd : Nat → Int32} {ln : Nat} {txt : Nat → Int32} {ch : Int32}  (hco : Core cA ad E r ne nt nk nh H s1 asd ln txt) (hmk : MkP cA ad E) (hsr : SrP cA ad E) (hch : vp_nar .char ch = ch) : CtI l D cA yX6_type cX6_type 2 .int rm_X6_type 235 ad E [.ref (ad 0), .int ch] (fun x E' => (if ln = 60 then (-3 : Int32) else nI (ln + 1)) = x ∧ (Core cA ad E' r ne nt nk nh H s1 asd (if ln = 60 then ln else ln + 1) (if ln = 60 then txt else upd txt ln ch)) ∧ (MkP cA ad E') ∧ (SrP cA ad E') ∧ ∀ j, (233 ≤ j) → E' j = E j) := by
  refine CtI.of (by decide +kernel) (Nat.le_of_ble_eq_true rfl) (fun X F hret => ?_)
  have F : Fr "ThumpEars" cX6_type 2 D cA X := F
  refine (show GG rm_X6_type 2 l D X 0 0 235 ad E 0 [(0, .ref (ad 0)), (1, .int ch)] [] from ?_)
  have hco2 := hco
  obtain ⟨v, vs, tg, vh, od, po, nu, ar, pla, ti, re, h0, hst, hsn, h73, h74, hhs, h219, h220, h221, h222, h223, h224, htg, hnh, hln, hcn, hhc, hss⟩ := hco2
  have hmk2 := hmk
  obtain ⟨m0, th, rd, er, h225, hth, hrd, her⟩ := hmk2
  have hsr2 := hsr
  obtain ⟨s0, px, pp, ls, gr, ea, pl, rt, h229, hsea, hspl, hsrt⟩ := hsr2
  have hne := hcn.i.e0
  have hnt := hcn.i.e1
  have hnk := hcn.i.e2
  have h1 : E 1 = .inr (5, [.ref (ad 2), .ref (ad 3), .ref (ad 4), .ref (ad 5), .ref (ad 6), .ref (ad 7), .ref (ad 22), .int (nI ne), .int (r 3), .int (r 4), .int (r 5)]) := by have q := hst.o; rw [hcn.n0, hcn.r3, hcn.r4, hcn.r5] at q; exact q
  have h7 : E 7 = .inr (3, [.ref (ad 8), .ref (ad 9), .ref (ad 10), .ref (ad 11), .int (nI nt)]) := by have q := hst.t; rw [hcn.n1] at q; exact q
  have h22 : E 22 = .inr (3, [.ref (ad 23), .ref (ad 24), .ref (ad 25), .ref (ad 26), .int (nI nk)]) := by have q := hst.k; rw [hcn.n2] at q; exact q
  refine g_aload_n F (q := 1) (dk dX6_type 0 rfl) rfl rfl 0 rfl ?_
  refine g_getf F (q := 4) h0 rfl inX6 (by omega) (j := 4) (by decide) tq_244 rfl rfl (dk dX6_type 1 rfl) rfl ?_
  refine g_getf F (q := 7) h219 rfl inX2 (by omega) (j := 1) (by decide) tq_150 rfl rfl (dk dX6_type 2 rfl) rfl ?_
  refine g_bipush F (q := 9) (v := 60) (dk dX6_type 3 rfl) rfl (by decide) ?_
  refine g_icmp_lt F (q := 12) (tgt := 15) (dk dX6_type 4 rfl) (by decide) rfl (fun c9 => ?_) (fun c9 => ?_)
  · have nc9 : ln < 60 := (nI_ltI (a := ln) (b := 60) (by omega) (by omega)).mp c9
    refine g_aload_n F (q := 16) (dk dX6_type 7 rfl) rfl rfl 0 rfl ?_
    refine g_getf F (q := 19) h0 rfl inX6 (by omega) (j := 4) (by decide) tq_244 rfl rfl (dk dX6_type 8 rfl) rfl ?_
    refine g_getf F (q := 22) h219 rfl inX2 (by omega) (j := 0) (by decide) tq_148 rfl rfl (dk dX6_type 9 rfl) rfl ?_
    refine g_aload_n F (q := 23) (dk dX6_type 10 rfl) rfl rfl 0 rfl ?_
    refine g_getf F (q := 26) h0 rfl inX6 (by omega) (j := 4) (by decide) tq_244 rfl rfl (dk dX6_type 11 rfl) rfl ?_
    refine g_getf F (q := 29) h219 rfl inX2 (by omega) (j := 1) (by decide) tq_150 rfl rfl (dk dX6_type 12 rfl) rfl ?_
    refine g_iload_n F (q := 30) (dk dX6_type 13 rfl) rfl rfl 1 rfl ?_
    refine g_cast F (q := 31) ln h220 (by omega) rfl (by omega) (by decide) hch (dk dX6_type 14 rfl) rfl (fun E30 hE30 hO30 => ?_)
    refine g_aload_n F (q := 32) (dk dX6_type 15 rfl) rfl rfl 0 rfl ?_
    have hc1 := (hO30 0 (by omega)).trans h0
    refine g_getf F (q := 35) hc1 rfl inX6 (by omega) (j := 4) (by decide) tq_244 rfl rfl (dk dX6_type 16 rfl) rfl ?_
    refine g_dup F (q := 36) (dk dX6_type 17 rfl) rfl rfl ?_
    have hc2 := (hO30 219 (by omega)).trans h219
    refine g_getf F (q := 39) hc2 rfl inX2 (by omega) (j := 1) (by decide) tq_150 rfl rfl (dk dX6_type 18 rfl) rfl ?_
    refine g_iconst F (q := 40) (v := 1) (dk dX6_type 19 rfl) rfl (by decide) ?_
    refine g_iadd F (q := 41) (dk dX6_type 20 rfl) rfl ?_
    refine g_sti (nA rfl rfl) ?_
    refine g_putf F (q := 44) (ty := .int) hc2 rfl inX2 tyX2 tyX2_ok nmX2 (by omega) (j := 1) (by decide) tq_150 rfl rfl (by decide +kernel) rfl rfl (Nat.le_of_ble_eq_true rfl) (dk dX6_type 21 rfl) rfl (fun E41 hE41 hO41 => ?_)
    have hE41 : E41 219 = .inr (2, [.ref (ad 220), .int (nI ((ln + 1))), .ref (ad 221), .ref (ad 222), .ref (ad 223), .ref (ad 224), .int od, .int po, .int nu]) := hE41
    refine g_aload_n F (q := 45) (dk dX6_type 22 rfl) rfl rfl 0 rfl ?_
    have hc3 := (hO41 0 (by omega)).trans hc1
    refine g_getf F (q := 48) hc3 rfl inX6 (by omega) (j := 4) (by decide) tq_244 rfl rfl (dk dX6_type 23 rfl) rfl ?_
    refine g_getf F (q := 51) hE41 rfl inX2 (by omega) (j := 1) (by decide) tq_150 rfl rfl (dk dX6_type 24 rfl) rfl ?_
    have hb4 := hst.fr (fun j h1 h2 => hO30 j (by omega))
    have hb5 := hb4.fr (fun j h1 h2 => hO41 j (by omega))
    have hb6 := hsn.fr (fun j h1 h2 => hO30 j (by omega))
    have hb7 := hb6.fr (fun j h1 h2 => hO41 j (by omega))
    have hc8 := (hO30 73 (by omega)).trans h73
    have hc9 := (hO41 73 (by omega)).trans hc8
    have hc10 := (hO30 74 (by omega)).trans h74
    have hc11 := (hO41 74 (by omega)).trans hc10
    have hb12 : ∀ i, i < 4 → StA cA ad E30 (tg i) (vh i) := (fun i hi => (hhs i hi).fr (fun j h1 h2 => hO30 j (by have := (htg i hi).1; omega)))
    have hb13 : ∀ i, i < 4 → StA cA ad E41 (tg i) (vh i) := (fun i hi => (hb12 i hi).fr (fun j h1 h2 => hO41 j (by have := (htg i hi).1; omega)))
    have hc14 := (hO41 220 (by omega)).trans hE30
    have hc15 := (hO30 221 (by omega)).trans h221
    have hc16 := (hO41 221 (by omega)).trans hc15
    have hc17 := (hO30 222 (by omega)).trans h222
    have hc18 := (hO41 222 (by omega)).trans hc17
    have hc19 := (hO30 223 (by omega)).trans h223
    have hc20 := (hO41 223 (by omega)).trans hc19
    have hc21 := (hO30 224 (by omega)).trans h224
    have hc22 := (hO41 224 (by omega)).trans hc21
    have hb23 := hmk.fr (fun j h1 h2 => hO30 j (by omega))
    have hb24 := hb23.fr (fun j h1 h2 => hO41 j (by omega))
    have hb25 := hsr.fr (fun j h1 h2 => hO30 j (by omega))
    have hb26 := hb25.fr (fun j h1 h2 => hO41 j (by omega))
    refine hret (nI ((ln + 1))) E41 _ _ (dk dX6_type 25 rfl) (nint _) ?_
    exact ⟨(if_neg (show ¬ ln = 60 by omega)), (by rw [if_neg (show ¬ ln = 60 by omega), if_neg (show ¬ ln = 60 by omega)]; exact ⟨_, _, _, _, _, _, _, _, _, _, _, hc3, hb5, hb7, hc9, hc11, hb13, hE41, hc14, hc16, hc18, hc20, hc22, htg, hnh, (by omega), hcn, hhc, hss⟩), hb24, hb26, (fun j hj => ((hO41 j (by omega)).trans (hO30 j (by omega))))⟩
  · have nc9 : ¬ ln < 60 := fun h => c9 ((nI_ltI (a := ln) (b := 60) (by omega) (by omega)).mpr h)
    refine g_bipush F (q := 14) (v := (-3)) (dk dX6_type 5 rfl) rfl (by decide) ?_
    refine hret (-3) E _ _ (dk dX6_type 6 rfl) (nint _) ?_
    exact ⟨(if_pos (by omega)), (by rw [if_pos (show ln = 60 by omega), if_pos (show ln = 60 by omega)]; exact hco), hmk, hsr, (fun j _ => rfl)⟩
theorem kv_X6_type : KV yX6_type "ThumpEars" cX6_type 2 (some .int) 1 := ⟨tq_611, tq_612, tq_9, tq_613, by decide +kernel⟩
abbrev rm_X6_clearText : Room := { frames := 0, cells := 0, slots := 0, locals := 0 }
set_option maxHeartbeats 4000000 in
set_option maxRecDepth 100000 in
theorem c_X6_clearText {l : Launch} {D : va_G} {cA : Nat → ClassId} {ad : Nat → Nat} {E : Nat → va_E} {r : Nat → Int32} {ne nt nk nh : Nat} {H : Nat → Nat → Int32} {s1 : Int32} {asd : Nat → Int32} {ln : Nat} {txt : Nat → Int32}   (hco : Core cA ad E r ne nt nk nh H s1 asd ln txt) (hmk : MkP cA ad E) (hsr : SrP cA ad E)  : CtI l D cA yX6_clearText cX6_clearText 2 .int rm_X6_clearText 235 ad E [.ref (ad 0)] (fun x E' => (nI ln) = x ∧ (Core cA ad E' r ne nt nk nh H s1 asd 0 txt) ∧ (MkP cA ad E') ∧ (SrP cA ad E') ∧ ∀ j, (233 ≤ j) → E' j = E j) := by
  refine CtI.of (by decide +kernel) (Nat.le_of_ble_eq_true rfl) (fun X F hret => ?_)
  have F : Fr "ThumpEars" cX6_clearText 2 D cA X := F
  refine (show GG rm_X6_clearText 2 l D X 0 0 235 ad E 0 [(0, .ref (ad 0))] [] from ?_)
  have hco2 := hco
  obtain ⟨v, vs, tg, vh, od, po, nu, ar, pla, ti, re, h0, hst, hsn, h73, h74, hhs, h219, h220, h221, h222, h223, h224, htg, hnh, hln, hcn, hhc, hss⟩ := hco2
  have hmk2 := hmk
  obtain ⟨m0, th, rd, er, h225, hth, hrd, her⟩ := hmk2
  have hsr2 := hsr
  obtain ⟨s0, px, pp, ls, gr, ea, pl, rt, h229, hsea, hspl, hsrt⟩ := hsr2
  have hne := hcn.i.e0
  have hnt := hcn.i.e1
  have hnk := hcn.i.e2
  have h1 : E 1 = .inr (5, [.ref (ad 2), .ref (ad 3), .ref (ad 4), .ref (ad 5), .ref (ad 6), .ref (ad 7), .ref (ad 22), .int (nI ne), .int (r 3), .int (r 4), .int (r 5)]) := by have q := hst.o; rw [hcn.n0, hcn.r3, hcn.r4, hcn.r5] at q; exact q
  have h7 : E 7 = .inr (3, [.ref (ad 8), .ref (ad 9), .ref (ad 10), .ref (ad 11), .int (nI nt)]) := by have q := hst.t; rw [hcn.n1] at q; exact q
  have h22 : E 22 = .inr (3, [.ref (ad 23), .ref (ad 24), .ref (ad 25), .ref (ad 26), .int (nI nk)]) := by have q := hst.k; rw [hcn.n2] at q; exact q
  refine g_aload_n F (q := 1) (dk dX6_clearText 0 rfl) rfl rfl 0 rfl ?_
  refine g_getf F (q := 4) h0 rfl inX6 (by omega) (j := 4) (by decide) tq_244 rfl rfl (dk dX6_clearText 1 rfl) rfl ?_
  refine g_getf F (q := 7) h219 rfl inX2 (by omega) (j := 1) (by decide) tq_150 rfl rfl (dk dX6_clearText 2 rfl) rfl ?_
  refine g_istore_n F (q := 8) (lv' := [(1, .int (nI ln)), (0, .ref (ad 0))]) (dk dX6_clearText 3 rfl) rfl rfl (Nat.le_of_ble_eq_true rfl) rfl ?_
  refine g_aload_n F (q := 9) (dk dX6_clearText 4 rfl) rfl rfl 1 rfl ?_
  refine g_getf F (q := 12) h0 rfl inX6 (by omega) (j := 4) (by decide) tq_244 rfl rfl (dk dX6_clearText 5 rfl) rfl ?_
  refine g_iconst F (q := 13) (v := 0) (dk dX6_clearText 6 rfl) rfl (by decide) ?_
  refine g_putf F (q := 16) (ty := .int) h219 rfl inX2 tyX2 tyX2_ok nmX2 (by omega) (j := 1) (by decide) tq_150 rfl rfl (by decide +kernel) rfl rfl (Nat.le_of_ble_eq_true rfl) (dk dX6_clearText 7 rfl) rfl (fun E13 hE13 hO13 => ?_)
  have hE13 : E13 219 = .inr (2, [.ref (ad 220), .int 0, .ref (ad 221), .ref (ad 222), .ref (ad 223), .ref (ad 224), .int od, .int po, .int nu]) := hE13
  refine g_iload_n F (q := 17) (dk dX6_clearText 8 rfl) rfl rfl 0 rfl ?_
  have hb1 := hst.fr (fun j h1 h2 => hO13 j (by omega))
  have hc2 := (hO13 0 (by omega)).trans h0
  have hb3 := hsn.fr (fun j h1 h2 => hO13 j (by omega))
  have hc4 := (hO13 73 (by omega)).trans h73
  have hc5 := (hO13 74 (by omega)).trans h74
  have hb6 : ∀ i, i < 4 → StA cA ad E13 (tg i) (vh i) := (fun i hi => (hhs i hi).fr (fun j h1 h2 => hO13 j (by have := (htg i hi).1; omega)))
  have hc7 := (hO13 220 (by omega)).trans h220
  have hc8 := (hO13 221 (by omega)).trans h221
  have hc9 := (hO13 222 (by omega)).trans h222
  have hc10 := (hO13 223 (by omega)).trans h223
  have hc11 := (hO13 224 (by omega)).trans h224
  have hb12 := hmk.fr (fun j h1 h2 => hO13 j (by omega))
  have hb13 := hsr.fr (fun j h1 h2 => hO13 j (by omega))
  refine hret (nI ln) E13 _ _ (dk dX6_clearText 9 rfl) (nint _) ?_
  exact ⟨rfl, ⟨_, _, _, _, _, _, _, _, _, _, _, hc2, hb1, hb3, hc4, hc5, hb6, hE13, hc7, hc8, hc9, hc10, hc11, htg, hnh, (by omega), hcn, hhc, hss⟩, hb12, hb13, (fun j hj => (hO13 j (by omega)))⟩
theorem kv_X6_clearText : KV yX6_clearText "ThumpEars" cX6_clearText 2 (some .int) 0 := ⟨tq_579, tq_580, tq_9, tq_581, by decide +kernel⟩
abbrev rm_X6_undo : Room := { frames := 4, cells := 0, slots := 0, locals := 104 }
set_option maxHeartbeats 4000000 in
set_option maxRecDepth 100000 in
theorem c_X6_undo {l : Launch} {D : va_G} {cA : Nat → ClassId} {ad : Nat → Nat} {E : Nat → va_E} {r : Nat → Int32} {ne nt nk nh : Nat} {H : Nat → Nat → Int32} {s1 : Int32} {asd : Nat → Int32} {ln : Nat} {txt : Nat → Int32}   (hco : Core cA ad E r ne nt nk nh H s1 asd ln txt) (hmk : MkP cA ad E) (hsr : SrP cA ad E)  : CtI l D cA yX6_undo cX6_undo 1 .int rm_X6_undo 235 ad E [.ref (ad 0)] (fun x E' => ∃ (ne2 : Nat) (nt2 : Nat) (nk2 : Nat), (if nh = 0 then (-5 : Int32) else nI (nh - 1)) = x ∧ (Core cA ad E' (if nh = 0 then r else H (nh - 1)) ne2 nt2 nk2 (nh - 1) H s1 asd ln txt) ∧ (MkP cA ad E') ∧ (SrP cA ad E') ∧ ∀ j, (233 ≤ j) → E' j = E j) := by
  refine CtI.of (by decide +kernel) (Nat.le_of_ble_eq_true rfl) (fun X F hret => ?_)
  have F : Fr "ThumpEars" cX6_undo 1 D cA X := F
  refine (show GG rm_X6_undo 1 l D X 0 0 235 ad E 0 [(0, .ref (ad 0))] [] from ?_)
  have hco2 := hco
  obtain ⟨v, vs, tg, vh, od, po, nu, ar, pla, ti, re, h0, hst, hsn, h73, h74, hhs, h219, h220, h221, h222, h223, h224, htg, hnh, hln, hcn, hhc, hss⟩ := hco2
  have hmk2 := hmk
  obtain ⟨m0, th, rd, er, h225, hth, hrd, her⟩ := hmk2
  have hsr2 := hsr
  obtain ⟨s0, px, pp, ls, gr, ea, pl, rt, h229, hsea, hspl, hsrt⟩ := hsr2
  have hne := hcn.i.e0
  have hnt := hcn.i.e1
  have hnk := hcn.i.e2
  have h1 : E 1 = .inr (5, [.ref (ad 2), .ref (ad 3), .ref (ad 4), .ref (ad 5), .ref (ad 6), .ref (ad 7), .ref (ad 22), .int (nI ne), .int (r 3), .int (r 4), .int (r 5)]) := by have q := hst.o; rw [hcn.n0, hcn.r3, hcn.r4, hcn.r5] at q; exact q
  have h7 : E 7 = .inr (3, [.ref (ad 8), .ref (ad 9), .ref (ad 10), .ref (ad 11), .int (nI nt)]) := by have q := hst.t; rw [hcn.n1] at q; exact q
  have h22 : E 22 = .inr (3, [.ref (ad 23), .ref (ad 24), .ref (ad 25), .ref (ad 26), .int (nI nk)]) := by have q := hst.k; rw [hcn.n2] at q; exact q
  refine g_aload_n F (q := 1) (dk dX6_undo 0 rfl) rfl rfl 0 rfl ?_
  refine g_getf F (q := 4) h0 rfl inX6 (by omega) (j := 3) (by decide) tq_243 rfl rfl (dk dX6_undo 1 rfl) rfl ?_
  refine g_getf F (q := 7) h73 rfl inX0 (by omega) (j := 1) (by decide) tq_135 rfl rfl (dk dX6_undo 2 rfl) rfl ?_
  refine g_if_gt F (q := 10) (tgt := 13) (dk dX6_undo 3 rfl) (by decide) rfl (fun c7 => ?_) (fun c7 => ?_)
  · have nc7 : 0 < nh := (nI_ltI (a := 0) (b := nh) (by omega) (by omega)).mp c7
    refine g_aload_n F (q := 14) (dk dX6_undo 6 rfl) rfl rfl 0 rfl ?_
    refine g_getf F (q := 17) h0 rfl inX6 (by omega) (j := 3) (by decide) tq_243 rfl rfl (dk dX6_undo 7 rfl) rfl ?_
    refine g_aload_n F (q := 18) (dk dX6_undo 8 rfl) rfl rfl 0 rfl ?_
    refine g_getf F (q := 21) h0 rfl inX6 (by omega) (j := 0) (by decide) tq_240 rfl rfl (dk dX6_undo 9 rfl) rfl ?_
    refine g_callVV F (q := 24) (av := [.ref (ad 1)]) (st := []) (c_X0_popInto h73 h74 hhs hst (by first | assumption | decide | omega) (by first | assumption | decide | omega) (by first | assumption | decide | omega) (fun i hi => (hhc i hi).bz)) kv_X0_popInto tq_618 h73 rfl (by omega) ⟨rfl, rfl⟩ (by decide) ⟨Nat.le_refl _, Nat.le_refl _⟩ rfl rfl (Nat.le_of_ble_eq_true rfl) (dk dX6_undo 10 rfl) rfl (fun E21 hp21 => ?_)
    obtain ⟨wv_21, hK73_21, hBsb_21, hq_21, hF21⟩ := hp21
    refine g_aload_n F (q := 25) (dk dX6_undo 11 rfl) rfl rfl 0 rfl ?_
    have hc1 := (hF21 0 (by omega)).trans h0
    refine g_getf F (q := 28) hc1 rfl inX6 (by omega) (j := 3) (by decide) tq_243 rfl rfl (dk dX6_undo 12 rfl) rfl ?_
    refine g_getf F (q := 31) hK73_21 rfl inX0 (by omega) (j := 1) (by decide) tq_135 rfl rfl (dk dX6_undo 13 rfl) rfl ?_
    obtain ⟨a, b, c, hcw⟩ := (hhc (nh - 1) (by omega)).veq hq_21
    have hb2 := hsn.fr (fun j h1 h2 => hF21 j (by omega))
    have hc3 := (hF21 74 (by omega)).trans h74
    have hb4 : ∀ i, i < 4 → StA cA ad E21 (tg i) (vh i) := (fun i hi => (hhs i hi).fr (fun j h1 h2 => hF21 j (by have := (htg i hi).1; omega)))
    have hc5 := (hF21 219 (by omega)).trans h219
    have hc6 := (hF21 220 (by omega)).trans h220
    have hc7 := (hF21 221 (by omega)).trans h221
    have hc8 := (hF21 222 (by omega)).trans h222
    have hc9 := (hF21 223 (by omega)).trans h223
    have hc10 := (hF21 224 (by omega)).trans h224
    have hb11 := hmk.fr (fun j h1 h2 => hF21 j (by omega))
    have hb12 := hsr.fr (fun j h1 h2 => hF21 j (by omega))
    refine hret (nI ((nh - 1))) E21 _ _ (dk dX6_undo 14 rfl) (nint _) ?_
    exact ⟨a, b, c, (if_neg (by omega)), (by rw [if_neg (show ¬ nh = 0 by omega)]; exact ⟨_, _, _, _, _, _, _, _, _, _, _, hc1, hBsb_21, hb2, hK73_21, hc3, hb4, hc5, hc6, hc7, hc8, hc9, hc10, htg, (by omega), hln, hcw, (fun i hi => hhc i (by omega)), hss⟩), hb11, hb12, (fun j hj => (hF21 j (by omega)))⟩
  · have nc7 : ¬ 0 < nh := fun h => c7 ((nI_ltI (a := 0) (b := nh) (by omega) (by omega)).mpr h)
    refine g_bipush F (q := 12) (v := (-5)) (dk dX6_undo 4 rfl) rfl (by decide) ?_
    refine hret (-5) E _ _ (dk dX6_undo 5 rfl) (nint _) ?_
    exact ⟨ne, nt, nk, (if_pos (by omega)), (by rw [if_pos (show nh = 0 by omega), show nh - 1 = nh by omega]; exact hco), hmk, hsr, (fun j _ => rfl)⟩
theorem kv_X6_undo : KV yX6_undo "ThumpEars" cX6_undo 1 (some .int) 0 := ⟨tq_615, tq_616, tq_9, tq_617, by decide +kernel⟩
