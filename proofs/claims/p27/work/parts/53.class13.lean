abbrev rm_X6_bury : Room := { frames := 4, cells := 0, slots := 0, locals := 104 }
set_option maxHeartbeats 4000000 in
set_option maxRecDepth 100000 in
theorem c_X6_bury {l : Launch} {D : va_G} {cA : Nat → ClassId} {ad : Nat → Nat} {E : Nat → va_E} {r : Nat → Int32} {ne nt nk nh : Nat} {H : Nat → Nat → Int32} {s1 : Int32} {asd : Nat → Int32} {ln : Nat} {txt : Nat → Int32} {place : Int32}  (hco : Core cA ad E r ne nt nk nh H s1 asd ln txt) (hmk : MkP cA ad E) (hsr : SrP cA ad E)  : CtI l D cA yX6_bury cX6_bury 2 .int rm_X6_bury 235 ad E [.ref (ad 0), .int place] (fun x E' => ∃ (ne2 : Nat) (nt2 : Nat) (nk2 : Nat), (sBury r ne place).1 = x ∧ (Core cA ad E' (nR (sBury r ne place).2 r) ne2 nt2 nk2 (nN (sBury r ne place).2 nh) (nHs (sBury r ne place).2 nh H r) s1 asd ln txt) ∧ (MkP cA ad E') ∧ (SrP cA ad E') ∧ ∀ j, (233 ≤ j) → E' j = E j) := by
  refine CtI.of (by decide +kernel) (Nat.le_of_ble_eq_true rfl) (fun X F hret => ?_)
  have F : Fr "ThumpEars" cX6_bury 2 D cA X := F
  refine (show GG rm_X6_bury 2 l D X 0 0 235 ad E 0 [(0, .ref (ad 0)), (1, .int place)] [] from ?_)
  have hco2 := hco
  obtain ⟨v, vs, tg, vh, od, po, nu, ar, pla, ti, re, h0, hst, hsn, h73, h74, hhs, h219, h220, h221, h222, h223, h224, htg, hnh, hln, hcn, hhc, hss⟩ := hco2
  have hmk2 := hmk
  obtain ⟨m0, th, rd, er, h225, hth, hrd, her⟩ := hmk2
  have hsr2 := hsr
  obtain ⟨s0, px, pp, ls, gr, ea, pl, rt, h229, hsea, hspl, hsrt⟩ := hsr2
  have hne := hcn.i.e0
  have hnt := hcn.i.e1
  have hnk := hcn.i.e2
  have h1 : E 1 = .inr (5, [.ref (ad 2), .ref (ad 3), .ref (ad 4), .ref (ad 5), .ref (ad 6), .ref (ad 7), .ref (ad 22), .int (nI ne), .int (r 3), .int (r 4), .int (r 5)]) := by have q := hst.o; rw [hcn.n0, hcn.r3, hcn.r4, hcn.r5] at q; exact q
  have h7 : E 7 = .inr (3, [.ref (ad 8), .ref (ad 9), .ref (ad 10), .ref (ad 11), .int (nI nt)]) := by have q := hst.t; rw [hcn.n1] at q; exact q
  have h22 : E 22 = .inr (3, [.ref (ad 23), .ref (ad 24), .ref (ad 25), .ref (ad 26), .int (nI nk)]) := by have q := hst.k; rw [hcn.n2] at q; exact q
  refine g_iload_n F (q := 1) (dk dX6_bury 0 rfl) rfl rfl 1 rfl ?_
  refine g_iconst F (q := 2) (v := 0) (dk dX6_bury 1 rfl) rfl (by decide) ?_
  refine g_sipush F (q := 5) (v := 1000) (dk dX6_bury 2 rfl) rfl (by decide) ?_
  refine g_callSI F (q := 8) (av := [.int place, .int 0, .int 1000]) (st := []) (c_X6_isWithin (y := place) (a := 0) (b := 1000)) ks_X6_isWithin tq_266 ⟨rfl, rfl⟩ (by decide) ⟨Nat.le_refl _, Nat.le_refl _⟩ rfl rfl (Nat.le_of_ble_eq_true rfl) (dk dX6_bury 3 rfl) rfl (fun r5 E5 hp5 => ?_)
  rcases hp5 with ⟨rfl, rfl, b5⟩ | ⟨rfl, rfl, b5⟩
  · refine g_if_ne F (q := 11) (tgt := 14) (dk dX6_bury 4 rfl) (by decide) rfl (fun _ => ?_) (fun h => absurd h (by decide))
    refine g_aload_n F (q := 15) (dk dX6_bury 7 rfl) rfl rfl 0 rfl ?_
    refine g_getf F (q := 18) h0 rfl inX6 (by omega) (j := 0) (by decide) tq_240 rfl rfl (dk dX6_bury 8 rfl) rfl ?_
    refine g_getf F (q := 21) h1 rfl inX5 (by omega) (j := 7) (by decide) tq_93 rfl rfl (dk dX6_bury 9 rfl) rfl ?_
    refine g_bipush F (q := 23) (v := 10) (dk dX6_bury 10 rfl) rfl (by decide) ?_
    refine g_icmp_lt F (q := 26) (tgt := 29) (dk dX6_bury 11 rfl) (by decide) rfl (fun c23 => ?_) (fun c23 => ?_)
    · have nc23 : ne < 10 := (nI_ltI (a := ne) (b := 10) (by omega) (by omega)).mp c23
      refine g_aload_n F (q := 30) (dk dX6_bury 14 rfl) rfl rfl 0 rfl ?_
      refine g_getf F (q := 33) h0 rfl inX6 (by omega) (j := 3) (by decide) tq_243 rfl rfl (dk dX6_bury 15 rfl) rfl ?_
      refine g_aload_n F (q := 34) (dk dX6_bury 16 rfl) rfl rfl 0 rfl ?_
      refine g_getf F (q := 37) h0 rfl inX6 (by omega) (j := 0) (by decide) tq_240 rfl rfl (dk dX6_bury 17 rfl) rfl ?_
      refine g_callVV F (q := 40) (av := [.ref (ad 1)]) (st := []) (c_X0_push h73 h74 hhs hst (by first | assumption | decide | omega) (by first | assumption | decide | omega) hcn.bz4 hcn.bz5) kv_X0_push tq_269 h73 rfl (by omega) ⟨rfl, rfl⟩ (by decide) ⟨Nat.le_refl _, Nat.le_refl _⟩ rfl rfl (Nat.le_of_ble_eq_true rfl) (dk dX6_bury 18 rfl) rfl (fun E37 hp37 => ?_)
      obtain ⟨wv_37, hK73_37, hK74_37, hBhs_37, hq_37, hF37⟩ := hp37
      have hhc := hist_push hhc ⟨_, _, _, hcn⟩ hq_37 hnh
      have htg := htg.p (nh := nh)
      have hb1 := hst.fr (fun j h1 h2 => hF37 j (by omega))
      have hstP := hb1
      refine g_aload_n F (q := 41) (dk dX6_bury 19 rfl) rfl rfl 0 rfl ?_
      have hc2 := (hF37 0 (by omega)).trans h0
      refine g_getf F (q := 44) hc2 rfl inX6 (by omega) (j := 0) (by decide) tq_240 rfl rfl (dk dX6_bury 20 rfl) rfl ?_
      refine g_iload_n F (q := 45) (dk dX6_bury 21 rfl) rfl rfl 1 rfl ?_
      have hc3 := (hF37 1 (by omega)).trans h1
      have hc4 : E37 2 = .inl (cA 0, 10, .inl (v 1)) := hb1.a 1 (by omega)
      refine g_callVI F (q := 48) (av := [.int place]) (st := []) (c_X5_addEar (p := place) hc3 hc4 (by first | assumption | decide | omega)) kv_X5_addEar tq_289 hc3 rfl (by omega) ⟨rfl, rfl⟩ (by decide) ⟨Nat.le_refl _, Nat.le_refl _⟩ rfl rfl (Nat.le_of_ble_eq_true rfl) (dk dX6_bury 22 rfl) rfl (fun r45 E45 hp45 => ?_)
      obtain ⟨rfl, hK1_45, hK2_45, hF45⟩ := hp45
      have hs : sBury r ne place = (nI ne, some (upd (upd (upd (upd (upd r (6 + 4 * ne) place) (6 + 4 * ne + 1) 0) (6 + 4 * ne + 2) 0) (6 + 4 * ne + 3) 0) 0 (nI (ne + 1)))) := by unfold sBury; rw [if_pos b5, if_neg (by omega)]
      have hb5 := hmk.fr (fun j h1 h2 => hF37 j (by omega))
      have hb6 := hb5.fr (fun j h1 h2 => hF45 j (by omega))
      have hb7 := hsr.fr (fun j h1 h2 => hF37 j (by omega))
      have hb8 := hb7.fr (fun j h1 h2 => hF45 j (by omega))
      have hsv : StA cA ad E45 1 (vset (vset v 1 (upd (v 1) ne place)) 0 (oV (nI (ne + 1)) (r 3) (r 4) (r 5))) := hstP.pp 1 (by unfold isA; omega) hK1_45 hK2_45 hF45
      have hcv : Can (vset (vset v 1 (upd (v 1) ne place)) 0 (oV (nI (ne + 1)) (r 3) (r 4) (r 5))) (upd (upd (upd (upd (upd r (6 + 4 * ne) place) (6 + 4 * ne + 1) 0) (6 + 4 * ne + 2) 0) (6 + 4 * ne + 3) 0) 0 (nI (ne + 1))) (ne + 1) nt nk := hcn.bury (by omega) (i32le (by decide) (by decide) b5)
      have hc9 := (hF45 0 (by omega)).trans hc2
      have hb10 := hsn.fr (fun j h1 h2 => hF37 j (by omega))
      have hb11 := hb10.fr (fun j h1 h2 => hF45 j (by omega))
      have hc12 := (hF45 73 (by omega)).trans hK73_37
      have hc13 := (hF45 74 (by omega)).trans hK74_37
      have hb14 : ∀ i, i < 4 → StA cA ad E45 ((pRot nh tg) i) ((va_up (pRot nh vh) (pAt nh) wv_37) i) := (fun i hi => (hBhs_37 i hi).fr (fun j h1 h2 => hF45 j (by have := (htg i hi).1; omega)))
      have hc15 := (hF37 219 (by omega)).trans h219
      have hc16 := (hF45 219 (by omega)).trans hc15
      have hc17 := (hF37 220 (by omega)).trans h220
      have hc18 := (hF45 220 (by omega)).trans hc17
      have hc19 := (hF37 221 (by omega)).trans h221
      have hc20 := (hF45 221 (by omega)).trans hc19
      have hc21 := (hF37 222 (by omega)).trans h222
      have hc22 := (hF45 222 (by omega)).trans hc21
      have hc23 := (hF37 223 (by omega)).trans h223
      have hc24 := (hF45 223 (by omega)).trans hc23
      have hc25 := (hF37 224 (by omega)).trans h224
      have hc26 := (hF45 224 (by omega)).trans hc25
      refine hret (nI ne) E45 _ _ (dk dX6_bury 23 rfl) (nint _) ?_
      exact ⟨(ne + 1), nt, nk, (by rw [hs]), (by rw [hs]; exact ⟨_, _, _, _, _, _, _, _, _, _, _, hc9, hsv, hb11, hc12, hc13, hb14, hc16, hc18, hc20, hc22, hc24, hc26, htg, (nup_le hnh), hln, hcv, hhc, hss⟩), hb6, hb8, (fun j hj => ((hF45 j (by omega)).trans (hF37 j (by omega))))⟩
    · have nc23 : ¬ ne < 10 := fun h => c23 ((nI_ltI (a := ne) (b := 10) (by omega) (by omega)).mpr h)
      refine g_bipush F (q := 28) (v := (-3)) (dk dX6_bury 12 rfl) rfl (by decide) ?_
      have hs : sBury r ne place = (-3, none) := by unfold sBury; rw [if_pos b5, if_pos (by omega)]
      refine hret (-3) E _ _ (dk dX6_bury 13 rfl) (nint _) ?_
      exact ⟨ne, nt, nk, (by rw [hs]), (by rw [hs]; exact hco), hmk, hsr, (fun j _ => rfl)⟩
  · refine g_if_ne F (q := 11) (tgt := 14) (dk dX6_bury 4 rfl) (by decide) rfl (fun h => absurd h (by decide)) (fun _ => ?_)
    refine g_bipush F (q := 13) (v := (-2)) (dk dX6_bury 5 rfl) rfl (by decide) ?_
    have hs : sBury r ne place = (-2, none) := if_neg b5
    refine hret (-2) E _ _ (dk dX6_bury 6 rfl) (nint _) ?_
    exact ⟨ne, nt, nk, (by rw [hs]), (by rw [hs]; exact hco), hmk, hsr, (fun j _ => rfl)⟩
theorem kv_X6_bury : KV yX6_bury "ThumpEars" cX6_bury 2 (some .int) 1 := ⟨tq_263, tq_264, tq_9, tq_265, by decide +kernel⟩
abbrev rm_X6_setClock : Room := { frames := 4, cells := 0, slots := 0, locals := 104 }
set_option maxHeartbeats 4000000 in
set_option maxRecDepth 100000 in
theorem c_X6_setClock {l : Launch} {D : va_G} {cA : Nat → ClassId} {ad : Nat → Nat} {E : Nat → va_E} {r : Nat → Int32} {ne nt nk nh : Nat} {H : Nat → Nat → Int32} {s1 : Int32} {asd : Nat → Int32} {ln : Nat} {txt : Nat → Int32} {ear off dr : Int32}  (hco : Core cA ad E r ne nt nk nh H s1 asd ln txt) (hmk : MkP cA ad E) (hsr : SrP cA ad E)  : CtI l D cA yX6_setClock cX6_setClock 4 .int rm_X6_setClock 235 ad E [.ref (ad 0), .int ear, .int off, .int dr] (fun x E' => ∃ (ne2 : Nat) (nt2 : Nat) (nk2 : Nat), (sClock r ne ear off dr).1 = x ∧ (Core cA ad E' (nR (sClock r ne ear off dr).2 r) ne2 nt2 nk2 (nN (sClock r ne ear off dr).2 nh) (nHs (sClock r ne ear off dr).2 nh H r) s1 asd ln txt) ∧ (MkP cA ad E') ∧ (SrP cA ad E') ∧ ∀ j, (233 ≤ j) → E' j = E j) := by
  refine CtI.of (by decide +kernel) (Nat.le_of_ble_eq_true rfl) (fun X F hret => ?_)
  have F : Fr "ThumpEars" cX6_setClock 4 D cA X := F
  refine (show GG rm_X6_setClock 4 l D X 0 0 235 ad E 0 [(0, .ref (ad 0)), (1, .int ear), (2, .int off), (3, .int dr)] [] from ?_)
  have hco2 := hco
  obtain ⟨v, vs, tg, vh, od, po, nu, ar, pla, ti, re, h0, hst, hsn, h73, h74, hhs, h219, h220, h221, h222, h223, h224, htg, hnh, hln, hcn, hhc, hss⟩ := hco2
  have hmk2 := hmk
  obtain ⟨m0, th, rd, er, h225, hth, hrd, her⟩ := hmk2
  have hsr2 := hsr
  obtain ⟨s0, px, pp, ls, gr, ea, pl, rt, h229, hsea, hspl, hsrt⟩ := hsr2
  have hne := hcn.i.e0
  have hnt := hcn.i.e1
  have hnk := hcn.i.e2
  have h1 : E 1 = .inr (5, [.ref (ad 2), .ref (ad 3), .ref (ad 4), .ref (ad 5), .ref (ad 6), .ref (ad 7), .ref (ad 22), .int (nI ne), .int (r 3), .int (r 4), .int (r 5)]) := by have q := hst.o; rw [hcn.n0, hcn.r3, hcn.r4, hcn.r5] at q; exact q
  have h7 : E 7 = .inr (3, [.ref (ad 8), .ref (ad 9), .ref (ad 10), .ref (ad 11), .int (nI nt)]) := by have q := hst.t; rw [hcn.n1] at q; exact q
  have h22 : E 22 = .inr (3, [.ref (ad 23), .ref (ad 24), .ref (ad 25), .ref (ad 26), .int (nI nk)]) := by have q := hst.k; rw [hcn.n2] at q; exact q
  refine g_aload_n F (q := 1) (dk dX6_setClock 0 rfl) rfl rfl 0 rfl ?_
  refine g_getf F (q := 4) h0 rfl inX6 (by omega) (j := 0) (by decide) tq_240 rfl rfl (dk dX6_setClock 1 rfl) rfl ?_
  refine g_iload_n F (q := 5) (dk dX6_setClock 2 rfl) rfl rfl 1 rfl ?_
  refine g_callVI F (q := 8) (av := [.int ear]) (st := []) (c_X5_hasEar (ear := ear) h1 (by first | assumption | decide | omega)) kv_X5_hasEar tq_394 h1 rfl (by omega) ⟨rfl, rfl⟩ (by decide) ⟨Nat.le_refl _, Nat.le_refl _⟩ rfl rfl (Nat.le_of_ble_eq_true rfl) (dk dX6_setClock 3 rfl) rfl (fun r5 E5 hp5 => ?_)
  rcases hp5 with ⟨rfl, rfl, b5⟩ | ⟨rfl, rfl, b5⟩
  · obtain ⟨e, he, rfl⟩ := b5
    refine g_if_ne F (q := 11) (tgt := 13) (dk dX6_setClock 4 rfl) (by decide) rfl (fun _ => ?_) (fun h => absurd h (by decide))
    refine g_iload_n F (q := 14) (dk dX6_setClock 7 rfl) rfl rfl 2 rfl ?_
    refine g_sipush F (q := 17) (v := (-500)) (dk dX6_setClock 8 rfl) rfl (by decide) ?_
    refine g_sipush F (q := 20) (v := 500) (dk dX6_setClock 9 rfl) rfl (by decide) ?_
    refine g_callSI F (q := 23) (av := [.int off, .int (-500), .int 500]) (st := []) (c_X6_isWithin (y := off) (a := (-500)) (b := 500)) ks_X6_isWithin tq_266 ⟨rfl, rfl⟩ (by decide) ⟨Nat.le_refl _, Nat.le_refl _⟩ rfl rfl (Nat.le_of_ble_eq_true rfl) (dk dX6_setClock 10 rfl) rfl (fun r20 E20 hp20 => ?_)
    rcases hp20 with ⟨rfl, rfl, b20⟩ | ⟨rfl, rfl, b20⟩
    · refine g_if_eq F (q := 26) (tgt := 37) (dk dX6_setClock 11 rfl) (by decide) rfl (fun h => absurd h (by decide)) (fun _ => ?_)
      refine g_iload_n F (q := 27) (dk dX6_setClock 12 rfl) rfl rfl 3 rfl ?_
      refine g_bipush F (q := 29) (v := (-50)) (dk dX6_setClock 13 rfl) rfl (by decide) ?_
      refine g_bipush F (q := 31) (v := 50) (dk dX6_setClock 14 rfl) rfl (by decide) ?_
      refine g_callSI F (q := 34) (av := [.int dr, .int (-50), .int 50]) (st := []) (c_X6_isWithin (y := dr) (a := (-50)) (b := 50)) ks_X6_isWithin tq_266 ⟨rfl, rfl⟩ (by decide) ⟨Nat.le_refl _, Nat.le_refl _⟩ rfl rfl (Nat.le_of_ble_eq_true rfl) (dk dX6_setClock 15 rfl) rfl (fun r31 E31 hp31 => ?_)
      rcases hp31 with ⟨rfl, rfl, b31⟩ | ⟨rfl, rfl, b31⟩
      · refine g_if_ne F (q := 37) (tgt := 40) (dk dX6_setClock 16 rfl) (by decide) rfl (fun _ => ?_) (fun h => absurd h (by decide))
        refine g_aload_n F (q := 41) (dk dX6_setClock 19 rfl) rfl rfl 0 rfl ?_
        refine g_getf F (q := 44) h0 rfl inX6 (by omega) (j := 0) (by decide) tq_240 rfl rfl (dk dX6_setClock 20 rfl) rfl ?_
        refine g_getf F (q := 47) h1 rfl inX5 (by omega) (j := 1) (by decide) tq_78 rfl rfl (dk dX6_setClock 21 rfl) rfl ?_
        refine g_iload_n F (q := 48) (dk dX6_setClock 22 rfl) rfl rfl 1 rfl ?_
        have hc1 : E 3 = .inl (cA 0, 10, .inl (v 2)) := hst.a 2 (by omega)
        refine g_iald F (q := 49) e hc1 (by omega) rfl (by omega) (by decide) (dk dX6_setClock 23 rfl) rfl ?_
        refine g_iload_n F (q := 50) (dk dX6_setClock 24 rfl) rfl rfl 2 rfl ?_
        refine g_icmp_ne F (q := 53) (tgt := 69) (dk dX6_setClock 25 rfl) (by decide) rfl (fun c50 => ?_) (fun c50 => ?_)
        · refine g_aload_n F (q := 70) (dk dX6_setClock 35 rfl) rfl rfl 0 rfl ?_
          refine g_getf F (q := 73) h0 rfl inX6 (by omega) (j := 3) (by decide) tq_243 rfl rfl (dk dX6_setClock 36 rfl) rfl ?_
          refine g_aload_n F (q := 74) (dk dX6_setClock 37 rfl) rfl rfl 0 rfl ?_
          refine g_getf F (q := 77) h0 rfl inX6 (by omega) (j := 0) (by decide) tq_240 rfl rfl (dk dX6_setClock 38 rfl) rfl ?_
          refine g_callVV F (q := 80) (av := [.ref (ad 1)]) (st := []) (c_X0_push h73 h74 hhs hst (by first | assumption | decide | omega) (by first | assumption | decide | omega) hcn.bz4 hcn.bz5) kv_X0_push tq_269 h73 rfl (by omega) ⟨rfl, rfl⟩ (by decide) ⟨Nat.le_refl _, Nat.le_refl _⟩ rfl rfl (Nat.le_of_ble_eq_true rfl) (dk dX6_setClock 39 rfl) rfl (fun E77 hp77 => ?_)
          obtain ⟨wv_77, hK73_77, hK74_77, hBhs_77, hq_77, hF77⟩ := hp77
          have hhc := hist_push hhc ⟨_, _, _, hcn⟩ hq_77 hnh
          have htg := htg.p (nh := nh)
          have hb2 := hst.fr (fun j h1 h2 => hF77 j (by omega))
          have hstP := hb2
          have hc3 : E77 3 = .inl (cA 0, 10, .inl (v 2)) := hb2.a 2 (by omega)
          have hc4 : E77 4 = .inl (cA 0, 10, .inl (v 3)) := hb2.a 3 (by omega)
          refine g_aload_n F (q := 81) (dk dX6_setClock 40 rfl) rfl rfl 0 rfl ?_
          have hc5 := (hF77 0 (by omega)).trans h0
          refine g_getf F (q := 84) hc5 rfl inX6 (by omega) (j := 0) (by decide) tq_240 rfl rfl (dk dX6_setClock 41 rfl) rfl ?_
          have hc6 := (hF77 1 (by omega)).trans h1
          refine g_getf F (q := 87) hc6 rfl inX5 (by omega) (j := 1) (by decide) tq_78 rfl rfl (dk dX6_setClock 42 rfl) rfl ?_
          refine g_iload_n F (q := 88) (dk dX6_setClock 43 rfl) rfl rfl 1 rfl ?_
          refine g_iload_n F (q := 89) (dk dX6_setClock 44 rfl) rfl rfl 2 rfl ?_
          refine g_iast F (q := 90) e hc3 (by omega) rfl (by omega) (by decide) (dk dX6_setClock 45 rfl) rfl (fun E89 hE89 hO89 => ?_)
          refine g_aload_n F (q := 91) (dk dX6_setClock 46 rfl) rfl rfl 0 rfl ?_
          have hc7 := (hO89 0 (by omega)).trans hc5
          refine g_getf F (q := 94) hc7 rfl inX6 (by omega) (j := 0) (by decide) tq_240 rfl rfl (dk dX6_setClock 47 rfl) rfl ?_
          have hc8 := (hO89 1 (by omega)).trans hc6
          refine g_getf F (q := 97) hc8 rfl inX5 (by omega) (j := 2) (by decide) tq_80 rfl rfl (dk dX6_setClock 48 rfl) rfl ?_
          refine g_iload_n F (q := 98) (dk dX6_setClock 49 rfl) rfl rfl 1 rfl ?_
          refine g_iload_n F (q := 99) (dk dX6_setClock 50 rfl) rfl rfl 3 rfl ?_
          have hc9 := (hO89 4 (by omega)).trans hc4
          refine g_iast F (q := 100) e hc9 (by omega) rfl (by omega) (by decide) (dk dX6_setClock 51 rfl) rfl (fun E99 hE99 hO99 => ?_)
          refine g_iconst F (q := 101) (v := 1) (dk dX6_setClock 52 rfl) rfl (by decide) ?_
          have hs : sClock r ne (nI e) off dr = (1, some (upd (upd r (6 + 4 * e + 2) off) (6 + 4 * e + 3) dr)) := by unfold sClock; rw [if_neg (ixN he (by omega)), nI_c (by omega), if_neg (fun h => h ⟨b20, b31⟩), if_neg (fun h => c50 ((hcn.ear he).2.2.1.trans h.1))]
          have hb10 := hmk.fr (fun j h1 h2 => hF77 j (by omega))
          have hb11 := hb10.fr (fun j h1 h2 => hO89 j (by omega))
          have hb12 := hb11.fr (fun j h1 h2 => hO99 j (by omega))
          have hb13 := hsr.fr (fun j h1 h2 => hF77 j (by omega))
          have hb14 := hb13.fr (fun j h1 h2 => hO89 j (by omega))
          have hb15 := hb14.fr (fun j h1 h2 => hO99 j (by omega))
          have hsv : StA cA ad E99 1 (vset (vset v 2 (upd (v 2) e off)) 3 (upd (v 3) e dr)) := (hstP.put 2 (by unfold isA; omega) hE89 hO89).put 3 (by unfold isA; omega) hE99 hO99
          have hcv : Can (vset (vset v 2 (upd (v 2) e off)) 3 (upd (v 3) e dr)) (upd (upd r (6 + 4 * e + 2) off) (6 + 4 * e + 3) dr) ne nt nk := hcn.clock he (i32le (by decide) (by decide) b20) (i32le (by decide) (by decide) b31)
          have hc16 := (hO99 0 (by omega)).trans hc7
          have hb17 := hsn.fr (fun j h1 h2 => hF77 j (by omega))
          have hb18 := hb17.fr (fun j h1 h2 => hO89 j (by omega))
          have hb19 := hb18.fr (fun j h1 h2 => hO99 j (by omega))
          have hc20 := (hO89 73 (by omega)).trans hK73_77
          have hc21 := (hO99 73 (by omega)).trans hc20
          have hc22 := (hO89 74 (by omega)).trans hK74_77
          have hc23 := (hO99 74 (by omega)).trans hc22
          have hb24 : ∀ i, i < 4 → StA cA ad E89 ((pRot nh tg) i) ((va_up (pRot nh vh) (pAt nh) wv_77) i) := (fun i hi => (hBhs_77 i hi).fr (fun j h1 h2 => hO89 j (by have := (htg i hi).1; omega)))
          have hb25 : ∀ i, i < 4 → StA cA ad E99 ((pRot nh tg) i) ((va_up (pRot nh vh) (pAt nh) wv_77) i) := (fun i hi => (hb24 i hi).fr (fun j h1 h2 => hO99 j (by have := (htg i hi).1; omega)))
          have hc26 := (hF77 219 (by omega)).trans h219
          have hc27 := (hO89 219 (by omega)).trans hc26
          have hc28 := (hO99 219 (by omega)).trans hc27
          have hc29 := (hF77 220 (by omega)).trans h220
          have hc30 := (hO89 220 (by omega)).trans hc29
          have hc31 := (hO99 220 (by omega)).trans hc30
          have hc32 := (hF77 221 (by omega)).trans h221
          have hc33 := (hO89 221 (by omega)).trans hc32
          have hc34 := (hO99 221 (by omega)).trans hc33
          have hc35 := (hF77 222 (by omega)).trans h222
          have hc36 := (hO89 222 (by omega)).trans hc35
          have hc37 := (hO99 222 (by omega)).trans hc36
          have hc38 := (hF77 223 (by omega)).trans h223
          have hc39 := (hO89 223 (by omega)).trans hc38
          have hc40 := (hO99 223 (by omega)).trans hc39
          have hc41 := (hF77 224 (by omega)).trans h224
          have hc42 := (hO89 224 (by omega)).trans hc41
          have hc43 := (hO99 224 (by omega)).trans hc42
          refine hret 1 E99 _ _ (dk dX6_setClock 53 rfl) (nint _) ?_
          exact ⟨ne, nt, nk, (by rw [hs]), (by rw [hs]; exact ⟨_, _, _, _, _, _, _, _, _, _, _, hc16, hsv, hb19, hc21, hc23, hb25, hc28, hc31, hc34, hc37, hc40, hc43, htg, (nup_le hnh), hln, hcv, hhc, hss⟩), hb12, hb15, (fun j hj => (((hO99 j (by omega)).trans (hO89 j (by omega))).trans (hF77 j (by omega))))⟩
        · refine g_aload_n F (q := 54) (dk dX6_setClock 26 rfl) rfl rfl 0 rfl ?_
          refine g_getf F (q := 57) h0 rfl inX6 (by omega) (j := 0) (by decide) tq_240 rfl rfl (dk dX6_setClock 27 rfl) rfl ?_
          refine g_getf F (q := 60) h1 rfl inX5 (by omega) (j := 2) (by decide) tq_80 rfl rfl (dk dX6_setClock 28 rfl) rfl ?_
          refine g_iload_n F (q := 61) (dk dX6_setClock 29 rfl) rfl rfl 1 rfl ?_
          have hc44 : E 4 = .inl (cA 0, 10, .inl (v 3)) := hst.a 3 (by omega)
          refine g_iald F (q := 62) e hc44 (by omega) rfl (by omega) (by decide) (dk dX6_setClock 30 rfl) rfl ?_
          refine g_iload_n F (q := 63) (dk dX6_setClock 31 rfl) rfl rfl 3 rfl ?_
          refine g_icmp_ne F (q := 66) (tgt := 69) (dk dX6_setClock 32 rfl) (by decide) rfl (fun c63 => ?_) (fun c63 => ?_)
          · refine g_aload_n F (q := 70) (dk dX6_setClock 35 rfl) rfl rfl 0 rfl ?_
            refine g_getf F (q := 73) h0 rfl inX6 (by omega) (j := 3) (by decide) tq_243 rfl rfl (dk dX6_setClock 36 rfl) rfl ?_
            refine g_aload_n F (q := 74) (dk dX6_setClock 37 rfl) rfl rfl 0 rfl ?_
            refine g_getf F (q := 77) h0 rfl inX6 (by omega) (j := 0) (by decide) tq_240 rfl rfl (dk dX6_setClock 38 rfl) rfl ?_
            refine g_callVV F (q := 80) (av := [.ref (ad 1)]) (st := []) (c_X0_push h73 h74 hhs hst (by first | assumption | decide | omega) (by first | assumption | decide | omega) hcn.bz4 hcn.bz5) kv_X0_push tq_269 h73 rfl (by omega) ⟨rfl, rfl⟩ (by decide) ⟨Nat.le_refl _, Nat.le_refl _⟩ rfl rfl (Nat.le_of_ble_eq_true rfl) (dk dX6_setClock 39 rfl) rfl (fun E77 hp77 => ?_)
            obtain ⟨wv_77, hK73_77, hK74_77, hBhs_77, hq_77, hF77⟩ := hp77
            have hhc := hist_push hhc ⟨_, _, _, hcn⟩ hq_77 hnh
            have htg := htg.p (nh := nh)
            have hb45 := hst.fr (fun j h1 h2 => hF77 j (by omega))
            have hstP := hb45
            have hc46 : E77 3 = .inl (cA 0, 10, .inl (v 2)) := hb45.a 2 (by omega)
            have hc47 : E77 4 = .inl (cA 0, 10, .inl (v 3)) := hb45.a 3 (by omega)
            refine g_aload_n F (q := 81) (dk dX6_setClock 40 rfl) rfl rfl 0 rfl ?_
            have hc48 := (hF77 0 (by omega)).trans h0
            refine g_getf F (q := 84) hc48 rfl inX6 (by omega) (j := 0) (by decide) tq_240 rfl rfl (dk dX6_setClock 41 rfl) rfl ?_
            have hc49 := (hF77 1 (by omega)).trans h1
            refine g_getf F (q := 87) hc49 rfl inX5 (by omega) (j := 1) (by decide) tq_78 rfl rfl (dk dX6_setClock 42 rfl) rfl ?_
            refine g_iload_n F (q := 88) (dk dX6_setClock 43 rfl) rfl rfl 1 rfl ?_
            refine g_iload_n F (q := 89) (dk dX6_setClock 44 rfl) rfl rfl 2 rfl ?_
            refine g_iast F (q := 90) e hc46 (by omega) rfl (by omega) (by decide) (dk dX6_setClock 45 rfl) rfl (fun E89 hE89 hO89 => ?_)
            refine g_aload_n F (q := 91) (dk dX6_setClock 46 rfl) rfl rfl 0 rfl ?_
            have hc50 := (hO89 0 (by omega)).trans hc48
            refine g_getf F (q := 94) hc50 rfl inX6 (by omega) (j := 0) (by decide) tq_240 rfl rfl (dk dX6_setClock 47 rfl) rfl ?_
            have hc51 := (hO89 1 (by omega)).trans hc49
            refine g_getf F (q := 97) hc51 rfl inX5 (by omega) (j := 2) (by decide) tq_80 rfl rfl (dk dX6_setClock 48 rfl) rfl ?_
            refine g_iload_n F (q := 98) (dk dX6_setClock 49 rfl) rfl rfl 1 rfl ?_
            refine g_iload_n F (q := 99) (dk dX6_setClock 50 rfl) rfl rfl 3 rfl ?_
            have hc52 := (hO89 4 (by omega)).trans hc47
            refine g_iast F (q := 100) e hc52 (by omega) rfl (by omega) (by decide) (dk dX6_setClock 51 rfl) rfl (fun E99 hE99 hO99 => ?_)
            refine g_iconst F (q := 101) (v := 1) (dk dX6_setClock 52 rfl) rfl (by decide) ?_
            have hs : sClock r ne (nI e) off dr = (1, some (upd (upd r (6 + 4 * e + 2) off) (6 + 4 * e + 3) dr)) := by unfold sClock; rw [if_neg (ixN he (by omega)), nI_c (by omega), if_neg (fun h => h ⟨b20, b31⟩), if_neg (fun h => c63 ((hcn.ear he).2.2.2.trans h.2))]
            have hb53 := hmk.fr (fun j h1 h2 => hF77 j (by omega))
            have hb54 := hb53.fr (fun j h1 h2 => hO89 j (by omega))
            have hb55 := hb54.fr (fun j h1 h2 => hO99 j (by omega))
            have hb56 := hsr.fr (fun j h1 h2 => hF77 j (by omega))
            have hb57 := hb56.fr (fun j h1 h2 => hO89 j (by omega))
            have hb58 := hb57.fr (fun j h1 h2 => hO99 j (by omega))
            have hsv : StA cA ad E99 1 (vset (vset v 2 (upd (v 2) e off)) 3 (upd (v 3) e dr)) := (hstP.put 2 (by unfold isA; omega) hE89 hO89).put 3 (by unfold isA; omega) hE99 hO99
            have hcv : Can (vset (vset v 2 (upd (v 2) e off)) 3 (upd (v 3) e dr)) (upd (upd r (6 + 4 * e + 2) off) (6 + 4 * e + 3) dr) ne nt nk := hcn.clock he (i32le (by decide) (by decide) b20) (i32le (by decide) (by decide) b31)
            have hc59 := (hO99 0 (by omega)).trans hc50
            have hb60 := hsn.fr (fun j h1 h2 => hF77 j (by omega))
            have hb61 := hb60.fr (fun j h1 h2 => hO89 j (by omega))
            have hb62 := hb61.fr (fun j h1 h2 => hO99 j (by omega))
            have hc63 := (hO89 73 (by omega)).trans hK73_77
            have hc64 := (hO99 73 (by omega)).trans hc63
            have hc65 := (hO89 74 (by omega)).trans hK74_77
            have hc66 := (hO99 74 (by omega)).trans hc65
            have hb67 : ∀ i, i < 4 → StA cA ad E89 ((pRot nh tg) i) ((va_up (pRot nh vh) (pAt nh) wv_77) i) := (fun i hi => (hBhs_77 i hi).fr (fun j h1 h2 => hO89 j (by have := (htg i hi).1; omega)))
            have hb68 : ∀ i, i < 4 → StA cA ad E99 ((pRot nh tg) i) ((va_up (pRot nh vh) (pAt nh) wv_77) i) := (fun i hi => (hb67 i hi).fr (fun j h1 h2 => hO99 j (by have := (htg i hi).1; omega)))
            have hc69 := (hF77 219 (by omega)).trans h219
            have hc70 := (hO89 219 (by omega)).trans hc69
            have hc71 := (hO99 219 (by omega)).trans hc70
            have hc72 := (hF77 220 (by omega)).trans h220
            have hc73 := (hO89 220 (by omega)).trans hc72
            have hc74 := (hO99 220 (by omega)).trans hc73
            have hc75 := (hF77 221 (by omega)).trans h221
            have hc76 := (hO89 221 (by omega)).trans hc75
            have hc77 := (hO99 221 (by omega)).trans hc76
            have hc78 := (hF77 222 (by omega)).trans h222
            have hc79 := (hO89 222 (by omega)).trans hc78
            have hc80 := (hO99 222 (by omega)).trans hc79
            have hc81 := (hF77 223 (by omega)).trans h223
            have hc82 := (hO89 223 (by omega)).trans hc81
            have hc83 := (hO99 223 (by omega)).trans hc82
            have hc84 := (hF77 224 (by omega)).trans h224
            have hc85 := (hO89 224 (by omega)).trans hc84
            have hc86 := (hO99 224 (by omega)).trans hc85
            refine hret 1 E99 _ _ (dk dX6_setClock 53 rfl) (nint _) ?_
            exact ⟨ne, nt, nk, (by rw [hs]), (by rw [hs]; exact ⟨_, _, _, _, _, _, _, _, _, _, _, hc59, hsv, hb62, hc64, hc66, hb68, hc71, hc74, hc77, hc80, hc83, hc86, htg, (nup_le hnh), hln, hcv, hhc, hss⟩), hb55, hb58, (fun j hj => (((hO99 j (by omega)).trans (hO89 j (by omega))).trans (hF77 j (by omega))))⟩
          · refine g_bipush F (q := 68) (v := (-5)) (dk dX6_setClock 33 rfl) rfl (by decide) ?_
            have hs : sClock r ne (nI e) off dr = (-5, none) := by unfold sClock; rw [if_neg (ixN he (by omega)), nI_c (by omega), if_neg (fun h => h ⟨b20, b31⟩), if_pos ⟨(hcn.ear he).2.2.1.symm.trans c50, (hcn.ear he).2.2.2.symm.trans c63⟩]
            refine hret (-5) E _ _ (dk dX6_setClock 34 rfl) (nint _) ?_
            exact ⟨ne, nt, nk, (by rw [hs]), (by rw [hs]; exact hco), hmk, hsr, (fun j _ => rfl)⟩
      · refine g_if_ne F (q := 37) (tgt := 40) (dk dX6_setClock 16 rfl) (by decide) rfl (fun h => absurd h (by decide)) (fun _ => ?_)
        refine g_bipush F (q := 39) (v := (-2)) (dk dX6_setClock 17 rfl) rfl (by decide) ?_
        have hs : sClock r ne (nI e) off dr = (-2, none) := by unfold sClock; rw [if_neg (ixN he (by omega)), nI_c (by omega), if_pos (fun h => b31 h.2)]
        refine hret (-2) E _ _ (dk dX6_setClock 18 rfl) (nint _) ?_
        exact ⟨ne, nt, nk, (by rw [hs]), (by rw [hs]; exact hco), hmk, hsr, (fun j _ => rfl)⟩
    · refine g_if_eq F (q := 26) (tgt := 37) (dk dX6_setClock 11 rfl) (by decide) rfl (fun _ => ?_) (fun h => absurd h (by decide))
      refine g_bipush F (q := 39) (v := (-2)) (dk dX6_setClock 17 rfl) rfl (by decide) ?_
      have hs : sClock r ne (nI e) off dr = (-2, none) := by unfold sClock; rw [if_neg (ixN he (by omega)), nI_c (by omega), if_pos (fun h => b20 h.1)]
      refine hret (-2) E _ _ (dk dX6_setClock 18 rfl) (nint _) ?_
      exact ⟨ne, nt, nk, (by rw [hs]), (by rw [hs]; exact hco), hmk, hsr, (fun j _ => rfl)⟩
  · refine g_if_ne F (q := 11) (tgt := 13) (dk dX6_setClock 4 rfl) (by decide) rfl (fun h => absurd h (by decide)) (fun _ => ?_)
    refine g_iconst F (q := 12) (v := (-1)) (dk dX6_setClock 5 rfl) rfl (by decide) ?_
    have hs : sClock r ne ear off dr = (-1, none) := if_pos b5
    refine hret (-1) E _ _ (dk dX6_setClock 6 rfl) (nint _) ?_
    exact ⟨ne, nt, nk, (by rw [hs]), (by rw [hs]; exact hco), hmk, hsr, (fun j _ => rfl)⟩
theorem kv_X6_setClock : KV yX6_setClock "ThumpEars" cX6_setClock 4 (some .int) 3 := ⟨tq_516, tq_517, tq_9, tq_518, by decide +kernel⟩
abbrev rm_X6_flag_a : Room := { frames := 4, cells := 0, slots := 0, locals := 104 }
set_option maxHeartbeats 4000000 in
set_option maxRecDepth 100000 in
theorem c_X6_flag_a {l : Launch} {D : va_G} {cA : Nat → ClassId} {ad : Nat → Nat} {E : Nat → va_E} {r : Nat → Int32} {ne nt nk nh : Nat} {H : Nat → Nat → Int32} {s1 : Int32} {asd : Nat → Int32} {ln : Nat} {txt : Nat → Int32} {e : Nat} {b : Int32}  (hco : Core cA ad E r ne nt nk nh H s1 asd ln txt) (hmk : MkP cA ad E) (hsr : SrP cA ad E) (he : e < ne) (hb : b = 0 ∨ b = 1) : CtI l D cA yX6_flag cX6_flag 5 .int rm_X6_flag_a 235 ad E [.ref (ad 0), .ref (ad 5), .int (nI ne), .int (nI e), .int b] (fun x E' => ∃ (ne2 : Nat) (nt2 : Nat) (nk2 : Nat), (fMute r ne e b).1 = x ∧ (Core cA ad E' (nR (fMute r ne e b).2 r) ne2 nt2 nk2 (nN (fMute r ne e b).2 nh) (nHs (fMute r ne e b).2 nh H r) s1 asd ln txt) ∧ (MkP cA ad E') ∧ (SrP cA ad E') ∧ ∀ j, (233 ≤ j) → E' j = E j) := by
  refine CtI.of (by decide +kernel) (Nat.le_of_ble_eq_true rfl) (fun X F hret => ?_)
  have F : Fr "ThumpEars" cX6_flag 5 D cA X := F
  refine (show GG rm_X6_flag_a 5 l D X 0 0 235 ad E 0 [(0, .ref (ad 0)), (1, .ref (ad 5)), (2, .int (nI ne)), (3, .int (nI e)), (4, .int b)] [] from ?_)
  have hco2 := hco
  obtain ⟨v, vs, tg, vh, od, po, nu, ar, pla, ti, re, h0, hst, hsn, h73, h74, hhs, h219, h220, h221, h222, h223, h224, htg, hnh, hln, hcn, hhc, hss⟩ := hco2
  have hmk2 := hmk
  obtain ⟨m0, th, rd, er, h225, hth, hrd, her⟩ := hmk2
  have hsr2 := hsr
  obtain ⟨s0, px, pp, ls, gr, ea, pl, rt, h229, hsea, hspl, hsrt⟩ := hsr2
  have hne := hcn.i.e0
  have hnt := hcn.i.e1
  have hnk := hcn.i.e2
  have h1 : E 1 = .inr (5, [.ref (ad 2), .ref (ad 3), .ref (ad 4), .ref (ad 5), .ref (ad 6), .ref (ad 7), .ref (ad 22), .int (nI ne), .int (r 3), .int (r 4), .int (r 5)]) := by have q := hst.o; rw [hcn.n0, hcn.r3, hcn.r4, hcn.r5] at q; exact q
  have h7 : E 7 = .inr (3, [.ref (ad 8), .ref (ad 9), .ref (ad 10), .ref (ad 11), .int (nI nt)]) := by have q := hst.t; rw [hcn.n1] at q; exact q
  have h22 : E 22 = .inr (3, [.ref (ad 23), .ref (ad 24), .ref (ad 25), .ref (ad 26), .int (nI nk)]) := by have q := hst.k; rw [hcn.n2] at q; exact q
  refine g_aload_n F (q := 1) (dk dX6_flag 0 rfl) rfl rfl 1 rfl ?_
  refine g_iload_n F (q := 2) (dk dX6_flag 1 rfl) rfl rfl 3 rfl ?_
  have hc1 : E 5 = .inl (cA 2, 10, .inl (v 4)) := hst.z 4 (by omega)
  refine g_zald F (q := 3) e hc1 (by omega) rfl (by omega) (by decide) (dk dX6_flag 2 rfl) rfl ?_
  refine g_iload F (q := 5) (dk dX6_flag 3 rfl) rfl 4 rfl ?_
  refine g_icmp_ne F (q := 8) (tgt := 11) (dk dX6_flag 4 rfl) (by decide) rfl (fun c5 => ?_) (fun c5 => ?_)
  · refine g_aload_n F (q := 12) (dk dX6_flag 7 rfl) rfl rfl 0 rfl ?_
    refine g_getf F (q := 15) h0 rfl inX6 (by omega) (j := 3) (by decide) tq_243 rfl rfl (dk dX6_flag 8 rfl) rfl ?_
    refine g_aload_n F (q := 16) (dk dX6_flag 9 rfl) rfl rfl 0 rfl ?_
    refine g_getf F (q := 19) h0 rfl inX6 (by omega) (j := 0) (by decide) tq_240 rfl rfl (dk dX6_flag 10 rfl) rfl ?_
    refine g_callVV F (q := 22) (av := [.ref (ad 1)]) (st := []) (c_X0_push h73 h74 hhs hst (by first | assumption | decide | omega) (by first | assumption | decide | omega) hcn.bz4 hcn.bz5) kv_X0_push tq_269 h73 rfl (by omega) ⟨rfl, rfl⟩ (by decide) ⟨Nat.le_refl _, Nat.le_refl _⟩ rfl rfl (Nat.le_of_ble_eq_true rfl) (dk dX6_flag 11 rfl) rfl (fun E19 hp19 => ?_)
    obtain ⟨wv_19, hK73_19, hK74_19, hBhs_19, hq_19, hF19⟩ := hp19
    have hhc := hist_push hhc ⟨_, _, _, hcn⟩ hq_19 hnh
    have htg := htg.p (nh := nh)
    have hb2 := hst.fr (fun j h1 h2 => hF19 j (by omega))
    have hstP := hb2
    refine g_aload_n F (q := 23) (dk dX6_flag 12 rfl) rfl rfl 1 rfl ?_
    refine g_iload_n F (q := 24) (dk dX6_flag 13 rfl) rfl rfl 3 rfl ?_
    refine g_iload F (q := 26) (dk dX6_flag 14 rfl) rfl 4 rfl ?_
    have hc3 := (hF19 5 (by omega)).trans hc1
    refine g_zast F (q := 27) e hc3 (by omega) rfl (by omega) (by decide) (vb01 hb) (dk dX6_flag 15 rfl) rfl (fun E26 hE26 hO26 => ?_)
    refine g_aload_n F (q := 28) (dk dX6_flag 16 rfl) rfl rfl 1 rfl ?_
    refine g_iload_n F (q := 29) (dk dX6_flag 17 rfl) rfl rfl 2 rfl ?_
    refine g_callSI F (q := 32) (av := [.ref (ad 5), .int (nI ne)]) (st := []) (c_X6_countFlags_a (n := ne) hE26 (by first | assumption | decide | omega) (hcn.bz4.upd hb)) ks_X6_countFlags tq_297 ⟨rfl, rfl⟩ (by decide) ⟨Nat.le_refl _, Nat.le_refl _⟩ rfl rfl (Nat.le_of_ble_eq_true rfl) (dk dX6_flag 18 rfl) rfl (fun r29 E29 hp29 => ?_)
    obtain ⟨rfl, rfl⟩ := hp29
    have hs : fMute r ne e b = (sumN (fun i => (upd r (6 + 4 * e + 1) b) (6 + 4 * i + 1)) ne, some (upd r (6 + 4 * e + 1) b)) := if_neg (fun h => c5 ((hcn.ear he).2.1.trans h))
    have hb4 := hmk.fr (fun j h1 h2 => hF19 j (by omega))
    have hb5 := hb4.fr (fun j h1 h2 => hO26 j (by omega))
    have hb6 := hsr.fr (fun j h1 h2 => hF19 j (by omega))
    have hb7 := hb6.fr (fun j h1 h2 => hO26 j (by omega))
    have hsv : StA cA ad E26 1 (vset v 4 (upd (v 4) e b)) := hstP.put 4 (by unfold isA; omega) hE26 hO26
    have hcv : Can (vset v 4 (upd (v 4) e b)) (upd r (6 + 4 * e + 1) b) ne nt nk := hcn.mute he hb
    have hc8 := (hF19 0 (by omega)).trans h0
    have hc9 := (hO26 0 (by omega)).trans hc8
    have hb10 := hsn.fr (fun j h1 h2 => hF19 j (by omega))
    have hb11 := hb10.fr (fun j h1 h2 => hO26 j (by omega))
    have hc12 := (hO26 73 (by omega)).trans hK73_19
    have hc13 := (hO26 74 (by omega)).trans hK74_19
    have hb14 : ∀ i, i < 4 → StA cA ad E26 ((pRot nh tg) i) ((va_up (pRot nh vh) (pAt nh) wv_19) i) := (fun i hi => (hBhs_19 i hi).fr (fun j h1 h2 => hO26 j (by have := (htg i hi).1; omega)))
    have hc15 := (hF19 219 (by omega)).trans h219
    have hc16 := (hO26 219 (by omega)).trans hc15
    have hc17 := (hF19 220 (by omega)).trans h220
    have hc18 := (hO26 220 (by omega)).trans hc17
    have hc19 := (hF19 221 (by omega)).trans h221
    have hc20 := (hO26 221 (by omega)).trans hc19
    have hc21 := (hF19 222 (by omega)).trans h222
    have hc22 := (hO26 222 (by omega)).trans hc21
    have hc23 := (hF19 223 (by omega)).trans h223
    have hc24 := (hO26 223 (by omega)).trans hc23
    have hc25 := (hF19 224 (by omega)).trans h224
    have hc26 := (hO26 224 (by omega)).trans hc25
    refine hret (sumN (upd (v 4) e b) ne) E26 _ _ (dk dX6_flag 19 rfl) (nint _) ?_
    exact ⟨ne, nt, nk, (by rw [hs]; exact sumN_cg ne (fun i hi => ((hcn.mute he hb).ear hi).2.1.symm)), (by rw [hs]; exact ⟨_, _, _, _, _, _, _, _, _, _, _, hc9, hsv, hb11, hc12, hc13, hb14, hc16, hc18, hc20, hc22, hc24, hc26, htg, (nup_le hnh), hln, hcv, hhc, hss⟩), hb5, hb7, (fun j hj => ((hO26 j (by omega)).trans (hF19 j (by omega))))⟩
  · refine g_bipush F (q := 10) (v := (-5)) (dk dX6_flag 5 rfl) rfl (by decide) ?_
    have hs : fMute r ne e b = (-5, none) := if_pos ((hcn.ear he).2.1.symm.trans c5)
    refine hret (-5) E _ _ (dk dX6_flag 6 rfl) (nint _) ?_
    exact ⟨ne, nt, nk, (by rw [hs]), (by rw [hs]; exact hco), hmk, hsr, (fun j _ => rfl)⟩
theorem kv_X6_flag : KV yX6_flag "ThumpEars" cX6_flag 5 (some .int) 4 := ⟨tq_525, tq_3, tq_9, tq_526, by decide +kernel⟩
abbrev rm_X6_flag_b : Room := { frames := 4, cells := 0, slots := 0, locals := 104 }
set_option maxHeartbeats 4000000 in
set_option maxRecDepth 100000 in
theorem c_X6_flag_b {l : Launch} {D : va_G} {cA : Nat → ClassId} {ad : Nat → Nat} {E : Nat → va_E} {r : Nat → Int32} {ne nt nk nh : Nat} {H : Nat → Nat → Int32} {s1 : Int32} {asd : Nat → Int32} {ln : Nat} {txt : Nat → Int32} {e : Nat} {b : Int32}  (hco : Core cA ad E r ne nt nk nh H s1 asd ln txt) (hmk : MkP cA ad E) (hsr : SrP cA ad E) (he : e < nt) (hb : b = 0 ∨ b = 1) : CtI l D cA yX6_flag cX6_flag 5 .int rm_X6_flag_b 235 ad E [.ref (ad 0), .ref (ad 6), .int (nI nt), .int (nI e), .int b] (fun x E' => ∃ (ne2 : Nat) (nt2 : Nat) (nk2 : Nat), (fLeave r nt e b).1 = x ∧ (Core cA ad E' (nR (fLeave r nt e b).2 r) ne2 nt2 nk2 (nN (fLeave r nt e b).2 nh) (nHs (fLeave r nt e b).2 nh H r) s1 asd ln txt) ∧ (MkP cA ad E') ∧ (SrP cA ad E') ∧ ∀ j, (233 ≤ j) → E' j = E j) := by
  refine CtI.of (by decide +kernel) (Nat.le_of_ble_eq_true rfl) (fun X F hret => ?_)
  have F : Fr "ThumpEars" cX6_flag 5 D cA X := F
  refine (show GG rm_X6_flag_b 5 l D X 0 0 235 ad E 0 [(0, .ref (ad 0)), (1, .ref (ad 6)), (2, .int (nI nt)), (3, .int (nI e)), (4, .int b)] [] from ?_)
  have hco2 := hco
  obtain ⟨v, vs, tg, vh, od, po, nu, ar, pla, ti, re, h0, hst, hsn, h73, h74, hhs, h219, h220, h221, h222, h223, h224, htg, hnh, hln, hcn, hhc, hss⟩ := hco2
  have hmk2 := hmk
  obtain ⟨m0, th, rd, er, h225, hth, hrd, her⟩ := hmk2
  have hsr2 := hsr
  obtain ⟨s0, px, pp, ls, gr, ea, pl, rt, h229, hsea, hspl, hsrt⟩ := hsr2
  have hne := hcn.i.e0
  have hnt := hcn.i.e1
  have hnk := hcn.i.e2
  have h1 : E 1 = .inr (5, [.ref (ad 2), .ref (ad 3), .ref (ad 4), .ref (ad 5), .ref (ad 6), .ref (ad 7), .ref (ad 22), .int (nI ne), .int (r 3), .int (r 4), .int (r 5)]) := by have q := hst.o; rw [hcn.n0, hcn.r3, hcn.r4, hcn.r5] at q; exact q
  have h7 : E 7 = .inr (3, [.ref (ad 8), .ref (ad 9), .ref (ad 10), .ref (ad 11), .int (nI nt)]) := by have q := hst.t; rw [hcn.n1] at q; exact q
  have h22 : E 22 = .inr (3, [.ref (ad 23), .ref (ad 24), .ref (ad 25), .ref (ad 26), .int (nI nk)]) := by have q := hst.k; rw [hcn.n2] at q; exact q
  refine g_aload_n F (q := 1) (dk dX6_flag 0 rfl) rfl rfl 1 rfl ?_
  refine g_iload_n F (q := 2) (dk dX6_flag 1 rfl) rfl rfl 3 rfl ?_
  have hc1 : E 6 = .inl (cA 2, 10, .inl (v 5)) := hst.z 5 (by omega)
  refine g_zald F (q := 3) e hc1 (by omega) rfl (by omega) (by decide) (dk dX6_flag 2 rfl) rfl ?_
  refine g_iload F (q := 5) (dk dX6_flag 3 rfl) rfl 4 rfl ?_
  refine g_icmp_ne F (q := 8) (tgt := 11) (dk dX6_flag 4 rfl) (by decide) rfl (fun c5 => ?_) (fun c5 => ?_)
  · refine g_aload_n F (q := 12) (dk dX6_flag 7 rfl) rfl rfl 0 rfl ?_
    refine g_getf F (q := 15) h0 rfl inX6 (by omega) (j := 3) (by decide) tq_243 rfl rfl (dk dX6_flag 8 rfl) rfl ?_
    refine g_aload_n F (q := 16) (dk dX6_flag 9 rfl) rfl rfl 0 rfl ?_
    refine g_getf F (q := 19) h0 rfl inX6 (by omega) (j := 0) (by decide) tq_240 rfl rfl (dk dX6_flag 10 rfl) rfl ?_
    refine g_callVV F (q := 22) (av := [.ref (ad 1)]) (st := []) (c_X0_push h73 h74 hhs hst (by first | assumption | decide | omega) (by first | assumption | decide | omega) hcn.bz4 hcn.bz5) kv_X0_push tq_269 h73 rfl (by omega) ⟨rfl, rfl⟩ (by decide) ⟨Nat.le_refl _, Nat.le_refl _⟩ rfl rfl (Nat.le_of_ble_eq_true rfl) (dk dX6_flag 11 rfl) rfl (fun E19 hp19 => ?_)
    obtain ⟨wv_19, hK73_19, hK74_19, hBhs_19, hq_19, hF19⟩ := hp19
    have hhc := hist_push hhc ⟨_, _, _, hcn⟩ hq_19 hnh
    have htg := htg.p (nh := nh)
    have hb2 := hst.fr (fun j h1 h2 => hF19 j (by omega))
    have hstP := hb2
    refine g_aload_n F (q := 23) (dk dX6_flag 12 rfl) rfl rfl 1 rfl ?_
    refine g_iload_n F (q := 24) (dk dX6_flag 13 rfl) rfl rfl 3 rfl ?_
    refine g_iload F (q := 26) (dk dX6_flag 14 rfl) rfl 4 rfl ?_
    have hc3 := (hF19 6 (by omega)).trans hc1
    refine g_zast F (q := 27) e hc3 (by omega) rfl (by omega) (by decide) (vb01 hb) (dk dX6_flag 15 rfl) rfl (fun E26 hE26 hO26 => ?_)
    refine g_aload_n F (q := 28) (dk dX6_flag 16 rfl) rfl rfl 1 rfl ?_
    refine g_iload_n F (q := 29) (dk dX6_flag 17 rfl) rfl rfl 2 rfl ?_
    refine g_callSI F (q := 32) (av := [.ref (ad 6), .int (nI nt)]) (st := []) (c_X6_countFlags_b (n := nt) hE26 (by first | assumption | decide | omega) (hcn.bz5.upd hb)) ks_X6_countFlags tq_297 ⟨rfl, rfl⟩ (by decide) ⟨Nat.le_refl _, Nat.le_refl _⟩ rfl rfl (Nat.le_of_ble_eq_true rfl) (dk dX6_flag 18 rfl) rfl (fun r29 E29 hp29 => ?_)
    obtain ⟨rfl, rfl⟩ := hp29
    have hs : fLeave r nt e b = (sumN (fun i => (upd r (46 + 5 * e + 4) b) (46 + 5 * i + 4)) nt, some (upd r (46 + 5 * e + 4) b)) := if_neg (fun h => c5 ((hcn.th he).2.2.2.1.trans h))
    have hb4 := hmk.fr (fun j h1 h2 => hF19 j (by omega))
    have hb5 := hb4.fr (fun j h1 h2 => hO26 j (by omega))
    have hb6 := hsr.fr (fun j h1 h2 => hF19 j (by omega))
    have hb7 := hb6.fr (fun j h1 h2 => hO26 j (by omega))
    have hsv : StA cA ad E26 1 (vset v 5 (upd (v 5) e b)) := hstP.put 5 (by unfold isA; omega) hE26 hO26
    have hcv : Can (vset v 5 (upd (v 5) e b)) (upd r (46 + 5 * e + 4) b) ne nt nk := hcn.leave he hb
    have hc8 := (hF19 0 (by omega)).trans h0
    have hc9 := (hO26 0 (by omega)).trans hc8
    have hb10 := hsn.fr (fun j h1 h2 => hF19 j (by omega))
    have hb11 := hb10.fr (fun j h1 h2 => hO26 j (by omega))
    have hc12 := (hO26 73 (by omega)).trans hK73_19
    have hc13 := (hO26 74 (by omega)).trans hK74_19
    have hb14 : ∀ i, i < 4 → StA cA ad E26 ((pRot nh tg) i) ((va_up (pRot nh vh) (pAt nh) wv_19) i) := (fun i hi => (hBhs_19 i hi).fr (fun j h1 h2 => hO26 j (by have := (htg i hi).1; omega)))
    have hc15 := (hF19 219 (by omega)).trans h219
    have hc16 := (hO26 219 (by omega)).trans hc15
    have hc17 := (hF19 220 (by omega)).trans h220
    have hc18 := (hO26 220 (by omega)).trans hc17
    have hc19 := (hF19 221 (by omega)).trans h221
    have hc20 := (hO26 221 (by omega)).trans hc19
    have hc21 := (hF19 222 (by omega)).trans h222
    have hc22 := (hO26 222 (by omega)).trans hc21
    have hc23 := (hF19 223 (by omega)).trans h223
    have hc24 := (hO26 223 (by omega)).trans hc23
    have hc25 := (hF19 224 (by omega)).trans h224
    have hc26 := (hO26 224 (by omega)).trans hc25
    refine hret (sumN (upd (v 5) e b) nt) E26 _ _ (dk dX6_flag 19 rfl) (nint _) ?_
    exact ⟨ne, nt, nk, (by rw [hs]; exact sumN_cg nt (fun i hi => ((hcn.leave he hb).th hi).2.2.2.1.symm)), (by rw [hs]; exact ⟨_, _, _, _, _, _, _, _, _, _, _, hc9, hsv, hb11, hc12, hc13, hb14, hc16, hc18, hc20, hc22, hc24, hc26, htg, (nup_le hnh), hln, hcv, hhc, hss⟩), hb5, hb7, (fun j hj => ((hO26 j (by omega)).trans (hF19 j (by omega))))⟩
  · refine g_bipush F (q := 10) (v := (-5)) (dk dX6_flag 5 rfl) rfl (by decide) ?_
    have hs : fLeave r nt e b = (-5, none) := if_pos ((hcn.th he).2.2.2.1.symm.trans c5)
    refine hret (-5) E _ _ (dk dX6_flag 6 rfl) (nint _) ?_
    exact ⟨ne, nt, nk, (by rw [hs]), (by rw [hs]; exact hco), hmk, hsr, (fun j _ => rfl)⟩
abbrev rm_X6_mute : Room := { frames := 5, cells := 0, slots := 0, locals := 128 }
set_option maxHeartbeats 4000000 in
set_option maxRecDepth 100000 in
theorem c_X6_mute {l : Launch} {D : va_G} {cA : Nat → ClassId} {ad : Nat → Nat} {E : Nat → va_E} {r : Nat → Int32} {ne nt nk nh : Nat} {H : Nat → Nat → Int32} {s1 : Int32} {asd : Nat → Int32} {ln : Nat} {txt : Nat → Int32} {ear b : Int32}  (hco : Core cA ad E r ne nt nk nh H s1 asd ln txt) (hmk : MkP cA ad E) (hsr : SrP cA ad E) (hb : b = 0 ∨ b = 1) : CtI l D cA yX6_mute cX6_mute 3 .int rm_X6_mute 235 ad E [.ref (ad 0), .int ear, .int b] (fun x E' => ∃ (ne2 : Nat) (nt2 : Nat) (nk2 : Nat), (sMute r ne ear b).1 = x ∧ (Core cA ad E' (nR (sMute r ne ear b).2 r) ne2 nt2 nk2 (nN (sMute r ne ear b).2 nh) (nHs (sMute r ne ear b).2 nh H r) s1 asd ln txt) ∧ (MkP cA ad E') ∧ (SrP cA ad E') ∧ ∀ j, (233 ≤ j) → E' j = E j) := by
  refine CtI.of (by decide +kernel) (Nat.le_of_ble_eq_true rfl) (fun X F hret => ?_)
  have F : Fr "ThumpEars" cX6_mute 3 D cA X := F
  refine (show GG rm_X6_mute 3 l D X 0 0 235 ad E 0 [(0, .ref (ad 0)), (1, .int ear), (2, .int b)] [] from ?_)
  have hco2 := hco
  obtain ⟨v, vs, tg, vh, od, po, nu, ar, pla, ti, re, h0, hst, hsn, h73, h74, hhs, h219, h220, h221, h222, h223, h224, htg, hnh, hln, hcn, hhc, hss⟩ := hco2
  have hmk2 := hmk
  obtain ⟨m0, th, rd, er, h225, hth, hrd, her⟩ := hmk2
  have hsr2 := hsr
  obtain ⟨s0, px, pp, ls, gr, ea, pl, rt, h229, hsea, hspl, hsrt⟩ := hsr2
  have hne := hcn.i.e0
  have hnt := hcn.i.e1
  have hnk := hcn.i.e2
  have h1 : E 1 = .inr (5, [.ref (ad 2), .ref (ad 3), .ref (ad 4), .ref (ad 5), .ref (ad 6), .ref (ad 7), .ref (ad 22), .int (nI ne), .int (r 3), .int (r 4), .int (r 5)]) := by have q := hst.o; rw [hcn.n0, hcn.r3, hcn.r4, hcn.r5] at q; exact q
  have h7 : E 7 = .inr (3, [.ref (ad 8), .ref (ad 9), .ref (ad 10), .ref (ad 11), .int (nI nt)]) := by have q := hst.t; rw [hcn.n1] at q; exact q
  have h22 : E 22 = .inr (3, [.ref (ad 23), .ref (ad 24), .ref (ad 25), .ref (ad 26), .int (nI nk)]) := by have q := hst.k; rw [hcn.n2] at q; exact q
  refine g_aload_n F (q := 1) (dk dX6_mute 0 rfl) rfl rfl 0 rfl ?_
  refine g_getf F (q := 4) h0 rfl inX6 (by omega) (j := 0) (by decide) tq_240 rfl rfl (dk dX6_mute 1 rfl) rfl ?_
  refine g_iload_n F (q := 5) (dk dX6_mute 2 rfl) rfl rfl 1 rfl ?_
  refine g_callVI F (q := 8) (av := [.int ear]) (st := []) (c_X5_hasEar (ear := ear) h1 (by first | assumption | decide | omega)) kv_X5_hasEar tq_394 h1 rfl (by omega) ⟨rfl, rfl⟩ (by decide) ⟨Nat.le_refl _, Nat.le_refl _⟩ rfl rfl (Nat.le_of_ble_eq_true rfl) (dk dX6_mute 3 rfl) rfl (fun r5 E5 hp5 => ?_)
  rcases hp5 with ⟨rfl, rfl, b5⟩ | ⟨rfl, rfl, b5⟩
  · obtain ⟨e, he, rfl⟩ := b5
    refine g_if_ne F (q := 11) (tgt := 13) (dk dX6_mute 4 rfl) (by decide) rfl (fun _ => ?_) (fun h => absurd h (by decide))
    refine g_aload_n F (q := 14) (dk dX6_mute 7 rfl) rfl rfl 0 rfl ?_
    refine g_aload_n F (q := 15) (dk dX6_mute 8 rfl) rfl rfl 0 rfl ?_
    refine g_getf F (q := 18) h0 rfl inX6 (by omega) (j := 0) (by decide) tq_240 rfl rfl (dk dX6_mute 9 rfl) rfl ?_
    refine g_getf F (q := 21) h1 rfl inX5 (by omega) (j := 3) (by decide) tq_82 rfl rfl (dk dX6_mute 10 rfl) rfl ?_
    refine g_aload_n F (q := 22) (dk dX6_mute 11 rfl) rfl rfl 0 rfl ?_
    refine g_getf F (q := 25) h0 rfl inX6 (by omega) (j := 0) (by decide) tq_240 rfl rfl (dk dX6_mute 12 rfl) rfl ?_
    refine g_getf F (q := 28) h1 rfl inX5 (by omega) (j := 7) (by decide) tq_93 rfl rfl (dk dX6_mute 13 rfl) rfl ?_
    refine g_iload_n F (q := 29) (dk dX6_mute 14 rfl) rfl rfl 1 rfl ?_
    refine g_iload_n F (q := 30) (dk dX6_mute 15 rfl) rfl rfl 2 rfl ?_
    refine g_callVI F (q := 33) (av := [.ref (ad 5), .int (nI ne), .int (nI e), .int b]) (st := []) (c_X6_flag_a (ne := ne) (e := e) (b := b) hco hmk hsr (by first | assumption | decide | omega) (by first | assumption | decide | omega)) kv_X6_flag tq_523 h0 rfl (by omega) ⟨rfl, rfl⟩ (by decide) ⟨Nat.le_refl _, Nat.le_refl _⟩ rfl rfl (Nat.le_of_ble_eq_true rfl) (dk dX6_mute 16 rfl) rfl (fun r30 E30 hp30 => ?_)
    obtain ⟨ne2_30, nt2_30, nk2_30, rfl, hBcore_30, hBmk_30, hBsr_30, hF30⟩ := hp30
    have hs := sMute_f (r := r) he hne hb
    refine hret (fMute r ne e b).1 E30 _ _ (dk dX6_mute 17 rfl) (nint _) ?_
    exact ⟨_, _, _, (by rw [hs]), (by rw [hs]; exact hBcore_30), hBmk_30, hBsr_30, (fun j hj => (hF30 j (by omega)))⟩
  · refine g_if_ne F (q := 11) (tgt := 13) (dk dX6_mute 4 rfl) (by decide) rfl (fun h => absurd h (by decide)) (fun _ => ?_)
    refine g_iconst F (q := 12) (v := (-1)) (dk dX6_mute 5 rfl) rfl (by decide) ?_
    have hs : sMute r ne ear b = (-1, none) := if_pos b5
    refine hret (-1) E _ _ (dk dX6_mute 6 rfl) (nint _) ?_
    exact ⟨ne, nt, nk, (by rw [hs]), (by rw [hs]; exact hco), hmk, hsr, (fun j _ => rfl)⟩
theorem kv_X6_mute : KV yX6_mute "ThumpEars" cX6_mute 3 (some .int) 2 := ⟨tq_520, tq_521, tq_9, tq_522, by decide +kernel⟩
abbrev rm_X6_leaveOut : Room := { frames := 5, cells := 0, slots := 0, locals := 128 }
set_option maxHeartbeats 4000000 in
set_option maxRecDepth 100000 in
theorem c_X6_leaveOut {l : Launch} {D : va_G} {cA : Nat → ClassId} {ad : Nat → Nat} {E : Nat → va_E} {r : Nat → Int32} {ne nt nk nh : Nat} {H : Nat → Nat → Int32} {s1 : Int32} {asd : Nat → Int32} {ln : Nat} {txt : Nat → Int32} {tt b : Int32}  (hco : Core cA ad E r ne nt nk nh H s1 asd ln txt) (hmk : MkP cA ad E) (hsr : SrP cA ad E) (hb : b = 0 ∨ b = 1) : CtI l D cA yX6_leaveOut cX6_leaveOut 3 .int rm_X6_leaveOut 235 ad E [.ref (ad 0), .int tt, .int b] (fun x E' => ∃ (ne2 : Nat) (nt2 : Nat) (nk2 : Nat), (sLeave r nt tt b).1 = x ∧ (Core cA ad E' (nR (sLeave r nt tt b).2 r) ne2 nt2 nk2 (nN (sLeave r nt tt b).2 nh) (nHs (sLeave r nt tt b).2 nh H r) s1 asd ln txt) ∧ (MkP cA ad E') ∧ (SrP cA ad E') ∧ ∀ j, (233 ≤ j) → E' j = E j) := by
  refine CtI.of (by decide +kernel) (Nat.le_of_ble_eq_true rfl) (fun X F hret => ?_)
  have F : Fr "ThumpEars" cX6_leaveOut 3 D cA X := F
  refine (show GG rm_X6_leaveOut 3 l D X 0 0 235 ad E 0 [(0, .ref (ad 0)), (1, .int tt), (2, .int b)] [] from ?_)
  have hco2 := hco
  obtain ⟨v, vs, tg, vh, od, po, nu, ar, pla, ti, re, h0, hst, hsn, h73, h74, hhs, h219, h220, h221, h222, h223, h224, htg, hnh, hln, hcn, hhc, hss⟩ := hco2
  have hmk2 := hmk
  obtain ⟨m0, th, rd, er, h225, hth, hrd, her⟩ := hmk2
  have hsr2 := hsr
  obtain ⟨s0, px, pp, ls, gr, ea, pl, rt, h229, hsea, hspl, hsrt⟩ := hsr2
  have hne := hcn.i.e0
  have hnt := hcn.i.e1
  have hnk := hcn.i.e2
  have h1 : E 1 = .inr (5, [.ref (ad 2), .ref (ad 3), .ref (ad 4), .ref (ad 5), .ref (ad 6), .ref (ad 7), .ref (ad 22), .int (nI ne), .int (r 3), .int (r 4), .int (r 5)]) := by have q := hst.o; rw [hcn.n0, hcn.r3, hcn.r4, hcn.r5] at q; exact q
  have h7 : E 7 = .inr (3, [.ref (ad 8), .ref (ad 9), .ref (ad 10), .ref (ad 11), .int (nI nt)]) := by have q := hst.t; rw [hcn.n1] at q; exact q
  have h22 : E 22 = .inr (3, [.ref (ad 23), .ref (ad 24), .ref (ad 25), .ref (ad 26), .int (nI nk)]) := by have q := hst.k; rw [hcn.n2] at q; exact q
  refine g_aload_n F (q := 1) (dk dX6_leaveOut 0 rfl) rfl rfl 0 rfl ?_
  refine g_getf F (q := 4) h0 rfl inX6 (by omega) (j := 0) (by decide) tq_240 rfl rfl (dk dX6_leaveOut 1 rfl) rfl ?_
  refine g_getf F (q := 7) h1 rfl inX5 (by omega) (j := 5) (by decide) tq_88 rfl rfl (dk dX6_leaveOut 2 rfl) rfl ?_
  refine g_iload_n F (q := 8) (dk dX6_leaveOut 3 rfl) rfl rfl 1 rfl ?_
  refine g_callVI F (q := 11) (av := [.int tt]) (st := []) (c_X3_has_a (x0 := tt) h7 (by first | assumption | decide | omega)) kv_X3_has tq_390 h7 rfl (by omega) ⟨rfl, rfl⟩ (by decide) ⟨Nat.le_refl _, Nat.le_refl _⟩ rfl rfl (Nat.le_of_ble_eq_true rfl) (dk dX6_leaveOut 4 rfl) rfl (fun r8 E8 hp8 => ?_)
  rcases hp8 with ⟨rfl, rfl, b8⟩ | ⟨rfl, rfl, b8⟩
  · obtain ⟨e, he, rfl⟩ := b8
    refine g_if_ne F (q := 14) (tgt := 16) (dk dX6_leaveOut 5 rfl) (by decide) rfl (fun _ => ?_) (fun h => absurd h (by decide))
    refine g_aload_n F (q := 17) (dk dX6_leaveOut 8 rfl) rfl rfl 0 rfl ?_
    refine g_aload_n F (q := 18) (dk dX6_leaveOut 9 rfl) rfl rfl 0 rfl ?_
    refine g_getf F (q := 21) h0 rfl inX6 (by omega) (j := 0) (by decide) tq_240 rfl rfl (dk dX6_leaveOut 10 rfl) rfl ?_
    refine g_getf F (q := 24) h1 rfl inX5 (by omega) (j := 4) (by decide) tq_85 rfl rfl (dk dX6_leaveOut 11 rfl) rfl ?_
    refine g_aload_n F (q := 25) (dk dX6_leaveOut 12 rfl) rfl rfl 0 rfl ?_
    refine g_getf F (q := 28) h0 rfl inX6 (by omega) (j := 0) (by decide) tq_240 rfl rfl (dk dX6_leaveOut 13 rfl) rfl ?_
    refine g_getf F (q := 31) h1 rfl inX5 (by omega) (j := 5) (by decide) tq_88 rfl rfl (dk dX6_leaveOut 14 rfl) rfl ?_
    refine g_getf F (q := 34) h7 rfl inX3 (by omega) (j := 4) (by decide) tq_60 rfl rfl (dk dX6_leaveOut 15 rfl) rfl ?_
    refine g_iload_n F (q := 35) (dk dX6_leaveOut 16 rfl) rfl rfl 1 rfl ?_
    refine g_iload_n F (q := 36) (dk dX6_leaveOut 17 rfl) rfl rfl 2 rfl ?_
    refine g_callVI F (q := 39) (av := [.ref (ad 6), .int (nI nt), .int (nI e), .int b]) (st := []) (c_X6_flag_b (nt := nt) (e := e) (b := b) hco hmk hsr (by first | assumption | decide | omega) (by first | assumption | decide | omega)) kv_X6_flag tq_523 h0 rfl (by omega) ⟨rfl, rfl⟩ (by decide) ⟨Nat.le_refl _, Nat.le_refl _⟩ rfl rfl (Nat.le_of_ble_eq_true rfl) (dk dX6_leaveOut 18 rfl) rfl (fun r36 E36 hp36 => ?_)
    obtain ⟨ne2_36, nt2_36, nk2_36, rfl, hBcore_36, hBmk_36, hBsr_36, hF36⟩ := hp36
    have hs := sLeave_f (r := r) he hnt hb
    refine hret (fLeave r nt e b).1 E36 _ _ (dk dX6_leaveOut 19 rfl) (nint _) ?_
    exact ⟨_, _, _, (by rw [hs]), (by rw [hs]; exact hBcore_36), hBmk_36, hBsr_36, (fun j hj => (hF36 j (by omega)))⟩
  · refine g_if_ne F (q := 14) (tgt := 16) (dk dX6_leaveOut 5 rfl) (by decide) rfl (fun h => absurd h (by decide)) (fun _ => ?_)
    refine g_iconst F (q := 15) (v := (-1)) (dk dX6_leaveOut 6 rfl) rfl (by decide) ?_
    have hs : sLeave r nt tt b = (-1, none) := if_pos b8
    refine hret (-1) E _ _ (dk dX6_leaveOut 7 rfl) (nint _) ?_
    exact ⟨ne, nt, nk, (by rw [hs]), (by rw [hs]; exact hco), hmk, hsr, (fun j _ => rfl)⟩
theorem kv_X6_leaveOut : KV yX6_leaveOut "ThumpEars" cX6_leaveOut 3 (some .int) 2 := ⟨tq_540, tq_541, tq_9, tq_542, by decide +kernel⟩
