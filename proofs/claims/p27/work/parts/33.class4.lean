abbrev rm_X0_dropOldest : Room := { frames := 0, cells := 0, slots := 0, locals := 0 }
set_option maxHeartbeats 4000000 in
set_option maxRecDepth 100000 in
theorem c_X0_dropOldest {l : Launch} {D : va_G} {cA : Nat → ClassId} {ad : Nat → Nat} {E : Nat → va_E} {s : Int32} {tg : Nat → Nat} {vh : Nat → Nat → Nat → Int32}  (h73 : E 73 = .inr (0, [.ref (ad 74), .int s])) (h74 : E 74 = .inl (cA 4, 4, .inr (.inr (.inr (.inr (fun i => some (ad (tg i)))))))) (hhs : ∀ i, i < 4 → StA cA ad E (tg i) (vh i)) (htg : Tg tg) : CtV l D cA yX0_dropOldest cX0_dropOldest 3 rm_X0_dropOldest 235 ad E [.ref (ad 73)] (fun E' => E' 73 = .inr (0, [.ref (ad 74), .int 3]) ∧ E' 74 = .inl (cA 4, 4, .inr (.inr (.inr (.inr (fun i => some (ad ((rot tg) i))))))) ∧ ∀ j, (j ≠ 73 ∧ j ≠ 74) → E' j = E j) := by
  refine CtV.of (by decide +kernel) (Nat.le_of_ble_eq_true rfl) (fun X F hret => ?_)
  have F : Fr "ThumpEars$History" cX0_dropOldest 3 D cA X := F
  refine (show GG rm_X0_dropOldest 3 l D X 0 0 235 ad E 0 [(0, .ref (ad 73))] [] from ?_)
  have g0 := (htg 0 (by omega)).1
  have g1 := (htg 1 (by omega)).1
  have g2 := (htg 2 (by omega)).1
  have g3 := (htg 3 (by omega)).1
  refine g_aload_n F (q := 1) (dk dX0_dropOldest 0 rfl) rfl rfl 0 rfl ?_
  refine g_getf F (q := 4) h73 rfl inX0 (by omega) (j := 0) (by decide) tq_133 rfl rfl (dk dX0_dropOldest 1 rfl) rfl ?_
  refine g_iconst F (q := 5) (v := 0) (dk dX0_dropOldest 2 rfl) rfl (by decide) ?_
  refine g_aald4 F (q := 6) 0 h74 (by omega) rfl (by omega) (by decide) rfl (dk dX0_dropOldest 3 rfl) rfl ?_
  refine g_astore_n F (q := 7) (lv' := [(1, .ref (ad ((tg 0)))), (0, .ref (ad 73))]) (dk dX0_dropOldest 4 rfl) rfl rfl (Nat.le_of_ble_eq_true rfl) rfl ?_
  refine g_iconst F (q := 8) (v := 1) (dk dX0_dropOldest 5 rfl) rfl (by decide) ?_
  refine g_istore_n F (q := 9) (lv' := [(2, .int 1), (1, .ref (ad ((tg 0)))), (0, .ref (ad 73))]) (dk dX0_dropOldest 6 rfl) rfl rfl (Nat.le_of_ble_eq_true rfl) rfl ?_
  refine g_iload_n F (q := 10) (dk dX0_dropOldest 7 rfl) rfl rfl 0 rfl ?_
  refine g_iconst F (q := 11) (v := 4) (dk dX0_dropOldest 8 rfl) rfl (by decide) ?_
  refine g_icmp_ge F (q := 14) (tgt := 34) (dk dX0_dropOldest 9 rfl) (by decide) rfl (fun h => absurd h (by decide)) (fun _ => ?_)
  refine g_aload_n F (q := 15) (dk dX0_dropOldest 10 rfl) rfl rfl 2 rfl ?_
  refine g_getf F (q := 18) h73 rfl inX0 (by omega) (j := 0) (by decide) tq_133 rfl rfl (dk dX0_dropOldest 11 rfl) rfl ?_
  refine g_iload_n F (q := 19) (dk dX0_dropOldest 12 rfl) rfl rfl 0 rfl ?_
  refine g_iconst F (q := 20) (v := 1) (dk dX0_dropOldest 13 rfl) rfl (by decide) ?_
  refine g_isub F (q := 21) (dk dX0_dropOldest 14 rfl) rfl ?_
  refine g_sti (y := 0) (by decide) ?_
  refine g_aload_n F (q := 22) (dk dX0_dropOldest 15 rfl) rfl rfl 2 rfl ?_
  refine g_getf F (q := 25) h73 rfl inX0 (by omega) (j := 0) (by decide) tq_133 rfl rfl (dk dX0_dropOldest 16 rfl) rfl ?_
  refine g_iload_n F (q := 26) (dk dX0_dropOldest 17 rfl) rfl rfl 0 rfl ?_
  refine g_aald4 F (q := 27) 1 h74 (by omega) rfl (by omega) (by decide) rfl (dk dX0_dropOldest 18 rfl) rfl ?_
  have hc1 : E ((tg 1)) = .inr (5, [.ref (ad (((tg 1) + 1))), .ref (ad (((tg 1) + 2))), .ref (ad (((tg 1) + 3))), .ref (ad (((tg 1) + 4))), .ref (ad (((tg 1) + 5))), .ref (ad (((tg 1) + 6))), .ref (ad (((tg 1) + 21))), .int ((vh 1) 0 0), .int ((vh 1) 0 1), .int ((vh 1) 0 2), .int ((vh 1) 0 3)]) := (hhs 1 (by omega)).o
  refine g_aast4 F (q := 28) 0 h74 hc1 (by omega) (by omega) rfl (by omega) (by decide) (dk dX0_dropOldest 19 rfl) rfl (fun E27 hE27 hO27 => ?_)
  refine g_iinc F (q := 31) (v := 2) (lv' := [(2, .int 2), (1, .ref (ad ((tg 0)))), (0, .ref (ad 73))]) (dk dX0_dropOldest 20 rfl) rfl 0 rfl (by decide) (Nat.le_of_ble_eq_true rfl) rfl ?_
  refine g_goto F (tgt := 9) (dk dX0_dropOldest 21 rfl) (by decide) ?_
  refine g_iload_n F (q := 10) (dk dX0_dropOldest 7 rfl) rfl rfl 0 rfl ?_
  refine g_iconst F (q := 11) (v := 4) (dk dX0_dropOldest 8 rfl) rfl (by decide) ?_
  refine g_icmp_ge F (q := 14) (tgt := 34) (dk dX0_dropOldest 9 rfl) (by decide) rfl (fun h => absurd h (by decide)) (fun _ => ?_)
  refine g_aload_n F (q := 15) (dk dX0_dropOldest 10 rfl) rfl rfl 2 rfl ?_
  have hc2 := (hO27 73 (by omega)).trans h73
  refine g_getf F (q := 18) hc2 rfl inX0 (by omega) (j := 0) (by decide) tq_133 rfl rfl (dk dX0_dropOldest 11 rfl) rfl ?_
  refine g_iload_n F (q := 19) (dk dX0_dropOldest 12 rfl) rfl rfl 0 rfl ?_
  refine g_iconst F (q := 20) (v := 1) (dk dX0_dropOldest 13 rfl) rfl (by decide) ?_
  refine g_isub F (q := 21) (dk dX0_dropOldest 14 rfl) rfl ?_
  refine g_sti (y := 1) (by decide) ?_
  refine g_aload_n F (q := 22) (dk dX0_dropOldest 15 rfl) rfl rfl 2 rfl ?_
  refine g_getf F (q := 25) hc2 rfl inX0 (by omega) (j := 0) (by decide) tq_133 rfl rfl (dk dX0_dropOldest 16 rfl) rfl ?_
  refine g_iload_n F (q := 26) (dk dX0_dropOldest 17 rfl) rfl rfl 0 rfl ?_
  refine g_aald4 F (q := 27) 2 hE27 (by omega) rfl (by omega) (by decide) rfl (dk dX0_dropOldest 18 rfl) rfl ?_
  have hb3 : ∀ i, i < 4 → StA cA ad E27 (tg i) (vh i) := (fun i hi => (hhs i hi).fr (fun j h1 h2 => hO27 j (by have := (htg i hi).1; omega)))
  have hc4 : E27 ((tg 2)) = .inr (5, [.ref (ad (((tg 2) + 1))), .ref (ad (((tg 2) + 2))), .ref (ad (((tg 2) + 3))), .ref (ad (((tg 2) + 4))), .ref (ad (((tg 2) + 5))), .ref (ad (((tg 2) + 6))), .ref (ad (((tg 2) + 21))), .int ((vh 2) 0 0), .int ((vh 2) 0 1), .int ((vh 2) 0 2), .int ((vh 2) 0 3)]) := (hb3 2 (by omega)).o
  refine g_aast4 F (q := 28) 1 hE27 hc4 (by omega) (by omega) rfl (by omega) (by decide) (dk dX0_dropOldest 19 rfl) rfl (fun E27x hE27x hO27x => ?_)
  refine g_iinc F (q := 31) (v := 3) (lv' := [(2, .int 3), (1, .ref (ad ((tg 0)))), (0, .ref (ad 73))]) (dk dX0_dropOldest 20 rfl) rfl 0 rfl (by decide) (Nat.le_of_ble_eq_true rfl) rfl ?_
  refine g_goto F (tgt := 9) (dk dX0_dropOldest 21 rfl) (by decide) ?_
  refine g_iload_n F (q := 10) (dk dX0_dropOldest 7 rfl) rfl rfl 0 rfl ?_
  refine g_iconst F (q := 11) (v := 4) (dk dX0_dropOldest 8 rfl) rfl (by decide) ?_
  refine g_icmp_ge F (q := 14) (tgt := 34) (dk dX0_dropOldest 9 rfl) (by decide) rfl (fun h => absurd h (by decide)) (fun _ => ?_)
  refine g_aload_n F (q := 15) (dk dX0_dropOldest 10 rfl) rfl rfl 2 rfl ?_
  have hc5 := (hO27x 73 (by omega)).trans hc2
  refine g_getf F (q := 18) hc5 rfl inX0 (by omega) (j := 0) (by decide) tq_133 rfl rfl (dk dX0_dropOldest 11 rfl) rfl ?_
  refine g_iload_n F (q := 19) (dk dX0_dropOldest 12 rfl) rfl rfl 0 rfl ?_
  refine g_iconst F (q := 20) (v := 1) (dk dX0_dropOldest 13 rfl) rfl (by decide) ?_
  refine g_isub F (q := 21) (dk dX0_dropOldest 14 rfl) rfl ?_
  refine g_sti (y := 2) (by decide) ?_
  refine g_aload_n F (q := 22) (dk dX0_dropOldest 15 rfl) rfl rfl 2 rfl ?_
  refine g_getf F (q := 25) hc5 rfl inX0 (by omega) (j := 0) (by decide) tq_133 rfl rfl (dk dX0_dropOldest 16 rfl) rfl ?_
  refine g_iload_n F (q := 26) (dk dX0_dropOldest 17 rfl) rfl rfl 0 rfl ?_
  refine g_aald4 F (q := 27) 3 hE27x (by omega) rfl (by omega) (by decide) rfl (dk dX0_dropOldest 18 rfl) rfl ?_
  have hb6 : ∀ i, i < 4 → StA cA ad E27x (tg i) (vh i) := (fun i hi => (hb3 i hi).fr (fun j h1 h2 => hO27x j (by have := (htg i hi).1; omega)))
  have hc7 : E27x ((tg 3)) = .inr (5, [.ref (ad (((tg 3) + 1))), .ref (ad (((tg 3) + 2))), .ref (ad (((tg 3) + 3))), .ref (ad (((tg 3) + 4))), .ref (ad (((tg 3) + 5))), .ref (ad (((tg 3) + 6))), .ref (ad (((tg 3) + 21))), .int ((vh 3) 0 0), .int ((vh 3) 0 1), .int ((vh 3) 0 2), .int ((vh 3) 0 3)]) := (hb6 3 (by omega)).o
  refine g_aast4 F (q := 28) 2 hE27x hc7 (by omega) (by omega) rfl (by omega) (by decide) (dk dX0_dropOldest 19 rfl) rfl (fun E27xx hE27xx hO27xx => ?_)
  refine g_iinc F (q := 31) (v := 4) (lv' := [(2, .int 4), (1, .ref (ad ((tg 0)))), (0, .ref (ad 73))]) (dk dX0_dropOldest 20 rfl) rfl 0 rfl (by decide) (Nat.le_of_ble_eq_true rfl) rfl ?_
  refine g_goto F (tgt := 9) (dk dX0_dropOldest 21 rfl) (by decide) ?_
  refine g_iload_n F (q := 10) (dk dX0_dropOldest 7 rfl) rfl rfl 0 rfl ?_
  refine g_iconst F (q := 11) (v := 4) (dk dX0_dropOldest 8 rfl) rfl (by decide) ?_
  refine g_icmp_ge F (q := 14) (tgt := 34) (dk dX0_dropOldest 9 rfl) (by decide) rfl (fun _ => ?_) (fun h => absurd h (by decide))
  refine g_aload_n F (q := 35) (dk dX0_dropOldest 22 rfl) rfl rfl 2 rfl ?_
  have hc8 := (hO27xx 73 (by omega)).trans hc5
  refine g_getf F (q := 38) hc8 rfl inX0 (by omega) (j := 0) (by decide) tq_133 rfl rfl (dk dX0_dropOldest 23 rfl) rfl ?_
  refine g_iconst F (q := 39) (v := 3) (dk dX0_dropOldest 24 rfl) rfl (by decide) ?_
  refine g_aload_n F (q := 40) (dk dX0_dropOldest 25 rfl) rfl rfl 1 rfl ?_
  have hb9 : ∀ i, i < 4 → StA cA ad E27xx (tg i) (vh i) := (fun i hi => (hb6 i hi).fr (fun j h1 h2 => hO27xx j (by have := (htg i hi).1; omega)))
  have hc10 : E27xx ((tg 0)) = .inr (5, [.ref (ad (((tg 0) + 1))), .ref (ad (((tg 0) + 2))), .ref (ad (((tg 0) + 3))), .ref (ad (((tg 0) + 4))), .ref (ad (((tg 0) + 5))), .ref (ad (((tg 0) + 6))), .ref (ad (((tg 0) + 21))), .int ((vh 0) 0 0), .int ((vh 0) 0 1), .int ((vh 0) 0 2), .int ((vh 0) 0 3)]) := (hb9 0 (by omega)).o
  refine g_aast4 F (q := 41) 3 hE27xx hc10 (by omega) (by omega) rfl (by omega) (by decide) (dk dX0_dropOldest 26 rfl) rfl (fun E40 hE40 hO40 => ?_)
  refine g_aload_n F (q := 42) (dk dX0_dropOldest 27 rfl) rfl rfl 2 rfl ?_
  refine g_iconst F (q := 43) (v := 3) (dk dX0_dropOldest 28 rfl) rfl (by decide) ?_
  have hc11 := (hO40 73 (by omega)).trans hc8
  refine g_putf F (q := 46) (ty := .int) hc11 rfl inX0 tyX0 tyX0_ok nmX0 (by omega) (j := 1) (by decide) tq_134 rfl rfl (by decide +kernel) rfl rfl (Nat.le_of_ble_eq_true rfl) (dk dX0_dropOldest 29 rfl) rfl (fun E43 hE43 hO43 => ?_)
  have hE43 : E43 73 = .inr (0, [.ref (ad 74), .int 3]) := hE43
  have hc12 := (hO43 74 (by omega)).trans hE40
  refine hret E43 _ _ (dk dX0_dropOldest 30 rfl) ?_
  exact ⟨hE43, (by rw [rot_eq]; exact hc12), (fun j hj => (((((hO43 j (by omega)).trans (hO40 j (by omega))).trans (hO27xx j (by omega))).trans (hO27x j (by omega))).trans (hO27 j (by omega))))⟩
theorem kv_X0_dropOldest : KV yX0_dropOldest "ThumpEars$History" cX0_dropOldest 3 (none) 0 := ⟨tq_274, tq_275, tq_12, tq_276, by decide +kernel⟩
abbrev rm_X0_push : Room := { frames := 3, cells := 0, slots := 0, locals := 83 }
set_option maxHeartbeats 4000000 in
set_option maxRecDepth 100000 in
theorem c_X0_push {l : Launch} {D : va_G} {cA : Nat → ClassId} {ad : Nat → Nat} {E : Nat → va_E} {nh : Nat} {tg : Nat → Nat} {vh : Nat → Nat → Nat → Int32} {v : Nat → Nat → Int32}  (h73 : E 73 = .inr (0, [.ref (ad 74), .int (nI nh)])) (h74 : E 74 = .inl (cA 4, 4, .inr (.inr (.inr (.inr (fun i => some (ad (tg i)))))))) (hhs : ∀ i, i < 4 → StA cA ad E (tg i) (vh i)) (hst : StA cA ad E 1 v) (htg : Tg tg) (hnh : nh ≤ 4) (hz4 : Bz (v 4)) (hz5 : Bz (v 5)) : CtV l D cA yX0_push cX0_push 2 rm_X0_push 235 ad E [.ref (ad 73), .ref (ad 1)] (fun E' => ∃ (wv : Nat → Nat → Int32), E' 73 = .inr (0, [.ref (ad 74), .int (nI ((nup nh)))]) ∧ E' 74 = .inl (cA 4, 4, .inr (.inr (.inr (.inr (fun i => some (ad ((pRot nh tg) i))))))) ∧ (∀ i, i < 4 → StA cA ad E' ((pRot nh tg) i) ((va_up (pRot nh vh) (pAt nh) wv) i)) ∧ (vEq wv v) ∧ ∀ j, (j < 73 ∨ 219 ≤ j) → E' j = E j) := by
  refine CtV.of (by decide +kernel) (Nat.le_of_ble_eq_true rfl) (fun X F hret => ?_)
  have F : Fr "ThumpEars$History" cX0_push 2 D cA X := F
  refine (show GG rm_X0_push 2 l D X 0 0 235 ad E 0 [(0, .ref (ad 73)), (1, .ref (ad 1))] [] from ?_)
  refine g_aload_n F (q := 1) (dk dX0_push 0 rfl) rfl rfl 0 rfl ?_
  refine g_getf F (q := 4) h73 rfl inX0 (by omega) (j := 1) (by decide) tq_134 rfl rfl (dk dX0_push 1 rfl) rfl ?_
  refine g_iconst F (q := 5) (v := 4) (dk dX0_push 2 rfl) rfl (by decide) ?_
  refine g_icmp_lt F (q := 8) (tgt := 12) (dk dX0_push 3 rfl) (by decide) rfl (fun c5 => ?_) (fun c5 => ?_)
  · have nc5 : nh < 4 := (nI_ltI (a := nh) (b := 4) (by omega) (by omega)).mp c5
    refine g_aload_n F (q := 13) (dk dX0_push 6 rfl) rfl rfl 0 rfl ?_
    refine g_getf F (q := 16) h73 rfl inX0 (by omega) (j := 0) (by decide) tq_133 rfl rfl (dk dX0_push 7 rfl) rfl ?_
    refine g_aload_n F (q := 17) (dk dX0_push 8 rfl) rfl rfl 0 rfl ?_
    refine g_getf F (q := 20) h73 rfl inX0 (by omega) (j := 1) (by decide) tq_134 rfl rfl (dk dX0_push 9 rfl) rfl ?_
    refine g_aald4 F (q := 21) nh h74 (by omega) rfl (by omega) (by decide) rfl (dk dX0_push 10 rfl) rfl ?_
    refine g_aload_n F (q := 22) (dk dX0_push 11 rfl) rfl rfl 1 rfl ?_
    have gn := (htg nh (by omega)).1
    have hc1 : E ((tg nh)) = .inr (5, [.ref (ad (((tg nh) + 1))), .ref (ad (((tg nh) + 2))), .ref (ad (((tg nh) + 3))), .ref (ad (((tg nh) + 4))), .ref (ad (((tg nh) + 5))), .ref (ad (((tg nh) + 6))), .ref (ad (((tg nh) + 21))), .int ((vh nh) 0 0), .int ((vh nh) 0 1), .int ((vh nh) 0 2), .int ((vh nh) 0 3)]) := (hhs nh (by omega)).o
    refine g_callVV F (q := 25) (av := [.ref (ad 1)]) (st := []) (c_X5_copyFrom (b := (tg nh)) (o := 1) (hhs nh (by omega)) hst (by first | assumption | decide | omega) (by first | assumption | decide | omega) (by first | assumption | decide | omega) (by first | assumption | decide | omega) (by first | assumption | decide | omega)) kv_X5_copyFrom tq_277 hc1 rfl (by omega) ⟨rfl, rfl⟩ (by decide) ⟨Nat.le_refl _, Nat.le_refl _⟩ rfl rfl (Nat.le_of_ble_eq_true rfl) (dk dX0_push 12 rfl) rfl (fun E22 hp22 => ?_)
    obtain ⟨wv_22, hBsw_22, hq_22, hF22⟩ := hp22
    have hs2 := hs_put htg (m := nh) (by omega) hhs hBsw_22 hF22
    refine g_aload_n F (q := 26) (dk dX0_push 13 rfl) rfl rfl 0 rfl ?_
    refine g_dup F (q := 27) (dk dX0_push 14 rfl) rfl rfl ?_
    have hc2 := (hF22 73 (by omega)).trans h73
    refine g_getf F (q := 30) hc2 rfl inX0 (by omega) (j := 1) (by decide) tq_134 rfl rfl (dk dX0_push 15 rfl) rfl ?_
    refine g_iconst F (q := 31) (v := 1) (dk dX0_push 16 rfl) rfl (by decide) ?_
    refine g_iadd F (q := 32) (dk dX0_push 17 rfl) rfl ?_
    refine g_sti (nA rfl rfl) ?_
    refine g_putf F (q := 35) (ty := .int) hc2 rfl inX0 tyX0 tyX0_ok nmX0 (by omega) (j := 1) (by decide) tq_134 rfl rfl (by decide +kernel) rfl rfl (Nat.le_of_ble_eq_true rfl) (dk dX0_push 18 rfl) rfl (fun E32 hE32 hO32 => ?_)
    have hE32 : E32 73 = .inr (0, [.ref (ad 74), .int (nI ((nh + 1)))]) := hE32
    have e1 : nup nh = nh + 1 := if_neg (by omega)
    have e2 : pAt nh = nh := if_neg (by omega)
    have e3 : pRot nh tg = tg := if_neg (by omega)
    have e4 : pRot nh vh = vh := if_neg (by omega)
    have hc3 := (hF22 74 (by omega)).trans h74
    have hc4 := (hO32 74 (by omega)).trans hc3
    have hb5 : ∀ i, i < 4 → StA cA ad E32 (tg i) ((va_up vh nh wv_22) i) := (fun i hi => (hs2 i hi).fr (fun j h1 h2 => hO32 j (by have := (htg i hi).1; omega)))
    refine hret E32 _ _ (dk dX0_push 19 rfl) ?_
    exact ⟨wv_22, (by rw [e1]; exact hE32), (by rw [e3]; exact hc4), (by rw [e3, e4, e2]; exact hb5), hq_22, (fun j hj => ((hO32 j (by omega)).trans (hF22 j (by omega))))⟩
  · have nc5 : ¬ nh < 4 := fun h => c5 ((nI_ltI (a := nh) (b := 4) (by omega) (by omega)).mpr h)
    refine g_aload_n F (q := 9) (dk dX0_push 4 rfl) rfl rfl 0 rfl ?_
    refine g_callVV F (q := 12) (av := []) (st := []) (c_X0_dropOldest h73 h74 hhs (by first | assumption | decide | omega)) kv_X0_dropOldest tq_273 h73 rfl (by omega) ⟨rfl, rfl⟩ (by decide) ⟨Nat.le_refl _, Nat.le_refl _⟩ rfl rfl (Nat.le_of_ble_eq_true rfl) (dk dX0_push 5 rfl) rfl (fun E9 hp9 => ?_)
    obtain ⟨hK73_9, hK74_9, hF9⟩ := hp9
    have hb6 : ∀ i, i < 4 → StA cA ad E9 (tg i) (vh i) := (fun i hi => (hhs i hi).fr (fun j h1 h2 => hF9 j (by have := (htg i hi).1; omega)))
    have hhr := hs_rot hb6
    have htg := htg.rot
    have gn := (htg 3 (by omega)).1
    refine g_aload_n F (q := 13) (dk dX0_push 6 rfl) rfl rfl 0 rfl ?_
    refine g_getf F (q := 16) hK73_9 rfl inX0 (by omega) (j := 0) (by decide) tq_133 rfl rfl (dk dX0_push 7 rfl) rfl ?_
    refine g_aload_n F (q := 17) (dk dX0_push 8 rfl) rfl rfl 0 rfl ?_
    refine g_getf F (q := 20) hK73_9 rfl inX0 (by omega) (j := 1) (by decide) tq_134 rfl rfl (dk dX0_push 9 rfl) rfl ?_
    refine g_aald4 F (q := 21) 3 hK74_9 (by omega) rfl (by omega) (by decide) rfl (dk dX0_push 10 rfl) rfl ?_
    refine g_aload_n F (q := 22) (dk dX0_push 11 rfl) rfl rfl 1 rfl ?_
    have hb7 := hst.fr (fun j h1 h2 => hF9 j (by omega))
    have hc8 : E9 (((rot tg) 3)) = .inr (5, [.ref (ad ((((rot tg) 3) + 1))), .ref (ad ((((rot tg) 3) + 2))), .ref (ad ((((rot tg) 3) + 3))), .ref (ad ((((rot tg) 3) + 4))), .ref (ad ((((rot tg) 3) + 5))), .ref (ad ((((rot tg) 3) + 6))), .ref (ad ((((rot tg) 3) + 21))), .int (((rot vh) 3) 0 0), .int (((rot vh) 3) 0 1), .int (((rot vh) 3) 0 2), .int (((rot vh) 3) 0 3)]) := (hhr 3 (by omega)).o
    refine g_callVV F (q := 25) (av := [.ref (ad 1)]) (st := []) (c_X5_copyFrom (b := ((rot tg) 3)) (o := 1) (hhr 3 (by omega)) hb7 (by first | assumption | decide | omega) (by first | assumption | decide | omega) (by first | assumption | decide | omega) (by first | assumption | decide | omega) (by first | assumption | decide | omega)) kv_X5_copyFrom tq_277 hc8 rfl (by omega) ⟨rfl, rfl⟩ (by decide) ⟨Nat.le_refl _, Nat.le_refl _⟩ rfl rfl (Nat.le_of_ble_eq_true rfl) (dk dX0_push 12 rfl) rfl (fun E22 hp22 => ?_)
    obtain ⟨wv_22, hBsw_22, hq_22, hF22⟩ := hp22
    have hs2 := hs_put htg (m := 3) (by omega) hhr hBsw_22 hF22
    refine g_aload_n F (q := 26) (dk dX0_push 13 rfl) rfl rfl 0 rfl ?_
    refine g_dup F (q := 27) (dk dX0_push 14 rfl) rfl rfl ?_
    have hc9 := (hF22 73 (by omega)).trans hK73_9
    refine g_getf F (q := 30) hc9 rfl inX0 (by omega) (j := 1) (by decide) tq_134 rfl rfl (dk dX0_push 15 rfl) rfl ?_
    refine g_iconst F (q := 31) (v := 1) (dk dX0_push 16 rfl) rfl (by decide) ?_
    refine g_iadd F (q := 32) (dk dX0_push 17 rfl) rfl ?_
    refine g_putf F (q := 35) (ty := .int) hc9 rfl inX0 tyX0 tyX0_ok nmX0 (by omega) (j := 1) (by decide) tq_134 rfl rfl (by decide +kernel) rfl rfl (Nat.le_of_ble_eq_true rfl) (dk dX0_push 18 rfl) rfl (fun E32 hE32 hO32 => ?_)
    have hE32 : E32 73 = .inr (0, [.ref (ad 74), .int (3 + 1)]) := hE32
    have e1 : nup nh = 4 := if_pos (by omega)
    have e2 : pAt nh = 3 := if_pos (by omega)
    have e3 : pRot nh tg = rot tg := if_pos (by omega)
    have e4 : pRot nh vh = rot vh := if_pos (by omega)
    have hc10 := (hF22 74 (by omega)).trans hK74_9
    have hc11 := (hO32 74 (by omega)).trans hc10
    have hb12 : ∀ i, i < 4 → StA cA ad E32 ((rot tg) i) ((va_up (rot vh) 3 wv_22) i) := (fun i hi => (hs2 i hi).fr (fun j h1 h2 => hO32 j (by have := (htg i hi).1; omega)))
    refine hret E32 _ _ (dk dX0_push 19 rfl) ?_
    exact ⟨wv_22, (by rw [e1]; exact hE32), (by rw [e3]; exact hc11), (by rw [e3, e4, e2]; exact hb12), hq_22, (fun j hj => (((hO32 j (by omega)).trans (hF22 j (by omega))).trans (hF9 j (by omega))))⟩
theorem kv_X0_push : KV yX0_push "ThumpEars$History" cX0_push 2 (none) 1 := ⟨tq_270, tq_271, tq_12, tq_272, by decide +kernel⟩
abbrev rm_X0_popInto : Room := { frames := 3, cells := 0, slots := 0, locals := 83 }
set_option maxHeartbeats 4000000 in
set_option maxRecDepth 100000 in
theorem c_X0_popInto {l : Launch} {D : va_G} {cA : Nat → ClassId} {ad : Nat → Nat} {E : Nat → va_E} {nh : Nat} {tg : Nat → Nat} {vh : Nat → Nat → Nat → Int32} {v : Nat → Nat → Int32}  (h73 : E 73 = .inr (0, [.ref (ad 74), .int (nI nh)])) (h74 : E 74 = .inl (cA 4, 4, .inr (.inr (.inr (.inr (fun i => some (ad (tg i)))))))) (hhs : ∀ i, i < 4 → StA cA ad E (tg i) (vh i)) (hst : StA cA ad E 1 v) (htg : Tg tg) (hnh : nh ≤ 4) (h0 : 0 < nh) (hzh : ∀ i, i < nh → Bz (vh i 4) ∧ Bz (vh i 5)) : CtV l D cA yX0_popInto cX0_popInto 2 rm_X0_popInto 235 ad E [.ref (ad 73), .ref (ad 1)] (fun E' => ∃ (wv : Nat → Nat → Int32), E' 73 = .inr (0, [.ref (ad 74), .int (nI ((nh - 1)))]) ∧ (StA cA ad E' 1 wv) ∧ (vEq wv (vh (nh - 1))) ∧ ∀ j, ((j < 1 ∨ 37 ≤ j) ∧ j ≠ 73) → E' j = E j) := by
  refine CtV.of (by decide +kernel) (Nat.le_of_ble_eq_true rfl) (fun X F hret => ?_)
  have F : Fr "ThumpEars$History" cX0_popInto 2 D cA X := F
  refine (show GG rm_X0_popInto 2 l D X 0 0 235 ad E 0 [(0, .ref (ad 73)), (1, .ref (ad 1))] [] from ?_)
  have gn := (htg (nh - 1) (by omega)).1
  refine g_aload_n F (q := 1) (dk dX0_popInto 0 rfl) rfl rfl 0 rfl ?_
  refine g_dup F (q := 2) (dk dX0_popInto 1 rfl) rfl rfl ?_
  refine g_getf F (q := 5) h73 rfl inX0 (by omega) (j := 1) (by decide) tq_134 rfl rfl (dk dX0_popInto 2 rfl) rfl ?_
  refine g_iconst F (q := 6) (v := 1) (dk dX0_popInto 3 rfl) rfl (by decide) ?_
  refine g_isub F (q := 7) (dk dX0_popInto 4 rfl) rfl ?_
  refine g_sti (y := (nI ((nh - 1)))) (nI_sub1 h0) ?_
  refine g_putf F (q := 10) (ty := .int) h73 rfl inX0 tyX0 tyX0_ok nmX0 (by omega) (j := 1) (by decide) tq_134 rfl rfl (by decide +kernel) rfl rfl (Nat.le_of_ble_eq_true rfl) (dk dX0_popInto 5 rfl) rfl (fun E7 hE7 hO7 => ?_)
  have hE7 : E7 73 = .inr (0, [.ref (ad 74), .int (nI ((nh - 1)))]) := hE7
  refine g_aload_n F (q := 11) (dk dX0_popInto 6 rfl) rfl rfl 1 rfl ?_
  refine g_aload_n F (q := 12) (dk dX0_popInto 7 rfl) rfl rfl 0 rfl ?_
  refine g_getf F (q := 15) hE7 rfl inX0 (by omega) (j := 0) (by decide) tq_133 rfl rfl (dk dX0_popInto 8 rfl) rfl ?_
  refine g_aload_n F (q := 16) (dk dX0_popInto 9 rfl) rfl rfl 0 rfl ?_
  refine g_getf F (q := 19) hE7 rfl inX0 (by omega) (j := 1) (by decide) tq_134 rfl rfl (dk dX0_popInto 10 rfl) rfl ?_
  have hc1 := (hO7 74 (by omega)).trans h74
  refine g_aald4 F (q := 20) ((nh - 1)) hc1 (by omega) rfl (by omega) (by decide) rfl (dk dX0_popInto 11 rfl) rfl ?_
  have hb2 := hst.fr (fun j h1 h2 => hO7 j (by omega))
  have hb3 : ∀ i, i < 4 → StA cA ad E7 (tg i) (vh i) := (fun i hi => (hhs i hi).fr (fun j h1 h2 => hO7 j (by have := (htg i hi).1; omega)))
  have hc4 : E7 1 = .inr (5, [.ref (ad 2), .ref (ad 3), .ref (ad 4), .ref (ad 5), .ref (ad 6), .ref (ad 7), .ref (ad 22), .int (v 0 0), .int (v 0 1), .int (v 0 2), .int (v 0 3)]) := hb2.o
  refine g_callVV F (q := 23) (av := [.ref (ad ((tg ((nh - 1)))))]) (st := []) (c_X5_copyFrom (b := 1) (o := (tg ((nh - 1)))) hb2 (hb3 (nh - 1) (by omega)) (hzh (nh - 1) (by omega)).1 (hzh (nh - 1) (by omega)).2 (by first | assumption | decide | omega) (by first | assumption | decide | omega) (by first | assumption | decide | omega)) kv_X5_copyFrom tq_277 hc4 rfl (by omega) ⟨rfl, rfl⟩ (by decide) ⟨Nat.le_refl _, Nat.le_refl _⟩ rfl rfl (Nat.le_of_ble_eq_true rfl) (dk dX0_popInto 12 rfl) rfl (fun E20 hp20 => ?_)
  obtain ⟨wv_20, hBsw_20, hq_20, hF20⟩ := hp20
  have hc5 := (hF20 73 (by omega)).trans hE7
  refine hret E20 _ _ (dk dX0_popInto 13 rfl) ?_
  exact ⟨wv_20, hc5, hBsw_20, hq_20, (fun j hj => ((hF20 j (by omega)).trans (hO7 j (by omega))))⟩
theorem kv_X0_popInto : KV yX0_popInto "ThumpEars$History" cX0_popInto 2 (none) 1 := ⟨tq_619, tq_620, tq_12, tq_621, by decide +kernel⟩
