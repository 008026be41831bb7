set_option maxHeartbeats 4000000 in
set_option maxRecDepth 100000 in
theorem law_run {l : Launch} {D : va_G} {cA : Nat → ClassId} {ad : Nat → Nat} {E : Nat → va_E} {X : GX} {b L : Nat} {xs : Nat → Int32} (F : Fr "ThumpEarsLaw" cL_law 6 D cA X) (S : Sc X b L xs) (hL : L ≤ 260) (hNW : NW X.2.2.1)
    (hret : ∀ (ad : Nat → Nat) (v : Int32) (E' : Nat → va_E) (pc : Nat) (lv : List (Nat × Value)), decode cL_law pc = .ok (.ireturn, 1) → narrow .boolean (.int v) = .int v → 1 = v → GG room_1 6 l D X 235 2550 235 ad E' pc lv [.int v]) : GG room_1 6 l D X 0 0 0 ad E 0 [(0, .ref b)] [] := by
  refine g_new F (q := 3) (ci := 6) (fs := [.null, .null, .int 0, .null, .null, .null, .null]) (C := RX6) (T := TX6) (N := 7) inX6 tyX6 tyX6_ok tq_18 tq_19 tq_9 rfl (fun j hj => by rcases (show j = 0 ∨ j = 1 ∨ j = 2 ∨ j = 3 ∨ j = 4 ∨ j = 5 ∨ j = 6 by omega) with rfl | rfl | rfl | rfl | rfl | rfl | rfl <;> rfl) (Nat.le_of_ble_eq_true rfl) (Nat.le_of_ble_eq_true rfl) (dk dL_law 0 rfl) rfl (fun ad1 E1 hA1 hB1 hN1 => ?_)
  refine (show GG room_1 6 l D X 1 7 1 ad1 E1 3 [(0, .ref b)] [.ref (ad1 0)] from ?_)
  refine g_dup F (q := 4) (dk dL_law 1 rfl) rfl rfl ?_
  refine g_callO F (q := 7) (n2 := 233) (mc := 232) (ms := 2493) (c_X6_init hN1) kn_X6_init hNW tq_20 ⟨rfl, rfl⟩ (by decide) ⟨(Nat.le_of_ble_eq_true rfl), (Nat.le_of_ble_eq_true rfl)⟩ (Nat.le_of_ble_eq_true rfl) (dk dL_law 2 rfl) rfl (fun ad2 E2 hp2 => ?_)
  obtain ⟨hA2, hB2, hT⟩ := hp2
  rw [← hA2 0 (by omega)]
  refine (show GG room_1 6 l D X 233 2500 233 ad2 E2 7 [(0, .ref b)] [.ref (ad2 0)] from ?_)
  refine g_astore_n F (q := 8) (lv' := [(1, .ref (ad2 0)), (0, .ref b)]) (dk dL_law 3 rfl) rfl rfl (Nat.le_of_ble_eq_true rfl) rfl ?_
  refine g_bipush F (q := 10) (v := 40) (dk dL_law 4 rfl) rfl (by decide) ?_
  refine g_newa F (q := 12) (at' := .int) (i := 0) (N := 40) (ty := .int) (a0 := (40, .inl (fun _ => 0))) tq_72 rfl rfl (fun c => rfl) (by decide) (by decide) (by decide) (Nat.le_of_ble_eq_true rfl) (Nat.le_of_ble_eq_true rfl) (dk dL_law 5 rfl) rfl (fun ad3 E3 hA3 hB3 hN3 => ?_)
  rw [← hA3 0 (by omega)]
  refine (show GG room_1 6 l D X 234 2540 234 ad3 E3 12 [(1, .ref (ad3 0)), (0, .ref b)] [.ref (ad3 233)] from ?_)
  have hT := hT.mv (fun j hj => hB3 j (by omega)) (fun j hj => hA3 j (by omega))
  refine g_astore_n F (q := 13) (lv' := [(2, .ref (ad3 233)), (1, .ref (ad3 0)), (0, .ref b)]) (dk dL_law 6 rfl) rfl rfl (Nat.le_of_ble_eq_true rfl) rfl ?_
  refine g_bipush F (q := 15) (v := 10) (dk dL_law 7 rfl) rfl (by decide) ?_
  refine g_newa F (q := 17) (at' := .int) (i := 0) (N := 10) (ty := .int) (a0 := (10, .inl (fun _ => 0))) tq_72 rfl rfl (fun c => rfl) (by decide) (by decide) (by decide) (Nat.le_of_ble_eq_true rfl) (Nat.le_of_ble_eq_true rfl) (dk dL_law 8 rfl) rfl (fun ad4 E4 hA4 hB4 hN4 => ?_)
  rw [← hA4 0 (by omega), ← hA4 233 (by omega)]
  refine (show GG room_1 6 l D X 235 2550 235 ad4 E4 17 [(2, .ref (ad4 233)), (1, .ref (ad4 0)), (0, .ref b)] [.ref (ad4 234)] from ?_)
  have hT := hT.mv (fun j hj => hB4 j (by omega)) (fun j hj => hA4 j (by omega))
  refine g_astore_n F (q := 18) (lv' := [(3, .ref (ad4 234)), (2, .ref (ad4 233)), (1, .ref (ad4 0)), (0, .ref b)]) (dk dL_law 9 rfl) rfl rfl (Nat.le_of_ble_eq_true rfl) rfl ?_
  have h233 : E4 233 = .inl (cA 0, 40, .inl (fun _ => 0)) := (hB4 233 (by omega)).trans hN3
  refine g_same (fun k _ => fixE_sm hT k) ?_
  have hQ := LQ_start hT h233 hN4
  refine g_aload_n F (q := 19) (dk dL_law 10 rfl) rfl rfl 2 rfl ?_
  refine g_bipush F (q := 21) (v := 100) (dk dL_law 11 rfl) rfl (by decide) ?_
  obtain ⟨r7, hs7, hN7⟩ := sB_ok (r := iRow) (ne := 0) (p := 100) (by decide) (by decide)
  refine h_VI F (av := [.int 100]) (st := []) (q_bury_s hQ hs7 hN7.1 (by omega) (b3 := (hN7.2.2 1 (by omega) (by omega)).trans rfl) (b4 := Nat.zero_le _) (b5 := (hN7.2.2 2 (by omega) (by omega)).trans rfl) (b6 := Nat.zero_le _)) kv_X6_bury tq_262 hQ.e0 ⟨rfl, rfl⟩ (by decide) ⟨(Nat.le_of_ble_eq_true rfl), (Nat.le_of_ble_eq_true rfl)⟩ rfl rfl (Nat.le_of_ble_eq_true rfl) (dk dL_law 12 rfl) rfl (fun E7 hQ7 => ?_)
  refine g_pop F (q := 25) (dk dL_law 13 rfl) rfl rfl ?_
  refine g_aload_n F (q := 26) (dk dL_law 14 rfl) rfl rfl 2 rfl ?_
  refine g_sipush F (q := 29) (v := 800) (dk dL_law 15 rfl) rfl (by decide) ?_
  obtain ⟨r8, hs8, hN8⟩ := sB_ok (r := r7) (ne := 1) (p := 800) (by decide) (by decide)
  refine h_VI F (av := [.int 800]) (st := []) (q_bury_s hQ7 hs8 hN8.1 (by omega) (b3 := (hN8.2.2 1 (by omega) (by omega)).trans ((hN7.2.2 1 (by omega) (by omega)).trans rfl)) (b4 := Nat.zero_le _) (b5 := (hN8.2.2 2 (by omega) (by omega)).trans ((hN7.2.2 2 (by omega) (by omega)).trans rfl)) (b6 := Nat.zero_le _)) kv_X6_bury tq_262 hQ7.e0 ⟨rfl, rfl⟩ (by decide) ⟨(Nat.le_of_ble_eq_true rfl), (Nat.le_of_ble_eq_true rfl)⟩ rfl rfl (Nat.le_of_ble_eq_true rfl) (dk dL_law 16 rfl) rfl (fun E8 hQ8 => ?_)
  refine g_pop F (q := 33) (dk dL_law 17 rfl) rfl rfl ?_
  refine g_iconst F (q := 34) (v := 0) (dk dL_law 18 rfl) rfl (by decide) ?_
  refine g_istore F (q := 36) (lv' := (4, .int 0) :: [(3, .ref (ad4 234)), (2, .ref (ad4 233)), (1, .ref (ad4 0)), (0, .ref b)]) (dk dL_law 19 rfl) rfl (Nat.le_of_ble_eq_true rfl) rfl ?_
  exact law_loop F S hL ⟨_, _, 0, 0, _, _, _, _, _, hQ8, fun m h => absurd h (Nat.not_lt_zero _), fun m h => absurd h (Nat.not_lt_zero _), fun m e h => absurd h (Nat.not_lt_zero _)⟩ (hret ad4)
