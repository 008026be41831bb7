def cellV (xs : Nat → Int32) (L k : Nat) : Int32 := if k < L then xs k else 14710021 * nI k + 14503
abbrev rm_L_cell : Room := { frames := 0, cells := 0, slots := 0, locals := 0 }
set_option maxHeartbeats 4000000 in
set_option maxRecDepth 100000 in
theorem c_L_cell {l : Launch} {D : va_G} {cA : Nat → ClassId} {b L kk : Nat} {xs : Nat → Int32} (hk : kk < 100) (hL : L ≤ 260) : CtX l D cA yL_cell cL_cell 2 rm_L_cell b L xs [.ref b, .int (nI kk)] (cellV xs L kk) := by
  refine CtX.of (by decide +kernel) (Nat.le_of_ble_eq_true rfl) (fun X F S hret => ?_)
  have F : Fr "ThumpEarsLaw" cL_cell 2 D cA X := F
  refine (show GG rm_L_cell 2 l D X 0 0 0 (fun _ => 0) (fun _ => .inl (0, 0, .inl (fun _ => 0))) 0 [(0, .ref b), (1, .int (nI kk))] [] from ?_)
  refine g_iload_n F (q := 1) (dk dL_cell 0 rfl) rfl rfl 1 rfl ?_
  refine g_aload_n F (q := 2) (dk dL_cell 1 rfl) rfl rfl 0 rfl ?_
  refine g_slen F S (q := 3) (dk dL_cell 2 rfl) rfl ?_
  refine g_icmp_ge F (q := 6) (tgt := 12) (dk dL_cell 3 rfl) (by decide) rfl (fun h => ?_) (fun h => ?_)
  · have h2 : ¬ kk < L := Nat.not_lt.mpr ((nI_leI (a := L) (b := kk) (by omega) (by omega)).mp h)
    refine g_ldc F (q := 14) (v := 14710021) (dk dL_cell 8 rfl) rfl tq_375 ?_
    refine g_iload_n F (q := 15) (dk dL_cell 9 rfl) rfl rfl 1 rfl ?_
    refine g_imul F (q := 16) (dk dL_cell 10 rfl) rfl ?_
    refine g_sipush F (q := 19) (v := 14503) (dk dL_cell 11 rfl) rfl (by decide) ?_
    refine g_iadd F (q := 20) (dk dL_cell 12 rfl) rfl ?_
    refine g_sti (y := cellV xs L kk) (if_neg h2).symm ?_
    exact hret 20 _ (dk dL_cell 13 rfl)
  · have h2 : kk < L := Nat.not_le.mp (fun q => h ((nI_leI (a := L) (b := kk) (by omega) (by omega)).mpr q))
    refine g_aload_n F (q := 7) (dk dL_cell 4 rfl) rfl rfl 0 rfl ?_
    refine g_iload_n F (q := 8) (dk dL_cell 5 rfl) rfl rfl 1 rfl ?_
    refine g_sld F S (q := 9) h2 (by omega) rfl (dk dL_cell 6 rfl) rfl ?_
    refine g_goto F (tgt := 20) (dk dL_cell 7 rfl) (by decide) ?_
    refine g_sti (y := cellV xs L kk) (if_pos h2).symm ?_
    exact hret 20 _ (dk dL_cell 13 rfl)
theorem ks_L_cell : KS yL_cell "ThumpEarsLaw" cL_cell 2 (some .int) 2 := ⟨tq_373, tq_8, tq_374, by decide +kernel⟩
set_option maxHeartbeats 4000000 in
set_option maxRecDepth 100000 in
theorem law_loop {l : Launch} {D : va_G} {cA : Nat → ClassId} {ad : Nat → Nat} {E : Nat → va_E} {X : GX} {b L : Nat} {xs : Nat → Int32} (F : Fr "ThumpEarsLaw" cL_law 6 D cA X) (S : Sc X b L xs) (hL : L ≤ 260) (hLI0 : LI cA ad E)
    (hret : ∀ (v : Int32) (E' : Nat → va_E) (pc : Nat) (lv : List (Nat × Value)), decode cL_law pc = .ok (.ireturn, 1) → narrow .boolean (.int v) = .int v → 1 = v → GG room_1 6 l D X 235 2550 235 ad E' pc lv [.int v]) : GG room_1 6 l D X 235 2550 235 ad E 36 [(4, .int 0), (3, .ref (ad 234)), (2, .ref (ad 233)), (1, .ref (ad 0)), (0, .ref b)] [] := by
  have K36 : ∀ (fu : Nat) (i : Nat) (E1 : Nat → va_E), 40 - i < fu → (hLI : LI cA ad E1) → (hi : i ≤ 40) → GG room_1 6 l D X 235 2550 235 ad E1 36 [(0, .ref b), (1, .ref (ad 0)), (2, .ref (ad 233)), (3, .ref (ad 234)), (4, .int (nI i))] [] := by
    intro fu
    induction fu with
    | zero => intro i E1 hfu_; exact absurd hfu_ (Nat.not_lt_zero _)
    | succ fu ih =>
      intro i E1 hfu_ hLI hi
      obtain ⟨r, ne, nt, nk, nh, ln, txt, d, ps, hQ, hD, hP, hB⟩ := hLI
      have hV := hQ.i
      have h0 := hV.e0
      have h1 := hV.e1
      have h2 := hV.e2
      refine g_iload F (q := 38) (dk dL_law 20 rfl) rfl 4 rfl ?_
      refine g_bipush F (q := 40) (v := 40) (dk dL_law 21 rfl) rfl (by decide) ?_
      refine g_icmp_ge F (q := 43) (tgt := 145) (dk dL_law 22 rfl) (by decide) rfl (fun c40 => ?_) (fun c40 => ?_)
      · have nc40 : 40 ≤ i := (nI_leI (a := 40) (b := i) (by omega) (by omega)).mp c40
        refine g_aload_n F (q := 146) (dk dL_law 82 rfl) rfl rfl 1 rfl ?_
        refine h_SI F (av := [.ref (ad 0)]) (st := []) (CQ.of (c_L_errors hQ)) ks_L_errors tq_575 ⟨rfl, rfl⟩ (by decide) ⟨(Nat.le_of_ble_eq_true rfl), (Nat.le_of_ble_eq_true rfl)⟩ rfl rfl (Nat.le_of_ble_eq_true rfl) (dk dL_law 83 rfl) rfl (fun E146 hQ146 => ?_)
        refine hret 1 E146 _ _ (dk dL_law 84 rfl) rfl ?_
        rfl
      · have nc40 : ¬ 40 ≤ i := fun h => c40 ((nI_leI (a := 40) (b := i) (by omega) (by omega)).mpr h)
        refine g_aload_n F (q := 44) (dk dL_law 23 rfl) rfl rfl 0 rfl ?_
        refine g_iconst F (q := 45) (v := 2) (dk dL_law 24 rfl) rfl (by decide) ?_
        refine g_iload F (q := 47) (dk dL_law 25 rfl) rfl 4 rfl ?_
        refine g_imul F (q := 48) (dk dL_law 26 rfl) rfl ?_
        refine g_sti (y := (nI ((2 * i)))) (nM rfl rfl) ?_
        refine h_X F S (av := [.ref b, .int (nI ((2 * i)))]) (st := []) (c_L_cell (kk := (2 * i)) (show (2 * i) < 100 by omega) hL) ks_L_cell tq_372 ⟨rfl, rfl⟩ (by decide) ⟨(Nat.le_of_ble_eq_true rfl), (Nat.le_of_ble_eq_true rfl)⟩ rfl rfl (Nat.le_of_ble_eq_true rfl) (dk dL_law 27 rfl) rfl ?_
        refine g_topi (fun gg egg => ?_)
        refine g_istore F (q := 53) (lv' := [(5, .int gg), (0, .ref b), (1, .ref (ad 0)), (2, .ref (ad 233)), (3, .ref (ad 234)), (4, .int (nI i))]) (dk dL_law 28 rfl) rfl (Nat.le_of_ble_eq_true rfl) rfl ?_
        refine g_aload_n F (q := 54) (dk dL_law 29 rfl) rfl rfl 2 rfl ?_
        refine g_aload_n F (q := 55) (dk dL_law 30 rfl) rfl rfl 3 rfl ?_
        refine g_aload_n F (q := 56) (dk dL_law 31 rfl) rfl rfl 4 rfl ?_
        refine g_iload F (q := 58) (dk dL_law 32 rfl) rfl 0 rfl ?_
        refine g_aload_n F (q := 59) (dk dL_law 33 rfl) rfl rfl 1 rfl ?_
        refine g_iconst F (q := 60) (v := 2) (dk dL_law 34 rfl) rfl (by decide) ?_
        refine g_iload F (q := 62) (dk dL_law 35 rfl) rfl 5 rfl ?_
        refine g_imul F (q := 63) (dk dL_law 36 rfl) rfl ?_
        refine g_sti (y := (nI ((2 * i)))) (nM rfl rfl) ?_
        refine g_iconst F (q := 64) (v := 1) (dk dL_law 37 rfl) rfl (by decide) ?_
        refine g_iadd F (q := 65) (dk dL_law 38 rfl) rfl ?_
        refine g_sti (y := (nI ((2 * i + 1)))) (nI_1 _) ?_
        refine h_X F S (av := [.ref b, .int (nI ((2 * i + 1)))]) (st := [.int gg, .ref (ad 234), .ref (ad 233), .ref (ad 0)]) (c_L_cell (kk := (2 * i + 1)) (show (2 * i + 1) < 100 by omega) hL) ks_L_cell tq_372 ⟨rfl, rfl⟩ (by decide) ⟨(Nat.le_of_ble_eq_true rfl), (Nat.le_of_ble_eq_true rfl)⟩ rfl rfl (Nat.le_of_ble_eq_true rfl) (dk dL_law 39 rfl) rfl ?_
        refine h_SI F (av := [.ref (ad 0), .ref (ad 233), .ref (ad 234), .int gg, .int (cellV xs L ((2 * i + 1)))]) (st := []) (CQ.of (c_L_acts hQ hD hP hB)) ks_L_acts tq_512 ⟨rfl, rfl⟩ (by decide) ⟨(Nat.le_of_ble_eq_true rfl), (Nat.le_of_ble_eq_true rfl)⟩ rfl rfl (Nat.le_of_ble_eq_true rfl) (dk dL_law 40 rfl) rfl (fun E68 hQ68 => ?_)
        obtain ⟨r, ne, nt, nk, nh, ln, txt, d, ps, hQ, hD, hP, hB⟩ := hQ68
        have hV := hQ.i
        have h0 := hV.e0
        have h1 := hV.e1
        have h2 := hV.e2
        refine g_if_eq F (q := 74) (tgt := 86) (dk dL_law 41 rfl) (by decide) rfl (fun h => absurd h (by decide)) (fun _ => ?_)
        refine g_aload_n F (q := 75) (dk dL_law 42 rfl) rfl rfl 2 rfl ?_
        refine g_aload_n F (q := 76) (dk dL_law 43 rfl) rfl rfl 3 rfl ?_
        refine g_iload F (q := 78) (dk dL_law 44 rfl) rfl 0 rfl ?_
        refine g_iconst F (q := 79) (v := 3) (dk dL_law 45 rfl) rfl (by decide) ?_
        refine g_ishr F (q := 80) (dk dL_law 46 rfl) rfl ?_
        refine h_SI F (av := [.ref (ad 0), .ref (ad 233), .int (gg >>> (3 &&& 31))]) (st := []) (CQ.of (c_L_ears hQ hD)) ks_L_ears tq_380 ⟨rfl, rfl⟩ (by decide) ⟨(Nat.le_of_ble_eq_true rfl), (Nat.le_of_ble_eq_true rfl)⟩ rfl rfl (Nat.le_of_ble_eq_true rfl) (dk dL_law 47 rfl) rfl (fun E80 hQ80 => ?_)
        refine g_if_ne F (q := 86) (tgt := 88) (dk dL_law 48 rfl) (by decide) rfl (fun _ => ?_) (fun h => absurd h (by decide))
        refine g_iload F (q := 90) (dk dL_law 51 rfl) rfl 5 rfl ?_
        refine g_iconst F (q := 91) (v := 4) (dk dL_law 52 rfl) rfl (by decide) ?_
        refine g_irem F (q := 92) (dk dL_law 53 rfl) rfl (by decide) ?_
        refine g_iconst F (q := 93) (v := 3) (dk dL_law 54 rfl) rfl (by decide) ?_
        refine g_icmp_ne F (q := 96) (tgt := 139) (dk dL_law 55 rfl) (by decide) rfl (fun c93 => ?_) (fun c93 => ?_)
        · refine g_iinc F (q := 142) (v := (nI ((i + 1)))) (lv' := [(4, .int (nI ((i + 1)))), (5, .int gg), (0, .ref b), (1, .ref (ad 0)), (2, .ref (ad 233)), (3, .ref (ad 234))]) (dk dL_law 80 rfl) rfl 5 rfl (nI_1 _) (Nat.le_of_ble_eq_true rfl) rfl ?_
          refine g_goto F (tgt := 36) (dk dL_law 81 rfl) (by decide) ?_
          refine g_lv (lv' := [(0, .ref b), (1, .ref (ad 0)), (2, .ref (ad 233)), (3, .ref (ad 234)), (4, .int (nI ((i + 1))))]) [2, 3, 4, 5, 0] rfl ?_
          exact ih (i + 1) E80 (by omega) ⟨r, ne, nt, nk, nh, ln, txt, d, ps, hQ80, hD, hP, hB⟩ (by omega)
        · refine g_aload_n F (q := 97) (dk dL_law 56 rfl) rfl rfl 2 rfl ?_
          refine g_iconst F (q := 98) (v := 2) (dk dL_law 57 rfl) rfl (by decide) ?_
          refine h_VI F (av := [.int 2]) (st := []) (q_count hQ80 (vC2 hV)) kv_X6_count tq_293 hQ80.e0 ⟨rfl, rfl⟩ (by decide) ⟨(Nat.le_of_ble_eq_true rfl), (Nat.le_of_ble_eq_true rfl)⟩ rfl rfl (Nat.le_of_ble_eq_true rfl) (dk dL_law 58 rfl) rfl (fun E98 hQ98 => ?_)
          refine g_if_le F (q := 104) (tgt := 139) (dk dL_law 59 rfl) (by decide) rfl (fun c101 => ?_) (fun c101 => ?_)
          · have nc101 : nk ≤ 0 := (nI_leI (a := nk) (b := 0) (by omega) (by omega)).mp c101
            refine g_iinc F (q := 142) (v := (nI ((i + 1)))) (lv' := [(4, .int (nI ((i + 1)))), (5, .int gg), (0, .ref b), (1, .ref (ad 0)), (2, .ref (ad 233)), (3, .ref (ad 234))]) (dk dL_law 80 rfl) rfl 5 rfl (nI_1 _) (Nat.le_of_ble_eq_true rfl) rfl ?_
            refine g_goto F (tgt := 36) (dk dL_law 81 rfl) (by decide) ?_
            refine g_lv (lv' := [(0, .ref b), (1, .ref (ad 0)), (2, .ref (ad 233)), (3, .ref (ad 234)), (4, .int (nI ((i + 1))))]) [2, 3, 4, 5, 0] rfl ?_
            exact ih (i + 1) E98 (by omega) ⟨r, ne, nt, nk, nh, ln, txt, d, ps, hQ98, hD, hP, hB⟩ (by omega)
          · have nc101 : ¬ nk ≤ 0 := fun h => c101 ((nI_leI (a := nk) (b := 0) (by omega) (by omega)).mpr h)
            refine g_aload_n F (q := 105) (dk dL_law 60 rfl) rfl rfl 2 rfl ?_
            refine g_iload F (q := 107) (dk dL_law 61 rfl) rfl 0 rfl ?_
            refine g_aload_n F (q := 108) (dk dL_law 62 rfl) rfl rfl 2 rfl ?_
            refine g_iconst F (q := 109) (v := 2) (dk dL_law 63 rfl) rfl (by decide) ?_
            refine h_VI F (av := [.int 2]) (st := [.int gg, .ref (ad 0)]) (q_count hQ98 (vC2 hV)) kv_X6_count tq_293 hQ98.e0 ⟨rfl, rfl⟩ (by decide) ⟨(Nat.le_of_ble_eq_true rfl), (Nat.le_of_ble_eq_true rfl)⟩ rfl rfl (Nat.le_of_ble_eq_true rfl) (dk dL_law 64 rfl) rfl (fun E109 hQ109 => ?_)
            refine h_SI F (av := [.int gg, .int (nI nk)]) (st := [.ref (ad 0)]) (q_low (v := gg) (N := nk) (by omega) (by omega)) ks_L_low tq_376 ⟨rfl, rfl⟩ (by decide) ⟨(Nat.le_of_ble_eq_true rfl), (Nat.le_of_ble_eq_true rfl)⟩ rfl rfl (Nat.le_of_ble_eq_true rfl) (dk dL_law 65 rfl) rfl (fun E112 hE112 => ?_)
            obtain rfl := hE112
            obtain ⟨kn, hkn, ekn⟩ := low_ex (v := gg) (N := nk) (by omega)
            refine g_sti (y := nI kn) ekn ?_
            refine g_aload_n F (q := 116) (dk dL_law 66 rfl) rfl rfl 4 rfl ?_
            refine g_iload F (q := 118) (dk dL_law 67 rfl) rfl 0 rfl ?_
            refine g_aload_n F (q := 119) (dk dL_law 68 rfl) rfl rfl 2 rfl ?_
            refine g_iconst F (q := 120) (v := 2) (dk dL_law 69 rfl) rfl (by decide) ?_
            refine h_VI F (av := [.int 2]) (st := [.int gg, .ref (ad 234), .int (nI kn), .ref (ad 0)]) (q_count hQ109 (vC2 hV)) kv_X6_count tq_293 hQ109.e0 ⟨rfl, rfl⟩ (by decide) ⟨(Nat.le_of_ble_eq_true rfl), (Nat.le_of_ble_eq_true rfl)⟩ rfl rfl (Nat.le_of_ble_eq_true rfl) (dk dL_law 70 rfl) rfl (fun E120 hQ120 => ?_)
            refine h_SI F (av := [.int gg, .int (nI nk)]) (st := [.ref (ad 234), .int (nI kn), .ref (ad 0)]) (q_low (v := gg) (N := nk) (by omega) (by omega)) ks_L_low tq_376 ⟨rfl, rfl⟩ (by decide) ⟨(Nat.le_of_ble_eq_true rfl), (Nat.le_of_ble_eq_true rfl)⟩ rfl rfl (Nat.le_of_ble_eq_true rfl) (dk dL_law 71 rfl) rfl (fun E123 hE123 => ?_)
            obtain rfl := hE123
            refine g_sti (y := nI kn) ekn ?_
            have hc1 : E120 234 = .inl (cA 0, 10, .inl ps) := hQ120.p
            refine g_iald F (q := 127) kn hc1 (by omega) rfl (by omega) (by decide) (dk dL_law 72 rfl) rfl ?_
            refine g_sti (y := (r (46 + 50 * 1 + 5 * kn + 3))) (hP kn hkn) ?_
            refine g_iload F (q := 129) (dk dL_law 73 rfl) rfl 0 rfl ?_
            refine g_iconst F (q := 130) (v := 2) (dk dL_law 74 rfl) rfl (by decide) ?_
            refine g_ishr F (q := 131) (dk dL_law 75 rfl) rfl ?_
            refine h_SI F (av := [.ref (ad 0), .int (nI kn), .int (r (46 + 50 * 1 + 5 * kn + 3)), .int (gg >>> (2 &&& 31))]) (st := []) (CQ.of (c_L_knock hQ120 hkn)) ks_L_knock tq_466 ⟨rfl, rfl⟩ (by decide) ⟨(Nat.le_of_ble_eq_true rfl), (Nat.le_of_ble_eq_true rfl)⟩ rfl rfl (Nat.le_of_ble_eq_true rfl) (dk dL_law 76 rfl) rfl (fun E131 hQ131 => ?_)
            refine g_if_ne F (q := 137) (tgt := 139) (dk dL_law 77 rfl) (by decide) rfl (fun _ => ?_) (fun h => absurd h (by decide))
            refine g_iinc F (q := 142) (v := (nI ((i + 1)))) (lv' := [(4, .int (nI ((i + 1)))), (5, .int gg), (0, .ref b), (1, .ref (ad 0)), (2, .ref (ad 233)), (3, .ref (ad 234))]) (dk dL_law 80 rfl) rfl 5 rfl (nI_1 _) (Nat.le_of_ble_eq_true rfl) rfl ?_
            refine g_goto F (tgt := 36) (dk dL_law 81 rfl) (by decide) ?_
            refine g_lv (lv' := [(0, .ref b), (1, .ref (ad 0)), (2, .ref (ad 233)), (3, .ref (ad 234)), (4, .int (nI ((i + 1))))]) [2, 3, 4, 5, 0] rfl ?_
            exact ih (i + 1) E131 (by omega) ⟨r, ne, nt, nk, nh, ln, txt, d, ps, hQ131, hD, hP, hB⟩ (by omega)
  refine g_lv (lv' := [(0, .ref b), (1, .ref (ad 0)), (2, .ref (ad 233)), (3, .ref (ad 234)), (4, .int 0)]) [4, 3, 2, 1, 0] rfl ?_
  exact K36 _ 0 E (Nat.lt_succ_self _) hLI0 (by omega)
