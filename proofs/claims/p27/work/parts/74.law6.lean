theorem nI_ne10 {m : Nat} (h : ¬ m = 10) (h2 : m ≤ 10) : ¬ nI m = 10 := fun e => h ((nI_eq (b := 10) (by omega) (by omega)).mp e)
abbrev rm_L_come : Room := { frames := 6, cells := 0, slots := 0, locals := 152 }
set_option maxHeartbeats 4000000 in
set_option maxRecDepth 100000 in
theorem c_L_come {l : Launch} {D : va_G} {cA : Nat → ClassId} {ad : Nat → Nat} {E : Nat → va_E} {r : Nat → Int32} {ne nt nk nh ln : Nat} {txt d ps : Nat → Int32} {g h : Int32}  (hQ : LQ cA ad E r ne nt nk nh ln txt d ps) (hD : DD d r nt) (hP : PP ps r nk) (hB : Bey r ne nk) : CtI l D cA yL_come cL_come 16 .boolean rm_L_come 235 ad E [.ref (ad 0), .ref (ad 233), .ref (ad 234), .int g, .int h] (fun x E' => 1 = x ∧ LI cA ad E') := by
  refine CtI.of (by decide +kernel) (Nat.le_of_ble_eq_true rfl) (fun X F hret => ?_)
  have F : Fr "ThumpEarsLaw" cL_come 16 D cA X := F
  refine (show GG rm_L_come 16 l D X 0 0 235 ad E 0 [(0, .ref (ad 0)), (1, .ref (ad 233)), (2, .ref (ad 234)), (3, .int g), (4, .int h)] [] from ?_)
  have hV := hQ.i
  have h0 := hV.e0
  have h1 := hV.e1
  have h2 := hV.e2
  refine g_iload_n F (q := 1) (dk dL_come_0 0 rfl) rfl rfl 3 rfl ?_
  refine g_iconst F (q := 2) (v := 2) (dk dL_come_0 1 rfl) rfl (by decide) ?_
  refine h_SI F (av := [.int g, .int 2]) (st := []) (q_low (v := g) (N := 2) (by omega) (by omega)) ks_L_low tq_376 ⟨rfl, rfl⟩ (by decide) ⟨Nat.le_refl _, Nat.le_refl _⟩ rfl rfl (Nat.le_of_ble_eq_true rfl) (dk dL_come_0 2 rfl) rfl (fun E2 hE2 => ?_)
  obtain rfl := hE2
  refine g_if_ne F (q := 8) (tgt := 12) (dk dL_come_0 3 rfl) (by decide) rfl (fun c5 => ?_) (fun c5 => ?_)
  · refine g_iconst F (q := 13) (v := 0) (dk dL_come_0 6 rfl) rfl (by decide) ?_
    refine g_istore F (q := 15) (lv' := [(5, .int 0), (0, .ref (ad 0)), (1, .ref (ad 233)), (2, .ref (ad 234)), (3, .int g), (4, .int h)]) (dk dL_come_0 7 rfl) rfl (Nat.le_of_ble_eq_true rfl) rfl ?_
    refine g_iload F (q := 17) (dk dL_come_0 8 rfl) rfl 5 rfl ?_
    refine g_sipush F (q := 20) (v := 1001) (dk dL_come_0 9 rfl) rfl (by decide) ?_
    refine h_SI F (av := [.int h, .int 1001]) (st := []) (q_low (v := h) (N := 1001) (by omega) (by omega)) ks_L_low tq_376 ⟨rfl, rfl⟩ (by decide) ⟨Nat.le_refl _, Nat.le_refl _⟩ rfl rfl (Nat.le_of_ble_eq_true rfl) (dk dL_come_0 10 rfl) rfl (fun E20 hE20 => ?_)
    obtain rfl := hE20
    obtain ⟨p, hp, ep⟩ := low_ex (v := h) (N := 1001) (by omega)
    refine g_sti (y := nI p) ep ?_
    refine g_istore F (q := 25) (lv' := [(6, .int (nI p)), (5, .int 0), (0, .ref (ad 0)), (1, .ref (ad 233)), (2, .ref (ad 234)), (3, .int g), (4, .int h)]) (dk dL_come_0 11 rfl) rfl (Nat.le_of_ble_eq_true rfl) rfl ?_
    refine g_aload_n F (q := 26) (dk dL_come_0 12 rfl) rfl rfl 2 rfl ?_
    refine g_iconst F (q := 27) (v := 5) (dk dL_come_0 13 rfl) rfl (by decide) ?_
    refine h_VI F (av := [.int 5]) (st := []) (q_count hQ (vC5 hV)) kv_X6_count tq_293 hQ.e0 ⟨rfl, rfl⟩ (by decide) ⟨Nat.le_refl _, Nat.le_refl _⟩ rfl rfl (Nat.le_of_ble_eq_true rfl) (dk dL_come_0 14 rfl) rfl (fun E27 hQ27 => ?_)
    refine g_iload_n F (q := 31) (dk dL_come_0 15 rfl) rfl rfl 5 rfl ?_
    refine g_iconst F (q := 32) (v := 1) (dk dL_come_0 16 rfl) rfl (by decide) ?_
    refine g_ishr F (q := 33) (dk dL_come_0 17 rfl) rfl ?_
    refine g_sipush F (q := 36) (v := 3000) (dk dL_come_0 18 rfl) rfl (by decide) ?_
    refine h_SI F (av := [.int (g >>> (1 &&& 31)), .int 3000]) (st := [.int (r 5)]) (q_low (v := (g >>> (1 &&& 31))) (N := 3000) (by omega) (by omega)) ks_L_low tq_376 ⟨rfl, rfl⟩ (by decide) ⟨Nat.le_refl _, Nat.le_refl _⟩ rfl rfl (Nat.le_of_ble_eq_true rfl) (dk dL_come_0 19 rfl) rfl (fun E36 hE36 => ?_)
    obtain rfl := hE36
    refine g_iadd F (q := 40) (dk dL_come_0 20 rfl) rfl ?_
    refine g_bipush F (q := 42) (v := 100) (dk dL_come_0 21 rfl) rfl (by decide) ?_
    refine g_isub F (q := 43) (dk dL_come_0 22 rfl) rfl ?_
    refine g_topi (fun t et => ?_)
    refine g_istore F (q := 45) (lv' := [(7, .int t), (6, .int (nI p)), (5, .int 0), (0, .ref (ad 0)), (1, .ref (ad 233)), (2, .ref (ad 234)), (3, .int g), (4, .int h)]) (dk dL_come_0 23 rfl) rfl (Nat.le_of_ble_eq_true rfl) rfl ?_
    have K73 : ∀ (c : Nat), (hc0 : 1 ≤ c) → (hc1 : c ≤ 1000) → GG rm_L_come 16 l D X 0 0 235 ad E27 73 [(0, .ref (ad 0)), (1, .ref (ad 233)), (2, .ref (ad 234)), (3, .int g), (4, .int h), (5, .int 0), (6, .int (nI p)), (7, .int t)] [.int (nI c)] := by
      intro c hc0 hc1
      have hp2 : (0 : Int32) ≤ nI p ∧ nI p ≤ 1000 := ⟨nI_pos' (by omega), nI_le (a := p) (b := 1000) (by omega) (by omega)⟩
      have hc2 : (1 : Int32) ≤ nI c ∧ nI c ≤ 1000 := ⟨nI_le (a := 1) (b := c) (by omega) (by omega), nI_le (a := c) (b := 1000) (by omega) (by omega)⟩
      refine g_istore F (q := 75) (lv' := [(8, .int (nI c)), (0, .ref (ad 0)), (1, .ref (ad 233)), (2, .ref (ad 234)), (3, .int g), (4, .int h), (5, .int 0), (6, .int (nI p)), (7, .int t)]) (dk dL_come_0 39 rfl) rfl (Nat.le_of_ble_eq_true rfl) rfl ?_
      refine g_aload_n F (q := 76) (dk dL_come_1 0 rfl) rfl rfl 1 rfl ?_
      refine g_iload F (q := 78) (dk dL_come_1 1 rfl) rfl 6 rfl ?_
      refine g_if_eq F (q := 81) (tgt := 85) (dk dL_come_1 2 rfl) (by decide) rfl (fun _ => ?_) (fun h => absurd h (by decide))
      refine g_iconst F (q := 86) (v := 1) (dk dL_come_1 5 rfl) rfl (by decide) ?_
      refine h_VI F (av := [.int 1]) (st := []) (q_count hQ27 (vC1 hV)) kv_X6_count tq_293 hQ27.e0 ⟨rfl, rfl⟩ (by decide) ⟨Nat.le_refl _, Nat.le_refl _⟩ rfl rfl (Nat.le_of_ble_eq_true rfl) (dk dL_come_1 6 rfl) rfl (fun E86 hQ86 => ?_)
      refine g_istore F (q := 91) (lv' := [(9, .int (nI nt)), (8, .int (nI c)), (0, .ref (ad 0)), (1, .ref (ad 233)), (2, .ref (ad 234)), (3, .int g), (4, .int h), (5, .int 0), (6, .int (nI p)), (7, .int t)]) (dk dL_come_1 7 rfl) rfl (Nat.le_of_ble_eq_true rfl) rfl ?_
      refine g_iload F (q := 93) (dk dL_come_1 8 rfl) rfl 9 rfl ?_
      refine g_if_lt F (q := 96) (tgt := 103) (dk dL_come_1 9 rfl) (by decide) rfl (fun c93 => ?_) (fun c93 => ?_)
      · refine g_iconst F (q := 104) (v := 1) (dk dL_come_1 13 rfl) rfl (by decide) ?_
        refine g_goto F (tgt := 108) (dk dL_come_1 14 rfl) (by decide) ?_
        refine g_istore F (q := 110) (lv' := [(10, .int 1), (9, .int (nI nt)), (8, .int (nI c)), (0, .ref (ad 0)), (1, .ref (ad 233)), (2, .ref (ad 234)), (3, .int g), (4, .int h), (5, .int 0), (6, .int (nI p)), (7, .int t)]) (dk dL_come_1 16 rfl) rfl (Nat.le_of_ble_eq_true rfl) rfl ?_
        refine g_iload F (q := 112) (dk dL_come_1 17 rfl) rfl 8 rfl ?_
        refine g_if_eq F (q := 115) (tgt := 128) (dk dL_come_1 18 rfl) (by decide) rfl (fun _ => ?_) (fun h => absurd h (by decide))
        refine g_aload_n F (q := 129) (dk dL_come_1 25 rfl) rfl rfl 3 rfl ?_
        refine g_iload F (q := 131) (dk dL_come_1 26 rfl) rfl 9 rfl ?_
        refine g_iload F (q := 133) (dk dL_come_1 27 rfl) rfl 10 rfl ?_
        refine g_iload F (q := 135) (dk dL_come_1 28 rfl) rfl 2 rfl ?_
        refine h_VI F (av := [.int (nI p), .int t, .int (nI c)]) (st := []) (q_thump_n hQ86 (ac_bad (fun q => absurd q.1 (Int32.not_le.mpr c93)))) kv_X6_thump tq_571 hQ86.e0 ⟨rfl, rfl⟩ (by decide) ⟨Nat.le_refl _, Nat.le_refl _⟩ rfl rfl (Nat.le_of_ble_eq_true rfl) (dk dL_come_1 29 rfl) rfl (fun E135 hQ135 => ?_)
        refine g_istore F (q := 140) (lv' := [(11, .int (-2)), (10, .int 1), (9, .int (nI nt)), (8, .int (nI c)), (0, .ref (ad 0)), (1, .ref (ad 233)), (2, .ref (ad 234)), (3, .int g), (4, .int h), (5, .int 0), (6, .int (nI p)), (7, .int t)]) (dk dL_come_1 30 rfl) rfl (Nat.le_of_ble_eq_true rfl) rfl ?_
        refine g_iload F (q := 142) (dk dL_come_1 31 rfl) rfl 1 rfl ?_
        refine g_if_ne F (q := 145) (tgt := 162) (dk dL_come_1 32 rfl) (by decide) rfl (fun _ => ?_) (fun h => absurd h (by decide))
        refine g_iload F (q := 164) (dk dL_come_2 1 rfl) rfl 0 rfl ?_
        refine g_iload F (q := 166) (dk dL_come_2 2 rfl) rfl 1 rfl ?_
        refine g_if_eq F (q := 169) (tgt := 174) (dk dL_come_2 3 rfl) (by decide) rfl (fun h => absurd h (by decide)) (fun _ => ?_)
        refine g_bipush F (q := 171) (v := (-2)) (dk dL_come_2 4 rfl) rfl (by decide) ?_
        refine g_goto F (tgt := 188) (dk dL_come_2 5 rfl) (by decide) ?_
        refine g_icmp_ne F (q := 191) (tgt := 195) (dk dL_come_2 12 rfl) (by decide) rfl (fun h => absurd h (by decide)) (fun _ => ?_)
        refine g_iconst F (q := 192) (v := 1) (dk dL_come_2 13 rfl) rfl (by decide) ?_
        refine g_goto F (tgt := 196) (dk dL_come_2 14 rfl) (by decide) ?_
        refine hret 1 E135 _ _ (dk dL_come_2 16 rfl) rfl ?_
        exact ⟨rfl, r, ne, nt, nk, nh, ln, txt, d, ps, hQ135, hD, hP, hB⟩
      · refine g_iload F (q := 98) (dk dL_come_1 10 rfl) rfl 9 rfl ?_
        refine g_ldc F (q := 100) (v := 100000) (dk dL_come_1 11 rfl) rfl tq_546 ?_
        refine g_icmp_le F (q := 103) (tgt := 107) (dk dL_come_1 12 rfl) (by decide) rfl (fun c100 => ?_) (fun c100 => ?_)
        · have ht2 : 0 ≤ t ∧ t ≤ 100000 := ⟨Int32.not_lt.mp c93, c100⟩
          refine g_iconst F (q := 108) (v := 0) (dk dL_come_1 15 rfl) rfl (by decide) ?_
          refine g_istore F (q := 110) (lv' := [(10, .int 0), (9, .int (nI nt)), (8, .int (nI c)), (0, .ref (ad 0)), (1, .ref (ad 233)), (2, .ref (ad 234)), (3, .int g), (4, .int h), (5, .int 0), (6, .int (nI p)), (7, .int t)]) (dk dL_come_1 16 rfl) rfl (Nat.le_of_ble_eq_true rfl) rfl ?_
          refine g_iload F (q := 112) (dk dL_come_1 17 rfl) rfl 8 rfl ?_
          refine g_if_eq F (q := 115) (tgt := 128) (dk dL_come_1 18 rfl) (by decide) rfl (fun _ => ?_) (fun h => absurd h (by decide))
          refine g_aload_n F (q := 129) (dk dL_come_1 25 rfl) rfl rfl 3 rfl ?_
          refine g_iload F (q := 131) (dk dL_come_1 26 rfl) rfl 9 rfl ?_
          refine g_iload F (q := 133) (dk dL_come_1 27 rfl) rfl 10 rfl ?_
          refine g_iload F (q := 135) (dk dL_come_1 28 rfl) rfl 2 rfl ?_
          rcases co_cases t (r 5) nt with hlt | ⟨hlt, hm10⟩ | ⟨hlt, hm10⟩
          · refine h_VI F (av := [.int (nI p), .int t, .int (nI c)]) (st := []) (q_thump_n hQ86 (ac_old hp2 ht2 hc2 hlt)) kv_X6_thump tq_571 hQ86.e0 ⟨rfl, rfl⟩ (by decide) ⟨Nat.le_refl _, Nat.le_refl _⟩ rfl rfl (Nat.le_of_ble_eq_true rfl) (dk dL_come_1 29 rfl) rfl (fun E135 hQ135 => ?_)
            refine g_istore F (q := 140) (lv' := [(11, .int (-4)), (10, .int 0), (9, .int (nI nt)), (8, .int (nI c)), (0, .ref (ad 0)), (1, .ref (ad 233)), (2, .ref (ad 234)), (3, .int g), (4, .int h), (5, .int 0), (6, .int (nI p)), (7, .int t)]) (dk dL_come_1 30 rfl) rfl (Nat.le_of_ble_eq_true rfl) rfl ?_
            refine g_iload F (q := 142) (dk dL_come_1 31 rfl) rfl 1 rfl ?_
            refine g_if_ne F (q := 145) (tgt := 162) (dk dL_come_1 32 rfl) (by decide) rfl (fun h => absurd h (by decide)) (fun _ => ?_)
            refine g_iload F (q := 147) (dk dL_come_1 33 rfl) rfl 11 rfl ?_
            refine g_aload_n F (q := 148) (dk dL_come_1 34 rfl) rfl rfl 4 rfl ?_
            refine g_iconst F (q := 149) (v := 5) (dk dL_come_1 35 rfl) rfl (by decide) ?_
            refine h_VI F (av := [.int 5]) (st := [.int t]) (q_count hQ135 (vC5 hV)) kv_X6_count tq_293 hQ135.e0 ⟨rfl, rfl⟩ (by decide) ⟨Nat.le_refl _, Nat.le_refl _⟩ rfl rfl (Nat.le_of_ble_eq_true rfl) (dk dL_come_1 36 rfl) rfl (fun E149 hQ149 => ?_)
            refine g_icmp_lt F (q := 155) (tgt := 162) (dk dL_come_1 37 rfl) (by decide) rfl (fun c152 => ?_) (fun c152 => absurd c152 (fun h => h hlt))
            refine g_iload F (q := 164) (dk dL_come_2 1 rfl) rfl 0 rfl ?_
            refine g_iload F (q := 166) (dk dL_come_2 2 rfl) rfl 1 rfl ?_
            refine g_if_eq F (q := 169) (tgt := 174) (dk dL_come_2 3 rfl) (by decide) rfl (fun _ => ?_) (fun h => absurd h (by decide))
            refine g_iload F (q := 176) (dk dL_come_2 6 rfl) rfl 0 rfl ?_
            refine g_bipush F (q := 178) (v := (-3)) (dk dL_come_2 7 rfl) rfl (by decide) ?_
            refine g_icmp_ne F (q := 181) (tgt := 186) (dk dL_come_2 8 rfl) (by decide) rfl (fun _ => ?_) (fun h => absurd h (by decide))
            refine g_bipush F (q := 188) (v := (-4)) (dk dL_come_2 11 rfl) rfl (by decide) ?_
            refine g_icmp_ne F (q := 191) (tgt := 195) (dk dL_come_2 12 rfl) (by decide) rfl (fun h => absurd h (by decide)) (fun _ => ?_)
            refine g_iconst F (q := 192) (v := 1) (dk dL_come_2 13 rfl) rfl (by decide) ?_
            refine g_goto F (tgt := 196) (dk dL_come_2 14 rfl) (by decide) ?_
            refine hret 1 E149 _ _ (dk dL_come_2 16 rfl) rfl ?_
            exact ⟨rfl, r, ne, nt, nk, nh, ln, txt, d, ps, hQ149, hD, hP, hB⟩
          · refine h_VI F (av := [.int (nI p), .int t, .int (nI c)]) (st := []) (q_thump_n hQ86 (ac_full hp2 ht2 hc2 hlt hm10)) kv_X6_thump tq_571 hQ86.e0 ⟨rfl, rfl⟩ (by decide) ⟨Nat.le_refl _, Nat.le_refl _⟩ rfl rfl (Nat.le_of_ble_eq_true rfl) (dk dL_come_1 29 rfl) rfl (fun E135 hQ135 => ?_)
            refine g_istore F (q := 140) (lv' := [(11, .int (-3)), (10, .int 0), (9, .int (nI nt)), (8, .int (nI c)), (0, .ref (ad 0)), (1, .ref (ad 233)), (2, .ref (ad 234)), (3, .int g), (4, .int h), (5, .int 0), (6, .int (nI p)), (7, .int t)]) (dk dL_come_1 30 rfl) rfl (Nat.le_of_ble_eq_true rfl) rfl ?_
            refine g_iload F (q := 142) (dk dL_come_1 31 rfl) rfl 1 rfl ?_
            refine g_if_ne F (q := 145) (tgt := 162) (dk dL_come_1 32 rfl) (by decide) rfl (fun h => absurd h (by decide)) (fun _ => ?_)
            refine g_iload F (q := 147) (dk dL_come_1 33 rfl) rfl 11 rfl ?_
            refine g_aload_n F (q := 148) (dk dL_come_1 34 rfl) rfl rfl 4 rfl ?_
            refine g_iconst F (q := 149) (v := 5) (dk dL_come_1 35 rfl) rfl (by decide) ?_
            refine h_VI F (av := [.int 5]) (st := [.int t]) (q_count hQ135 (vC5 hV)) kv_X6_count tq_293 hQ135.e0 ⟨rfl, rfl⟩ (by decide) ⟨Nat.le_refl _, Nat.le_refl _⟩ rfl rfl (Nat.le_of_ble_eq_true rfl) (dk dL_come_1 36 rfl) rfl (fun E149 hQ149 => ?_)
            refine g_icmp_lt F (q := 155) (tgt := 162) (dk dL_come_1 37 rfl) (by decide) rfl (fun c152 => absurd c152 hlt) (fun c152 => ?_)
            refine g_iload F (q := 157) (dk dL_come_1 38 rfl) rfl 2 rfl ?_
            refine g_bipush F (q := 159) (v := 10) (dk dL_come_1 39 rfl) rfl (by decide) ?_
            refine g_icmp_ne F (q := 162) (tgt := 197) (dk dL_come_2 0 rfl) (by decide) rfl (fun c159 => absurd c159 (fun h => h (by rw [hm10]; rfl))) (fun c159 => ?_)
            refine g_iload F (q := 164) (dk dL_come_2 1 rfl) rfl 0 rfl ?_
            refine g_iload F (q := 166) (dk dL_come_2 2 rfl) rfl 1 rfl ?_
            refine g_if_eq F (q := 169) (tgt := 174) (dk dL_come_2 3 rfl) (by decide) rfl (fun _ => ?_) (fun h => absurd h (by decide))
            refine g_iload F (q := 176) (dk dL_come_2 6 rfl) rfl 0 rfl ?_
            refine g_bipush F (q := 178) (v := (-3)) (dk dL_come_2 7 rfl) rfl (by decide) ?_
            refine g_icmp_ne F (q := 181) (tgt := 186) (dk dL_come_2 8 rfl) (by decide) rfl (fun h => absurd h (by decide)) (fun _ => ?_)
            refine g_bipush F (q := 183) (v := (-3)) (dk dL_come_2 9 rfl) rfl (by decide) ?_
            refine g_goto F (tgt := 188) (dk dL_come_2 10 rfl) (by decide) ?_
            refine g_icmp_ne F (q := 191) (tgt := 195) (dk dL_come_2 12 rfl) (by decide) rfl (fun h => absurd h (by decide)) (fun _ => ?_)
            refine g_iconst F (q := 192) (v := 1) (dk dL_come_2 13 rfl) rfl (by decide) ?_
            refine g_goto F (tgt := 196) (dk dL_come_2 14 rfl) (by decide) ?_
            refine hret 1 E149 _ _ (dk dL_come_2 16 rfl) rfl ?_
            exact ⟨rfl, r, ne, nt, nk, nh, ln, txt, d, ps, hQ149, hD, hP, hB⟩
          · obtain ⟨r2, hr2, hN⟩ : ∃ r2, mkR r ne 0 nt (nI p) t (nI c) = r2 ∧ NewS r r2 ne 0 nt (nI p) t (nI c) := ⟨_, rfl, newS (by omega) (by omega)⟩
            refine h_VI F (av := [.int (nI p), .int t, .int (nI c)]) (st := []) (q_thump_s hQ86 (ac_ok hp2 ht2 hc2 hlt hm10 hr2) ((hN.o (j := 0) (by omega) (by omega) (by omega)).trans hV.h0) h0 hN.1 (show nt + 1 ≤ 10 by omega) ((hN.o (j := 2) (by omega) (by omega) (by omega)).trans hV.h2) h2) kv_X6_thump tq_571 hQ86.e0 ⟨rfl, rfl⟩ (by decide) ⟨Nat.le_refl _, Nat.le_refl _⟩ rfl rfl (Nat.le_of_ble_eq_true rfl) (dk dL_come_1 29 rfl) rfl (fun E135 hQ135 => ?_)
            have hVo := hV
            have hV := hQ135.i
            refine g_istore F (q := 140) (lv' := [(11, .int (hcnt r ne (nI p) (nI c) 10)), (10, .int 0), (9, .int (nI nt)), (8, .int (nI c)), (0, .ref (ad 0)), (1, .ref (ad 233)), (2, .ref (ad 234)), (3, .int g), (4, .int h), (5, .int 0), (6, .int (nI p)), (7, .int t)]) (dk dL_come_1 30 rfl) rfl (Nat.le_of_ble_eq_true rfl) rfl ?_
            refine g_iload F (q := 142) (dk dL_come_1 31 rfl) rfl 1 rfl ?_
            refine g_if_ne F (q := 145) (tgt := 162) (dk dL_come_1 32 rfl) (by decide) rfl (fun h => absurd h (by decide)) (fun _ => ?_)
            refine g_iload F (q := 147) (dk dL_come_1 33 rfl) rfl 11 rfl ?_
            refine g_aload_n F (q := 148) (dk dL_come_1 34 rfl) rfl rfl 4 rfl ?_
            refine g_iconst F (q := 149) (v := 5) (dk dL_come_1 35 rfl) rfl (by decide) ?_
            refine h_VI F (av := [.int 5]) (st := [.int t]) (q_count hQ135 ((vC5 hV).trans hN.2.2.1)) kv_X6_count tq_293 hQ135.e0 ⟨rfl, rfl⟩ (by decide) ⟨Nat.le_refl _, Nat.le_refl _⟩ rfl rfl (Nat.le_of_ble_eq_true rfl) (dk dL_come_1 36 rfl) rfl (fun E149 hQ149 => ?_)
            refine g_icmp_lt F (q := 155) (tgt := 162) (dk dL_come_1 37 rfl) (by decide) rfl (fun c152 => absurd c152 Int32.lt_irrefl) (fun c152 => ?_)
            refine g_iload F (q := 157) (dk dL_come_1 38 rfl) rfl 2 rfl ?_
            refine g_bipush F (q := 159) (v := 10) (dk dL_come_1 39 rfl) rfl (by decide) ?_
            refine g_icmp_ne F (q := 162) (tgt := 197) (dk dL_come_2 0 rfl) (by decide) rfl (fun c159 => ?_) (fun c159 => absurd c159 (nI_ne10 hm10 (by omega)))
            refine g_iconst F (q := 198) (v := 0) (dk dL_come_2 17 rfl) rfl (by decide) ?_
            refine g_istore F (q := 200) (lv' := [(12, .int 0), (11, .int (hcnt r ne (nI p) (nI c) 10)), (10, .int 0), (9, .int (nI nt)), (8, .int (nI c)), (0, .ref (ad 0)), (1, .ref (ad 233)), (2, .ref (ad 234)), (3, .int g), (4, .int h), (5, .int 0), (6, .int (nI p)), (7, .int t)]) (dk dL_come_2 18 rfl) rfl (Nat.le_of_ble_eq_true rfl) rfl ?_
            refine g_iconst F (q := 201) (v := 0) (dk dL_come_2 19 rfl) rfl (by decide) ?_
            refine g_istore F (q := 203) (lv' := [(13, .int 0), (12, .int 0), (11, .int (hcnt r ne (nI p) (nI c) 10)), (10, .int 0), (9, .int (nI nt)), (8, .int (nI c)), (0, .ref (ad 0)), (1, .ref (ad 233)), (2, .ref (ad 234)), (3, .int g), (4, .int h), (5, .int 0), (6, .int (nI p)), (7, .int t)]) (dk dL_come_2 20 rfl) rfl (Nat.le_of_ble_eq_true rfl) rfl ?_
            have K203 : ∀ (fu : Nat) (i : Nat) (E9 : Nat → va_E), ne - i < fu → (hQg : LQ cA ad E9 r2 ne (nt + 1) nk (nup nh) ln txt d ps) → (hi : i ≤ ne) → GG rm_L_come 16 l D X 0 0 235 ad E9 203 [(0, .ref (ad 0)), (1, .ref (ad 233)), (2, .ref (ad 234)), (5, .int 0), (6, .int (nI p)), (7, .int t), (8, .int (nI c)), (9, .int (nI nt)), (11, .int (hcnt r ne (nI p) (nI c) 10)), (12, .int (hcnt r ne (nI p) (nI c) i)), (13, .int (nI i))] [] := by
              intro fu
              induction fu with
              | zero => intro i E9 hfu_; exact absurd hfu_ (Nat.not_lt_zero _)
              | succ fu ih =>
                intro i E9 hfu_ hQg hi
                refine g_iload F (q := 205) (dk dL_come_2 21 rfl) rfl 10 rfl ?_
                refine g_aload_n F (q := 206) (dk dL_come_2 22 rfl) rfl rfl 0 rfl ?_
                refine g_iconst F (q := 207) (v := 0) (dk dL_come_2 23 rfl) rfl (by decide) ?_
                refine h_VI F (av := [.int 0]) (st := [.int (nI i)]) (q_count hQg (vC0 hV)) kv_X6_count tq_293 hQg.e0 ⟨rfl, rfl⟩ (by decide) ⟨Nat.le_refl _, Nat.le_refl _⟩ rfl rfl (Nat.le_of_ble_eq_true rfl) (dk dL_come_2 24 rfl) rfl (fun E207 hQ207 => ?_)
                refine g_icmp_ge F (q := 213) (tgt := 318) (dk dL_come_2 25 rfl) (by decide) rfl (fun c210 => ?_) (fun c210 => ?_)
                · have nc210 : ne ≤ i := (nI_leI (a := ne) (b := i) (by omega) (by omega)).mp c210
                  obtain rfl : ne = i := by omega
                  refine g_iload F (q := 320) (dk dL_come_3 39 rfl) rfl 3 rfl ?_
                  refine g_if_eq F (q := 323) (tgt := 335) (dk dL_come_4 0 rfl) (by decide) rfl (fun _ => ?_) (fun h => absurd h (by decide))
                  refine g_aload_n F (q := 336) (dk dL_come_4 8 rfl) rfl rfl 1 rfl ?_
                  refine g_iconst F (q := 337) (v := 4) (dk dL_come_4 9 rfl) rfl (by decide) ?_
                  refine g_iload F (q := 339) (dk dL_come_4 10 rfl) rfl 7 rfl ?_
                  refine g_imul F (q := 340) (dk dL_come_4 11 rfl) rfl ?_
                  refine g_iload F (q := 342) (dk dL_come_4 12 rfl) rfl 4 rfl ?_
                  have hc1 : E207 233 = .inl (cA 0, 40, .inl d) := hQ207.dd
                  refine g_iast F (q := 343) ((4 * nt)) hc1 (by omega) (nM rfl rfl) (by omega) (by decide) (dk dL_come_4 13 rfl) rfl (fun E342 hE342 hO342 => ?_)
                  have hQs343 : LQ cA ad E342 r2 ne (nt + 1) nk (nup nh) ln txt (upd d ((4 * nt)) (nI p)) ps := hQ207.putd hE342 hO342
                  refine g_aload_n F (q := 344) (dk dL_come_4 14 rfl) rfl rfl 1 rfl ?_
                  refine g_iconst F (q := 345) (v := 4) (dk dL_come_4 15 rfl) rfl (by decide) ?_
                  refine g_iload F (q := 347) (dk dL_come_4 16 rfl) rfl 7 rfl ?_
                  refine g_imul F (q := 348) (dk dL_come_4 17 rfl) rfl ?_
                  refine g_iconst F (q := 349) (v := 1) (dk dL_come_4 18 rfl) rfl (by decide) ?_
                  refine g_iadd F (q := 350) (dk dL_come_4 19 rfl) rfl ?_
                  refine g_iload F (q := 352) (dk dL_come_4 20 rfl) rfl 5 rfl ?_
                  have hc2 : E342 233 = .inl (cA 0, 40, .inl (upd d ((4 * nt)) (nI p))) := hQs343.dd
                  refine g_iast F (q := 353) (((4 * nt) + 1)) hc2 (by omega) (nA (nM rfl rfl) rfl) (by omega) (by decide) (dk dL_come_4 21 rfl) rfl (fun E352 hE352 hO352 => ?_)
                  have hQs353 : LQ cA ad E352 r2 ne (nt + 1) nk (nup nh) ln txt (upd (upd d ((4 * nt)) (nI p)) (((4 * nt) + 1)) t) ps := hQs343.putd hE352 hO352
                  refine g_aload_n F (q := 354) (dk dL_come_4 22 rfl) rfl rfl 1 rfl ?_
                  refine g_iconst F (q := 355) (v := 4) (dk dL_come_4 23 rfl) rfl (by decide) ?_
                  refine g_iload F (q := 357) (dk dL_come_4 24 rfl) rfl 7 rfl ?_
                  refine g_imul F (q := 358) (dk dL_come_4 25 rfl) rfl ?_
                  refine g_iconst F (q := 359) (v := 2) (dk dL_come_4 26 rfl) rfl (by decide) ?_
                  refine g_iadd F (q := 360) (dk dL_come_4 27 rfl) rfl ?_
                  refine g_aload_n F (q := 361) (dk dL_come_4 28 rfl) rfl rfl 0 rfl ?_
                  refine g_iconst F (q := 362) (v := 3) (dk dL_come_4 29 rfl) rfl (by decide) ?_
                  refine h_VI F (av := [.int 3]) (st := [.int ((4 * (nI nt)) + 2), .ref (ad 233)]) (q_count hQs353 ((vC3 hV).trans (hN.o (j := 3) (by omega) (by omega) (by omega)))) kv_X6_count tq_293 hQs353.e0 ⟨rfl, rfl⟩ (by decide) ⟨Nat.le_refl _, Nat.le_refl _⟩ rfl rfl (Nat.le_of_ble_eq_true rfl) (dk dL_come_4 30 rfl) rfl (fun E362 hQ362 => ?_)
                  have hc3 : E362 233 = .inl (cA 0, 40, .inl (upd (upd d ((4 * nt)) (nI p)) (((4 * nt) + 1)) t)) := hQ362.dd
                  refine g_iast F (q := 366) (((4 * nt) + 2)) hc3 (by omega) (nA (nM rfl rfl) rfl) (by omega) (by decide) (dk dL_come_4 31 rfl) rfl (fun E365 hE365 hO365 => ?_)
                  have hQs366 : LQ cA ad E365 r2 ne (nt + 1) nk (nup nh) ln txt (upd (upd (upd d ((4 * nt)) (nI p)) (((4 * nt) + 1)) t) (((4 * nt) + 2)) (r 3)) ps := hQ362.putd hE365 hO365
                  refine g_aload_n F (q := 367) (dk dL_come_4 32 rfl) rfl rfl 1 rfl ?_
                  refine g_iconst F (q := 368) (v := 4) (dk dL_come_4 33 rfl) rfl (by decide) ?_
                  refine g_iload F (q := 370) (dk dL_come_4 34 rfl) rfl 7 rfl ?_
                  refine g_imul F (q := 371) (dk dL_come_4 35 rfl) rfl ?_
                  refine g_iconst F (q := 372) (v := 3) (dk dL_come_4 36 rfl) rfl (by decide) ?_
                  refine g_iadd F (q := 373) (dk dL_come_4 37 rfl) rfl ?_
                  refine g_iconst F (q := 374) (v := 0) (dk dL_come_4 38 rfl) rfl (by decide) ?_
                  have hc4 : E365 233 = .inl (cA 0, 40, .inl (upd (upd (upd d ((4 * nt)) (nI p)) (((4 * nt) + 1)) t) (((4 * nt) + 2)) (r 3))) := hQs366.dd
                  refine g_iast F (q := 375) (((4 * nt) + 3)) hc4 (by omega) (nA (nM rfl rfl) rfl) (by omega) (by decide) (dk dL_come_4 39 rfl) rfl (fun E374 hE374 hO374 => ?_)
                  have hQs375 : LQ cA ad E374 r2 ne (nt + 1) nk (nup nh) ln txt (upd (upd (upd (upd d ((4 * nt)) (nI p)) (((4 * nt) + 1)) t) (((4 * nt) + 2)) (r 3)) (((4 * nt) + 3)) 0) ps := hQs366.putd hE374 hO374
                  refine g_iload F (q := 377) (dk dL_come_5 0 rfl) rfl 8 rfl ?_
                  refine g_iload F (q := 379) (dk dL_come_5 1 rfl) rfl 9 rfl ?_
                  refine g_icmp_ne F (q := 382) (tgt := 425) (dk dL_come_5 2 rfl) (by decide) rfl (fun c379 => absurd c379 (fun h => h (hcnt_ne h0))) (fun c379 => ?_)
                  refine g_aload_n F (q := 383) (dk dL_come_5 3 rfl) rfl rfl 0 rfl ?_
                  refine g_iconst F (q := 384) (v := 5) (dk dL_come_5 4 rfl) rfl (by decide) ?_
                  refine h_VI F (av := [.int 5]) (st := []) (q_count hQs375 ((vC5 hV).trans hN.2.2.1)) kv_X6_count tq_293 hQs375.e0 ⟨rfl, rfl⟩ (by decide) ⟨Nat.le_refl _, Nat.le_refl _⟩ rfl rfl (Nat.le_of_ble_eq_true rfl) (dk dL_come_5 5 rfl) rfl (fun E384 hQ384 => ?_)
                  refine g_iload F (q := 389) (dk dL_come_5 6 rfl) rfl 5 rfl ?_
                  refine g_icmp_ne F (q := 392) (tgt := 425) (dk dL_come_5 7 rfl) (by decide) rfl (fun c389 => absurd c389 (fun h => h rfl)) (fun c389 => ?_)
                  refine g_iload F (q := 394) (dk dL_come_5 8 rfl) rfl 3 rfl ?_
                  refine g_if_eq F (q := 397) (tgt := 421) (dk dL_come_5 9 rfl) (by decide) rfl (fun _ => ?_) (fun h => absurd h (by decide))
                  refine g_iconst F (q := 422) (v := 1) (dk dL_come_5 22 rfl) rfl (by decide) ?_
                  refine g_goto F (tgt := 426) (dk dL_come_5 23 rfl) (by decide) ?_
                  refine hret 1 E384 _ _ (dk dL_come_5 25 rfl) rfl ?_
                  exact ⟨rfl, r2, ne, nt + 1, nk, nup nh, ln, txt, _, _, hQ384, DD_t hN (by omega) hD, PP_t hN (by omega) h2 hP, Bey_t hN (by omega) h2 hB⟩
                · have nc210 : ¬ ne ≤ i := fun h => c210 ((nI_leI (a := ne) (b := i) (by omega) (by omega)).mpr h)
                  refine g_iload F (q := 215) (dk dL_come_2 26 rfl) rfl 4 rfl ?_
                  refine g_aload_n F (q := 216) (dk dL_come_2 27 rfl) rfl rfl 0 rfl ?_
                  refine g_iload F (q := 218) (dk dL_come_2 28 rfl) rfl 10 rfl ?_
                  refine g_iconst F (q := 219) (v := 0) (dk dL_come_2 29 rfl) rfl (by decide) ?_
                  refine h_VI F (av := [.int (nI i), .int 0]) (st := [.int (nI p)]) (q_ear hQ207 ((vE0 hV (show i < ne by omega)).trans (hN.o (by omega) (by omega) (by omega)))) kv_X6_ear tq_399 hQ207.e0 ⟨rfl, rfl⟩ (by decide) ⟨Nat.le_refl _, Nat.le_refl _⟩ rfl rfl (Nat.le_of_ble_eq_true rfl) (dk dL_come_2 30 rfl) rfl (fun E219 hQ219 => ?_)
                  refine h_SI F (av := [.int (nI p), .int (r (6 + 4 * i + 0))]) (st := []) q_far ks_L_far tq_413 ⟨rfl, rfl⟩ (by decide) ⟨Nat.le_refl _, Nat.le_refl _⟩ rfl rfl (Nat.le_of_ble_eq_true rfl) (dk dL_come_2 31 rfl) rfl (fun E222 hE222 => ?_)
                  obtain rfl := hE222
                  refine g_istore F (q := 227) (lv' := [(14, .int (far (nI p) (r (6 + 4 * i + 0)))), (0, .ref (ad 0)), (1, .ref (ad 233)), (2, .ref (ad 234)), (5, .int 0), (6, .int (nI p)), (7, .int t), (8, .int (nI c)), (9, .int (nI nt)), (11, .int (hcnt r ne (nI p) (nI c) 10)), (12, .int (hcnt r ne (nI p) (nI c) i)), (13, .int (nI i))]) (dk dL_come_2 32 rfl) rfl (Nat.le_of_ble_eq_true rfl) rfl ?_
                  refine g_aload_n F (q := 228) (dk dL_come_2 33 rfl) rfl rfl 1 rfl ?_
                  refine g_iload F (q := 230) (dk dL_come_2 34 rfl) rfl 11 rfl ?_
                  refine g_iconst F (q := 231) (v := 1) (dk dL_come_2 35 rfl) rfl (by decide) ?_
                  refine h_VI F (av := [.int (nI i), .int 1]) (st := []) (q_ear hQ219 ((vE1 hV (show i < ne by omega)).trans (hN.o (by omega) (by omega) (by omega)))) kv_X6_ear tq_399 hQ219.e0 ⟨rfl, rfl⟩ (by decide) ⟨Nat.le_refl _, Nat.le_refl _⟩ rfl rfl (Nat.le_of_ble_eq_true rfl) (dk dL_come_2 36 rfl) rfl (fun E231 hQ231 => ?_)
                  refine g_if_ne F (q := 237) (tgt := 248) (dk dL_come_2 37 rfl) (by decide) rfl (fun c234 => ?_) (fun c234 => ?_)
                  · refine g_iconst F (q := 249) (v := 0) (dk dL_come_3 3 rfl) rfl (by decide) ?_
                    refine g_istore F (q := 251) (lv' := [(15, .int 0), (14, .int (far (nI p) (r (6 + 4 * i + 0)))), (0, .ref (ad 0)), (1, .ref (ad 233)), (2, .ref (ad 234)), (5, .int 0), (6, .int (nI p)), (7, .int t), (8, .int (nI c)), (9, .int (nI nt)), (11, .int (hcnt r ne (nI p) (nI c) 10)), (12, .int (hcnt r ne (nI p) (nI c) i)), (13, .int (nI i))]) (dk dL_come_3 4 rfl) rfl (Nat.le_of_ble_eq_true rfl) rfl ?_
                    refine g_iload F (q := 253) (dk dL_come_3 5 rfl) rfl 11 rfl ?_
                    refine g_iload F (q := 255) (dk dL_come_3 6 rfl) rfl 0 rfl ?_
                    refine g_if_eq F (q := 258) (tgt := 262) (dk dL_come_3 7 rfl) (by decide) rfl (fun _ => ?_) (fun h => absurd h (by decide))
                    refine g_iconst F (q := 263) (v := 0) (dk dL_come_3 10 rfl) rfl (by decide) ?_
                    refine g_iadd F (q := 264) (dk dL_come_3 11 rfl) rfl ?_
                    refine g_sti (y := (hcnt r ne (nI p) (nI c) (i + 1))) (hcnt_f (fun q => c234 q.2.1)) ?_
                    refine g_istore F (q := 266) (lv' := [(12, .int (hcnt r ne (nI p) (nI c) (i + 1))), (15, .int 0), (14, .int (far (nI p) (r (6 + 4 * i + 0)))), (0, .ref (ad 0)), (1, .ref (ad 233)), (2, .ref (ad 234)), (5, .int 0), (6, .int (nI p)), (7, .int t), (8, .int (nI c)), (9, .int (nI nt)), (11, .int (hcnt r ne (nI p) (nI c) 10)), (13, .int (nI i))]) (dk dL_come_3 12 rfl) rfl (Nat.le_of_ble_eq_true rfl) rfl ?_
                    refine g_aload_n F (q := 267) (dk dL_come_3 13 rfl) rfl rfl 3 rfl ?_
                    refine g_iload F (q := 269) (dk dL_come_3 14 rfl) rfl 6 rfl ?_
                    refine g_iload F (q := 271) (dk dL_come_3 15 rfl) rfl 10 rfl ?_
                    refine g_iload F (q := 273) (dk dL_come_3 16 rfl) rfl 12 rfl ?_
                    refine h_VI F (av := [.int 0, .int (nI nt), .int (nI i)]) (st := []) (q_heard hQ231 ((vH0 hV (show nt < nt + 1 by omega) (show i < ne by omega)).trans (hd_f hN (by omega) (fun q => c234 q.2.1)))) kv_X6_heard tq_386 hQ231.e0 ⟨rfl, rfl⟩ (by decide) ⟨Nat.le_refl _, Nat.le_refl _⟩ rfl rfl (Nat.le_of_ble_eq_true rfl) (dk dL_come_3 17 rfl) rfl (fun E273 hQ273 => ?_)
                    refine g_iload F (q := 278) (dk dL_come_3 18 rfl) rfl 1 rfl ?_
                    refine g_if_eq F (q := 281) (tgt := 305) (dk dL_come_3 19 rfl) (by decide) rfl (fun _ => ?_) (fun h => absurd h (by decide))
                    refine g_bipush F (q := 307) (v := (-5)) (dk dL_come_3 33 rfl) rfl (by decide) ?_
                    refine g_icmp_eq F (q := 310) (tgt := 312) (dk dL_come_3 34 rfl) (by decide) rfl (fun _ => ?_) (fun h => absurd h (by decide))
                    refine g_iinc F (q := 315) (v := (nI ((i + 1)))) (lv' := [(13, .int (nI ((i + 1)))), (12, .int (hcnt r ne (nI p) (nI c) (i + 1))), (15, .int 0), (14, .int (far (nI p) (r (6 + 4 * i + 0)))), (0, .ref (ad 0)), (1, .ref (ad 233)), (2, .ref (ad 234)), (5, .int 0), (6, .int (nI p)), (7, .int t), (8, .int (nI c)), (9, .int (nI nt)), (11, .int (hcnt r ne (nI p) (nI c) 10))]) (dk dL_come_3 37 rfl) rfl 12 rfl (nI_1 _) (Nat.le_of_ble_eq_true rfl) rfl ?_
                    refine g_goto F (tgt := 203) (dk dL_come_3 38 rfl) (by decide) ?_
                    refine g_lv (lv' := [(0, .ref (ad 0)), (1, .ref (ad 233)), (2, .ref (ad 234)), (5, .int 0), (6, .int (nI p)), (7, .int t), (8, .int (nI c)), (9, .int (nI nt)), (11, .int (hcnt r ne (nI p) (nI c) 10)), (12, .int (hcnt r ne (nI p) (nI c) (i + 1))), (13, .int (nI ((i + 1))))]) [4, 5, 6, 7, 8, 9, 10, 11, 12, 1, 0] rfl ?_
                    exact ih (i + 1) E273 (by omega) hQ273 (by omega)
                  · refine g_iload F (q := 239) (dk dL_come_2 38 rfl) rfl 0 rfl ?_
                    refine g_iload F (q := 241) (dk dL_come_2 39 rfl) rfl 7 rfl ?_
                    refine g_icmp_gt F (q := 244) (tgt := 248) (dk dL_come_3 0 rfl) (by decide) rfl (fun c241 => ?_) (fun c241 => ?_)
                    · refine g_iconst F (q := 249) (v := 0) (dk dL_come_3 3 rfl) rfl (by decide) ?_
                      refine g_istore F (q := 251) (lv' := [(15, .int 0), (14, .int (far (nI p) (r (6 + 4 * i + 0)))), (0, .ref (ad 0)), (1, .ref (ad 233)), (2, .ref (ad 234)), (5, .int 0), (6, .int (nI p)), (7, .int t), (8, .int (nI c)), (9, .int (nI nt)), (11, .int (hcnt r ne (nI p) (nI c) 10)), (12, .int (hcnt r ne (nI p) (nI c) i)), (13, .int (nI i))]) (dk dL_come_3 4 rfl) rfl (Nat.le_of_ble_eq_true rfl) rfl ?_
                      refine g_iload F (q := 253) (dk dL_come_3 5 rfl) rfl 11 rfl ?_
                      refine g_iload F (q := 255) (dk dL_come_3 6 rfl) rfl 0 rfl ?_
                      refine g_if_eq F (q := 258) (tgt := 262) (dk dL_come_3 7 rfl) (by decide) rfl (fun _ => ?_) (fun h => absurd h (by decide))
                      refine g_iconst F (q := 263) (v := 0) (dk dL_come_3 10 rfl) rfl (by decide) ?_
                      refine g_iadd F (q := 264) (dk dL_come_3 11 rfl) rfl ?_
                      refine g_sti (y := (hcnt r ne (nI p) (nI c) (i + 1))) (hcnt_f (fun q => absurd q.2.2 (Int32.not_le.mpr c241))) ?_
                      refine g_istore F (q := 266) (lv' := [(12, .int (hcnt r ne (nI p) (nI c) (i + 1))), (15, .int 0), (14, .int (far (nI p) (r (6 + 4 * i + 0)))), (0, .ref (ad 0)), (1, .ref (ad 233)), (2, .ref (ad 234)), (5, .int 0), (6, .int (nI p)), (7, .int t), (8, .int (nI c)), (9, .int (nI nt)), (11, .int (hcnt r ne (nI p) (nI c) 10)), (13, .int (nI i))]) (dk dL_come_3 12 rfl) rfl (Nat.le_of_ble_eq_true rfl) rfl ?_
                      refine g_aload_n F (q := 267) (dk dL_come_3 13 rfl) rfl rfl 3 rfl ?_
                      refine g_iload F (q := 269) (dk dL_come_3 14 rfl) rfl 6 rfl ?_
                      refine g_iload F (q := 271) (dk dL_come_3 15 rfl) rfl 10 rfl ?_
                      refine g_iload F (q := 273) (dk dL_come_3 16 rfl) rfl 12 rfl ?_
                      refine h_VI F (av := [.int 0, .int (nI nt), .int (nI i)]) (st := []) (q_heard hQ231 ((vH0 hV (show nt < nt + 1 by omega) (show i < ne by omega)).trans (hd_f hN (by omega) (fun q => absurd q.2.2 (Int32.not_le.mpr c241))))) kv_X6_heard tq_386 hQ231.e0 ⟨rfl, rfl⟩ (by decide) ⟨Nat.le_refl _, Nat.le_refl _⟩ rfl rfl (Nat.le_of_ble_eq_true rfl) (dk dL_come_3 17 rfl) rfl (fun E273 hQ273 => ?_)
                      refine g_iload F (q := 278) (dk dL_come_3 18 rfl) rfl 1 rfl ?_
                      refine g_if_eq F (q := 281) (tgt := 305) (dk dL_come_3 19 rfl) (by decide) rfl (fun _ => ?_) (fun h => absurd h (by decide))
                      refine g_bipush F (q := 307) (v := (-5)) (dk dL_come_3 33 rfl) rfl (by decide) ?_
                      refine g_icmp_eq F (q := 310) (tgt := 312) (dk dL_come_3 34 rfl) (by decide) rfl (fun _ => ?_) (fun h => absurd h (by decide))
                      refine g_iinc F (q := 315) (v := (nI ((i + 1)))) (lv' := [(13, .int (nI ((i + 1)))), (12, .int (hcnt r ne (nI p) (nI c) (i + 1))), (15, .int 0), (14, .int (far (nI p) (r (6 + 4 * i + 0)))), (0, .ref (ad 0)), (1, .ref (ad 233)), (2, .ref (ad 234)), (5, .int 0), (6, .int (nI p)), (7, .int t), (8, .int (nI c)), (9, .int (nI nt)), (11, .int (hcnt r ne (nI p) (nI c) 10))]) (dk dL_come_3 37 rfl) rfl 12 rfl (nI_1 _) (Nat.le_of_ble_eq_true rfl) rfl ?_
                      refine g_goto F (tgt := 203) (dk dL_come_3 38 rfl) (by decide) ?_
                      refine g_lv (lv' := [(0, .ref (ad 0)), (1, .ref (ad 233)), (2, .ref (ad 234)), (5, .int 0), (6, .int (nI p)), (7, .int t), (8, .int (nI c)), (9, .int (nI nt)), (11, .int (hcnt r ne (nI p) (nI c) 10)), (12, .int (hcnt r ne (nI p) (nI c) (i + 1))), (13, .int (nI ((i + 1))))]) [4, 5, 6, 7, 8, 9, 10, 11, 12, 1, 0] rfl ?_
                      exact ih (i + 1) E273 (by omega) hQ273 (by omega)
                    · refine g_iconst F (q := 245) (v := 1) (dk dL_come_3 1 rfl) rfl (by decide) ?_
                      refine g_goto F (tgt := 249) (dk dL_come_3 2 rfl) (by decide) ?_
                      refine g_istore F (q := 251) (lv' := [(15, .int 1), (14, .int (far (nI p) (r (6 + 4 * i + 0)))), (0, .ref (ad 0)), (1, .ref (ad 233)), (2, .ref (ad 234)), (5, .int 0), (6, .int (nI p)), (7, .int t), (8, .int (nI c)), (9, .int (nI nt)), (11, .int (hcnt r ne (nI p) (nI c) 10)), (12, .int (hcnt r ne (nI p) (nI c) i)), (13, .int (nI i))]) (dk dL_come_3 4 rfl) rfl (Nat.le_of_ble_eq_true rfl) rfl ?_
                      refine g_iload F (q := 253) (dk dL_come_3 5 rfl) rfl 11 rfl ?_
                      refine g_iload F (q := 255) (dk dL_come_3 6 rfl) rfl 0 rfl ?_
                      refine g_if_eq F (q := 258) (tgt := 262) (dk dL_come_3 7 rfl) (by decide) rfl (fun h => absurd h (by decide)) (fun _ => ?_)
                      refine g_iconst F (q := 259) (v := 1) (dk dL_come_3 8 rfl) rfl (by decide) ?_
                      refine g_goto F (tgt := 263) (dk dL_come_3 9 rfl) (by decide) ?_
                      refine g_iadd F (q := 264) (dk dL_come_3 11 rfl) rfl ?_
                      refine g_sti (y := (hcnt r ne (nI p) (nI c) (i + 1))) (hcnt_t (show i < ne by omega) c234 (Int32.not_lt.mp c241)) ?_
                      refine g_istore F (q := 266) (lv' := [(12, .int (hcnt r ne (nI p) (nI c) (i + 1))), (15, .int 1), (14, .int (far (nI p) (r (6 + 4 * i + 0)))), (0, .ref (ad 0)), (1, .ref (ad 233)), (2, .ref (ad 234)), (5, .int 0), (6, .int (nI p)), (7, .int t), (8, .int (nI c)), (9, .int (nI nt)), (11, .int (hcnt r ne (nI p) (nI c) 10)), (13, .int (nI i))]) (dk dL_come_3 12 rfl) rfl (Nat.le_of_ble_eq_true rfl) rfl ?_
                      refine g_aload_n F (q := 267) (dk dL_come_3 13 rfl) rfl rfl 3 rfl ?_
                      refine g_iload F (q := 269) (dk dL_come_3 14 rfl) rfl 6 rfl ?_
                      refine g_iload F (q := 271) (dk dL_come_3 15 rfl) rfl 10 rfl ?_
                      refine g_iload F (q := 273) (dk dL_come_3 16 rfl) rfl 12 rfl ?_
                      refine h_VI F (av := [.int 0, .int (nI nt), .int (nI i)]) (st := []) (q_heard hQ231 ((vH0 hV (show nt < nt + 1 by omega) (show i < ne by omega)).trans (hd_t hVo hN hp2 ht2 (show i < ne by omega) c234 (Int32.not_lt.mp c241)))) kv_X6_heard tq_386 hQ231.e0 ⟨rfl, rfl⟩ (by decide) ⟨Nat.le_refl _, Nat.le_refl _⟩ rfl rfl (Nat.le_of_ble_eq_true rfl) (dk dL_come_3 17 rfl) rfl (fun E273 hQ273 => ?_)
                      refine g_iload F (q := 278) (dk dL_come_3 18 rfl) rfl 1 rfl ?_
                      refine g_if_eq F (q := 281) (tgt := 305) (dk dL_come_3 19 rfl) (by decide) rfl (fun h => absurd h (by decide)) (fun _ => ?_)
                      refine g_aload_n F (q := 282) (dk dL_come_3 20 rfl) rfl rfl 3 rfl ?_
                      refine g_iload F (q := 284) (dk dL_come_3 21 rfl) rfl 12 rfl ?_
                      refine g_iload F (q := 286) (dk dL_come_3 22 rfl) rfl 8 rfl ?_
                      refine g_aload_n F (q := 287) (dk dL_come_3 23 rfl) rfl rfl 3 rfl ?_
                      refine g_iconst F (q := 288) (v := 3) (dk dL_come_3 24 rfl) rfl (by decide) ?_
                      refine h_VI F (av := [.int 3]) (st := [.int t, .int (nI i), .ref (ad 0), .int ((rdc r i (t + r 3 * far (nI p) (r (6 + 4 * i + 0)))) + 10000)]) (q_count hQ273 ((vC3 hV).trans (hN.o (j := 3) (by omega) (by omega) (by omega)))) kv_X6_count tq_293 hQ273.e0 ⟨rfl, rfl⟩ (by decide) ⟨Nat.le_refl _, Nat.le_refl _⟩ rfl rfl (Nat.le_of_ble_eq_true rfl) (dk dL_come_3 25 rfl) rfl (fun E288 hQ288 => ?_)
                      refine g_iload F (q := 293) (dk dL_come_3 26 rfl) rfl 2 rfl ?_
                      refine g_imul F (q := 294) (dk dL_come_3 27 rfl) rfl ?_
                      refine g_iadd F (q := 295) (dk dL_come_3 28 rfl) rfl ?_
                      refine h_SI F (av := [.ref (ad 0), .int (nI i), .int (t + ((r 3) * (far (nI p) (r (6 + 4 * i + 0)))))]) (st := [.int ((rdc r i (t + r 3 * far (nI p) (r (6 + 4 * i + 0)))) + 10000)]) ((CQ.of (c_L_reads hQ288 (show i < ne by omega))).eq (rdc_c2 (fun j q1 q2 => hN.o q2 (by omega) (by omega)) (show i < 10 by omega))) ks_L_reads tq_451 ⟨rfl, rfl⟩ (by decide) ⟨Nat.le_refl _, Nat.le_refl _⟩ rfl rfl (Nat.le_of_ble_eq_true rfl) (dk dL_come_3 29 rfl) rfl (fun E295 hQ295 => ?_)
                      refine g_sipush F (q := 301) (v := 10000) (dk dL_come_3 30 rfl) rfl (by decide) ?_
                      refine g_iadd F (q := 302) (dk dL_come_3 31 rfl) rfl ?_
                      refine g_goto F (tgt := 307) (dk dL_come_3 32 rfl) (by decide) ?_
                      refine g_icmp_eq F (q := 310) (tgt := 312) (dk dL_come_3 34 rfl) (by decide) rfl (fun c307 => ?_) (fun c307 => absurd c307 (fun h => h rfl))
                      refine g_iinc F (q := 315) (v := (nI ((i + 1)))) (lv' := [(13, .int (nI ((i + 1)))), (12, .int (hcnt r ne (nI p) (nI c) (i + 1))), (15, .int 1), (14, .int (far (nI p) (r (6 + 4 * i + 0)))), (0, .ref (ad 0)), (1, .ref (ad 233)), (2, .ref (ad 234)), (5, .int 0), (6, .int (nI p)), (7, .int t), (8, .int (nI c)), (9, .int (nI nt)), (11, .int (hcnt r ne (nI p) (nI c) 10))]) (dk dL_come_3 37 rfl) rfl 12 rfl (nI_1 _) (Nat.le_of_ble_eq_true rfl) rfl ?_
                      refine g_goto F (tgt := 203) (dk dL_come_3 38 rfl) (by decide) ?_
                      refine g_lv (lv' := [(0, .ref (ad 0)), (1, .ref (ad 233)), (2, .ref (ad 234)), (5, .int 0), (6, .int (nI p)), (7, .int t), (8, .int (nI c)), (9, .int (nI nt)), (11, .int (hcnt r ne (nI p) (nI c) 10)), (12, .int (hcnt r ne (nI p) (nI c) (i + 1))), (13, .int (nI ((i + 1))))]) [4, 5, 6, 7, 8, 9, 10, 11, 12, 1, 0] rfl ?_
                      exact ih (i + 1) E295 (by omega) hQ295 (by omega)
            refine g_lv (lv' := [(0, .ref (ad 0)), (1, .ref (ad 233)), (2, .ref (ad 234)), (5, .int 0), (6, .int (nI p)), (7, .int t), (8, .int (nI c)), (9, .int (nI nt)), (11, .int (hcnt r ne (nI p) (nI c) 10)), (12, .int 0), (13, .int 0)]) [6, 7, 8, 11, 12, 13, 5, 4, 2, 1, 0] rfl ?_
            exact K203 _ 0 E149 (Nat.lt_succ_self _) hQ149 (by omega)
        · refine g_iconst F (q := 104) (v := 1) (dk dL_come_1 13 rfl) rfl (by decide) ?_
          refine g_goto F (tgt := 108) (dk dL_come_1 14 rfl) (by decide) ?_
          refine g_istore F (q := 110) (lv' := [(10, .int 1), (9, .int (nI nt)), (8, .int (nI c)), (0, .ref (ad 0)), (1, .ref (ad 233)), (2, .ref (ad 234)), (3, .int g), (4, .int h), (5, .int 0), (6, .int (nI p)), (7, .int t)]) (dk dL_come_1 16 rfl) rfl (Nat.le_of_ble_eq_true rfl) rfl ?_
          refine g_iload F (q := 112) (dk dL_come_1 17 rfl) rfl 8 rfl ?_
          refine g_if_eq F (q := 115) (tgt := 128) (dk dL_come_1 18 rfl) (by decide) rfl (fun _ => ?_) (fun h => absurd h (by decide))
          refine g_aload_n F (q := 129) (dk dL_come_1 25 rfl) rfl rfl 3 rfl ?_
          refine g_iload F (q := 131) (dk dL_come_1 26 rfl) rfl 9 rfl ?_
          refine g_iload F (q := 133) (dk dL_come_1 27 rfl) rfl 10 rfl ?_
          refine g_iload F (q := 135) (dk dL_come_1 28 rfl) rfl 2 rfl ?_
          refine h_VI F (av := [.int (nI p), .int t, .int (nI c)]) (st := []) (q_thump_n hQ86 (ac_bad (fun q => c100 q.2))) kv_X6_thump tq_571 hQ86.e0 ⟨rfl, rfl⟩ (by decide) ⟨Nat.le_refl _, Nat.le_refl _⟩ rfl rfl (Nat.le_of_ble_eq_true rfl) (dk dL_come_1 29 rfl) rfl (fun E135 hQ135 => ?_)
          refine g_istore F (q := 140) (lv' := [(11, .int (-2)), (10, .int 1), (9, .int (nI nt)), (8, .int (nI c)), (0, .ref (ad 0)), (1, .ref (ad 233)), (2, .ref (ad 234)), (3, .int g), (4, .int h), (5, .int 0), (6, .int (nI p)), (7, .int t)]) (dk dL_come_1 30 rfl) rfl (Nat.le_of_ble_eq_true rfl) rfl ?_
          refine g_iload F (q := 142) (dk dL_come_1 31 rfl) rfl 1 rfl ?_
          refine g_if_ne F (q := 145) (tgt := 162) (dk dL_come_1 32 rfl) (by decide) rfl (fun _ => ?_) (fun h => absurd h (by decide))
          refine g_iload F (q := 164) (dk dL_come_2 1 rfl) rfl 0 rfl ?_
          refine g_iload F (q := 166) (dk dL_come_2 2 rfl) rfl 1 rfl ?_
          refine g_if_eq F (q := 169) (tgt := 174) (dk dL_come_2 3 rfl) (by decide) rfl (fun h => absurd h (by decide)) (fun _ => ?_)
          refine g_bipush F (q := 171) (v := (-2)) (dk dL_come_2 4 rfl) rfl (by decide) ?_
          refine g_goto F (tgt := 188) (dk dL_come_2 5 rfl) (by decide) ?_
          refine g_icmp_ne F (q := 191) (tgt := 195) (dk dL_come_2 12 rfl) (by decide) rfl (fun h => absurd h (by decide)) (fun _ => ?_)
          refine g_iconst F (q := 192) (v := 1) (dk dL_come_2 13 rfl) rfl (by decide) ?_
          refine g_goto F (tgt := 196) (dk dL_come_2 14 rfl) (by decide) ?_
          refine hret 1 E135 _ _ (dk dL_come_2 16 rfl) rfl ?_
          exact ⟨rfl, r, ne, nt, nk, nh, ln, txt, d, ps, hQ135, hD, hP, hB⟩
    refine g_iload_n F (q := 46) (dk dL_come_0 24 rfl) rfl rfl 6 rfl ?_
    refine g_iconst F (q := 47) (v := 4) (dk dL_come_0 25 rfl) rfl (by decide) ?_
    refine g_ishr F (q := 48) (dk dL_come_0 26 rfl) rfl ?_
    refine g_iconst F (q := 49) (v := 3) (dk dL_come_0 27 rfl) rfl (by decide) ?_
    refine h_SI F (av := [.int (g >>> (4 &&& 31)), .int 3]) (st := []) (q_low (v := (g >>> (4 &&& 31))) (N := 3) (by omega) (by omega)) ks_L_low tq_376 ⟨rfl, rfl⟩ (by decide) ⟨Nat.le_refl _, Nat.le_refl _⟩ rfl rfl (Nat.le_of_ble_eq_true rfl) (dk dL_come_0 28 rfl) rfl (fun E49 hE49 => ?_)
    obtain rfl := hE49
    refine g_if_ne F (q := 55) (tgt := 70) (dk dL_come_0 29 rfl) (by decide) rfl (fun c52 => ?_) (fun c52 => ?_)
    · refine g_sipush F (q := 73) (v := 1000) (dk dL_come_0 38 rfl) rfl (by decide) ?_
      refine g_lv (lv' := [(0, .ref (ad 0)), (1, .ref (ad 233)), (2, .ref (ad 234)), (3, .int g), (4, .int h), (5, .int 0), (6, .int (nI p)), (7, .int t)]) [3, 4, 5, 6, 7, 2, 1, 0] rfl ?_
      exact K73 1000 (by omega) (by omega)
    · refine g_iconst F (q := 56) (v := 1) (dk dL_come_0 30 rfl) rfl (by decide) ?_
      refine g_iload F (q := 58) (dk dL_come_0 31 rfl) rfl 7 rfl ?_
      refine g_iconst F (q := 59) (v := 3) (dk dL_come_0 32 rfl) rfl (by decide) ?_
      refine g_ishr F (q := 60) (dk dL_come_0 33 rfl) rfl ?_
      refine g_sipush F (q := 63) (v := 1000) (dk dL_come_0 34 rfl) rfl (by decide) ?_
      refine h_SI F (av := [.int (h >>> (3 &&& 31)), .int 1000]) (st := [.int 1]) (q_low (v := (h >>> (3 &&& 31))) (N := 1000) (by omega) (by omega)) ks_L_low tq_376 ⟨rfl, rfl⟩ (by decide) ⟨Nat.le_refl _, Nat.le_refl _⟩ rfl rfl (Nat.le_of_ble_eq_true rfl) (dk dL_come_0 35 rfl) rfl (fun E63 hE63 => ?_)
      obtain rfl := hE63
      obtain ⟨c0, hc0, ec0⟩ := low_ex (v := (h >>> (3 &&& 31))) (N := 1000) (by omega)
      refine g_sti (y := nI c0) ec0 ?_
      refine g_iadd F (q := 67) (dk dL_come_0 36 rfl) rfl ?_
      refine g_sti (y := (nI ((1 + c0)))) (nA rfl rfl) ?_
      refine g_goto F (tgt := 73) (dk dL_come_0 37 rfl) (by decide) ?_
      refine g_lv (lv' := [(0, .ref (ad 0)), (1, .ref (ad 233)), (2, .ref (ad 234)), (3, .int g), (4, .int h), (5, .int 0), (6, .int (nI p)), (7, .int t)]) [3, 4, 5, 6, 7, 2, 1, 0] rfl ?_
      exact K73 (1 + c0) (by omega) (by omega)
  · refine g_iconst F (q := 9) (v := 1) (dk dL_come_0 4 rfl) rfl (by decide) ?_
    refine g_goto F (tgt := 13) (dk dL_come_0 5 rfl) (by decide) ?_
    refine g_istore F (q := 15) (lv' := [(5, .int 1), (0, .ref (ad 0)), (1, .ref (ad 233)), (2, .ref (ad 234)), (3, .int g), (4, .int h)]) (dk dL_come_0 7 rfl) rfl (Nat.le_of_ble_eq_true rfl) rfl ?_
    refine g_iload F (q := 17) (dk dL_come_0 8 rfl) rfl 5 rfl ?_
    refine g_sipush F (q := 20) (v := 1001) (dk dL_come_0 9 rfl) rfl (by decide) ?_
    refine h_SI F (av := [.int h, .int 1001]) (st := []) (q_low (v := h) (N := 1001) (by omega) (by omega)) ks_L_low tq_376 ⟨rfl, rfl⟩ (by decide) ⟨Nat.le_refl _, Nat.le_refl _⟩ rfl rfl (Nat.le_of_ble_eq_true rfl) (dk dL_come_0 10 rfl) rfl (fun E20 hE20 => ?_)
    obtain rfl := hE20
    obtain ⟨p, hp, ep⟩ := low_ex (v := h) (N := 1001) (by omega)
    refine g_sti (y := nI p) ep ?_
    refine g_istore F (q := 25) (lv' := [(6, .int (nI p)), (5, .int 1), (0, .ref (ad 0)), (1, .ref (ad 233)), (2, .ref (ad 234)), (3, .int g), (4, .int h)]) (dk dL_come_0 11 rfl) rfl (Nat.le_of_ble_eq_true rfl) rfl ?_
    refine g_aload_n F (q := 26) (dk dL_come_0 12 rfl) rfl rfl 2 rfl ?_
    refine g_iconst F (q := 27) (v := 5) (dk dL_come_0 13 rfl) rfl (by decide) ?_
    refine h_VI F (av := [.int 5]) (st := []) (q_count hQ (vC5 hV)) kv_X6_count tq_293 hQ.e0 ⟨rfl, rfl⟩ (by decide) ⟨Nat.le_refl _, Nat.le_refl _⟩ rfl rfl (Nat.le_of_ble_eq_true rfl) (dk dL_come_0 14 rfl) rfl (fun E27 hQ27 => ?_)
    refine g_iload_n F (q := 31) (dk dL_come_0 15 rfl) rfl rfl 5 rfl ?_
    refine g_iconst F (q := 32) (v := 1) (dk dL_come_0 16 rfl) rfl (by decide) ?_
    refine g_ishr F (q := 33) (dk dL_come_0 17 rfl) rfl ?_
    refine g_sipush F (q := 36) (v := 3000) (dk dL_come_0 18 rfl) rfl (by decide) ?_
    refine h_SI F (av := [.int (g >>> (1 &&& 31)), .int 3000]) (st := [.int (r 5)]) (q_low (v := (g >>> (1 &&& 31))) (N := 3000) (by omega) (by omega)) ks_L_low tq_376 ⟨rfl, rfl⟩ (by decide) ⟨Nat.le_refl _, Nat.le_refl _⟩ rfl rfl (Nat.le_of_ble_eq_true rfl) (dk dL_come_0 19 rfl) rfl (fun E36 hE36 => ?_)
    obtain rfl := hE36
    refine g_iadd F (q := 40) (dk dL_come_0 20 rfl) rfl ?_
    refine g_bipush F (q := 42) (v := 100) (dk dL_come_0 21 rfl) rfl (by decide) ?_
    refine g_isub F (q := 43) (dk dL_come_0 22 rfl) rfl ?_
    refine g_topi (fun t et => ?_)
    refine g_istore F (q := 45) (lv' := [(7, .int t), (6, .int (nI p)), (5, .int 1), (0, .ref (ad 0)), (1, .ref (ad 233)), (2, .ref (ad 234)), (3, .int g), (4, .int h)]) (dk dL_come_0 23 rfl) rfl (Nat.le_of_ble_eq_true rfl) rfl ?_
    have K73 : ∀ (c : Nat), (hc0 : 1 ≤ c) → (hc1 : c ≤ 1000) → GG rm_L_come 16 l D X 0 0 235 ad E27 73 [(0, .ref (ad 0)), (1, .ref (ad 233)), (2, .ref (ad 234)), (3, .int g), (4, .int h), (5, .int 1), (6, .int (nI p)), (7, .int t)] [.int (nI c)] := by
      intro c hc0 hc1
      have hp2 : (0 : Int32) ≤ nI p ∧ nI p ≤ 1000 := ⟨nI_pos' (by omega), nI_le (a := p) (b := 1000) (by omega) (by omega)⟩
      have hc2 : (1 : Int32) ≤ nI c ∧ nI c ≤ 1000 := ⟨nI_le (a := 1) (b := c) (by omega) (by omega), nI_le (a := c) (b := 1000) (by omega) (by omega)⟩
      refine g_istore F (q := 75) (lv' := [(8, .int (nI c)), (0, .ref (ad 0)), (1, .ref (ad 233)), (2, .ref (ad 234)), (3, .int g), (4, .int h), (5, .int 1), (6, .int (nI p)), (7, .int t)]) (dk dL_come_0 39 rfl) rfl (Nat.le_of_ble_eq_true rfl) rfl ?_
      refine g_aload_n F (q := 76) (dk dL_come_1 0 rfl) rfl rfl 1 rfl ?_
      refine g_iload F (q := 78) (dk dL_come_1 1 rfl) rfl 6 rfl ?_
      refine g_if_eq F (q := 81) (tgt := 85) (dk dL_come_1 2 rfl) (by decide) rfl (fun h => absurd h (by decide)) (fun _ => ?_)
      refine g_iconst F (q := 82) (v := 2) (dk dL_come_1 3 rfl) rfl (by decide) ?_
      refine g_goto F (tgt := 86) (dk dL_come_1 4 rfl) (by decide) ?_
      refine h_VI F (av := [.int 2]) (st := []) (q_count hQ27 (vC2 hV)) kv_X6_count tq_293 hQ27.e0 ⟨rfl, rfl⟩ (by decide) ⟨Nat.le_refl _, Nat.le_refl _⟩ rfl rfl (Nat.le_of_ble_eq_true rfl) (dk dL_come_1 6 rfl) rfl (fun E86 hQ86 => ?_)
      refine g_istore F (q := 91) (lv' := [(9, .int (nI nk)), (8, .int (nI c)), (0, .ref (ad 0)), (1, .ref (ad 233)), (2, .ref (ad 234)), (3, .int g), (4, .int h), (5, .int 1), (6, .int (nI p)), (7, .int t)]) (dk dL_come_1 7 rfl) rfl (Nat.le_of_ble_eq_true rfl) rfl ?_
      refine g_iload F (q := 93) (dk dL_come_1 8 rfl) rfl 9 rfl ?_
      refine g_if_lt F (q := 96) (tgt := 103) (dk dL_come_1 9 rfl) (by decide) rfl (fun c93 => ?_) (fun c93 => ?_)
      · refine g_iconst F (q := 104) (v := 1) (dk dL_come_1 13 rfl) rfl (by decide) ?_
        refine g_goto F (tgt := 108) (dk dL_come_1 14 rfl) (by decide) ?_
        refine g_istore F (q := 110) (lv' := [(10, .int 1), (9, .int (nI nk)), (8, .int (nI c)), (0, .ref (ad 0)), (1, .ref (ad 233)), (2, .ref (ad 234)), (3, .int g), (4, .int h), (5, .int 1), (6, .int (nI p)), (7, .int t)]) (dk dL_come_1 16 rfl) rfl (Nat.le_of_ble_eq_true rfl) rfl ?_
        refine g_iload F (q := 112) (dk dL_come_1 17 rfl) rfl 8 rfl ?_
        refine g_if_eq F (q := 115) (tgt := 128) (dk dL_come_1 18 rfl) (by decide) rfl (fun h => absurd h (by decide)) (fun _ => ?_)
        refine g_aload_n F (q := 116) (dk dL_come_1 19 rfl) rfl rfl 3 rfl ?_
        refine g_iload F (q := 118) (dk dL_come_1 20 rfl) rfl 9 rfl ?_
        refine g_iload F (q := 120) (dk dL_come_1 21 rfl) rfl 10 rfl ?_
        refine g_iload F (q := 122) (dk dL_come_1 22 rfl) rfl 2 rfl ?_
        refine h_VI F (av := [.int (nI p), .int t, .int (nI c)]) (st := []) (q_knock_n hQ86 (ac_bad (fun q => absurd q.1 (Int32.not_le.mpr c93)))) kv_X6_knock tq_547 hQ86.e0 ⟨rfl, rfl⟩ (by decide) ⟨Nat.le_refl _, Nat.le_refl _⟩ rfl rfl (Nat.le_of_ble_eq_true rfl) (dk dL_come_1 23 rfl) rfl (fun E122 hQ122 => ?_)
        refine g_goto F (tgt := 138) (dk dL_come_1 24 rfl) (by decide) ?_
        refine g_istore F (q := 140) (lv' := [(11, .int (-2)), (10, .int 1), (9, .int (nI nk)), (8, .int (nI c)), (0, .ref (ad 0)), (1, .ref (ad 233)), (2, .ref (ad 234)), (3, .int g), (4, .int h), (5, .int 1), (6, .int (nI p)), (7, .int t)]) (dk dL_come_1 30 rfl) rfl (Nat.le_of_ble_eq_true rfl) rfl ?_
        refine g_iload F (q := 142) (dk dL_come_1 31 rfl) rfl 1 rfl ?_
        refine g_if_ne F (q := 145) (tgt := 162) (dk dL_come_1 32 rfl) (by decide) rfl (fun _ => ?_) (fun h => absurd h (by decide))
        refine g_iload F (q := 164) (dk dL_come_2 1 rfl) rfl 0 rfl ?_
        refine g_iload F (q := 166) (dk dL_come_2 2 rfl) rfl 1 rfl ?_
        refine g_if_eq F (q := 169) (tgt := 174) (dk dL_come_2 3 rfl) (by decide) rfl (fun h => absurd h (by decide)) (fun _ => ?_)
        refine g_bipush F (q := 171) (v := (-2)) (dk dL_come_2 4 rfl) rfl (by decide) ?_
        refine g_goto F (tgt := 188) (dk dL_come_2 5 rfl) (by decide) ?_
        refine g_icmp_ne F (q := 191) (tgt := 195) (dk dL_come_2 12 rfl) (by decide) rfl (fun h => absurd h (by decide)) (fun _ => ?_)
        refine g_iconst F (q := 192) (v := 1) (dk dL_come_2 13 rfl) rfl (by decide) ?_
        refine g_goto F (tgt := 196) (dk dL_come_2 14 rfl) (by decide) ?_
        refine hret 1 E122 _ _ (dk dL_come_2 16 rfl) rfl ?_
        exact ⟨rfl, r, ne, nt, nk, nh, ln, txt, d, ps, hQ122, hD, hP, hB⟩
      · refine g_iload F (q := 98) (dk dL_come_1 10 rfl) rfl 9 rfl ?_
        refine g_ldc F (q := 100) (v := 100000) (dk dL_come_1 11 rfl) rfl tq_546 ?_
        refine g_icmp_le F (q := 103) (tgt := 107) (dk dL_come_1 12 rfl) (by decide) rfl (fun c100 => ?_) (fun c100 => ?_)
        · have ht2 : 0 ≤ t ∧ t ≤ 100000 := ⟨Int32.not_lt.mp c93, c100⟩
          refine g_iconst F (q := 108) (v := 0) (dk dL_come_1 15 rfl) rfl (by decide) ?_
          refine g_istore F (q := 110) (lv' := [(10, .int 0), (9, .int (nI nk)), (8, .int (nI c)), (0, .ref (ad 0)), (1, .ref (ad 233)), (2, .ref (ad 234)), (3, .int g), (4, .int h), (5, .int 1), (6, .int (nI p)), (7, .int t)]) (dk dL_come_1 16 rfl) rfl (Nat.le_of_ble_eq_true rfl) rfl ?_
          refine g_iload F (q := 112) (dk dL_come_1 17 rfl) rfl 8 rfl ?_
          refine g_if_eq F (q := 115) (tgt := 128) (dk dL_come_1 18 rfl) (by decide) rfl (fun h => absurd h (by decide)) (fun _ => ?_)
          refine g_aload_n F (q := 116) (dk dL_come_1 19 rfl) rfl rfl 3 rfl ?_
          refine g_iload F (q := 118) (dk dL_come_1 20 rfl) rfl 9 rfl ?_
          refine g_iload F (q := 120) (dk dL_come_1 21 rfl) rfl 10 rfl ?_
          refine g_iload F (q := 122) (dk dL_come_1 22 rfl) rfl 2 rfl ?_
          rcases co_cases t (r 5) nk with hlt | ⟨hlt, hm10⟩ | ⟨hlt, hm10⟩
          · refine h_VI F (av := [.int (nI p), .int t, .int (nI c)]) (st := []) (q_knock_n hQ86 (ac_old hp2 ht2 hc2 hlt)) kv_X6_knock tq_547 hQ86.e0 ⟨rfl, rfl⟩ (by decide) ⟨Nat.le_refl _, Nat.le_refl _⟩ rfl rfl (Nat.le_of_ble_eq_true rfl) (dk dL_come_1 23 rfl) rfl (fun E122 hQ122 => ?_)
            refine g_goto F (tgt := 138) (dk dL_come_1 24 rfl) (by decide) ?_
            refine g_istore F (q := 140) (lv' := [(11, .int (-4)), (10, .int 0), (9, .int (nI nk)), (8, .int (nI c)), (0, .ref (ad 0)), (1, .ref (ad 233)), (2, .ref (ad 234)), (3, .int g), (4, .int h), (5, .int 1), (6, .int (nI p)), (7, .int t)]) (dk dL_come_1 30 rfl) rfl (Nat.le_of_ble_eq_true rfl) rfl ?_
            refine g_iload F (q := 142) (dk dL_come_1 31 rfl) rfl 1 rfl ?_
            refine g_if_ne F (q := 145) (tgt := 162) (dk dL_come_1 32 rfl) (by decide) rfl (fun h => absurd h (by decide)) (fun _ => ?_)
            refine g_iload F (q := 147) (dk dL_come_1 33 rfl) rfl 11 rfl ?_
            refine g_aload_n F (q := 148) (dk dL_come_1 34 rfl) rfl rfl 4 rfl ?_
            refine g_iconst F (q := 149) (v := 5) (dk dL_come_1 35 rfl) rfl (by decide) ?_
            refine h_VI F (av := [.int 5]) (st := [.int t]) (q_count hQ122 (vC5 hV)) kv_X6_count tq_293 hQ122.e0 ⟨rfl, rfl⟩ (by decide) ⟨Nat.le_refl _, Nat.le_refl _⟩ rfl rfl (Nat.le_of_ble_eq_true rfl) (dk dL_come_1 36 rfl) rfl (fun E149 hQ149 => ?_)
            refine g_icmp_lt F (q := 155) (tgt := 162) (dk dL_come_1 37 rfl) (by decide) rfl (fun c152 => ?_) (fun c152 => absurd c152 (fun h => h hlt))
            refine g_iload F (q := 164) (dk dL_come_2 1 rfl) rfl 0 rfl ?_
            refine g_iload F (q := 166) (dk dL_come_2 2 rfl) rfl 1 rfl ?_
            refine g_if_eq F (q := 169) (tgt := 174) (dk dL_come_2 3 rfl) (by decide) rfl (fun _ => ?_) (fun h => absurd h (by decide))
            refine g_iload F (q := 176) (dk dL_come_2 6 rfl) rfl 0 rfl ?_
            refine g_bipush F (q := 178) (v := (-3)) (dk dL_come_2 7 rfl) rfl (by decide) ?_
            refine g_icmp_ne F (q := 181) (tgt := 186) (dk dL_come_2 8 rfl) (by decide) rfl (fun _ => ?_) (fun h => absurd h (by decide))
            refine g_bipush F (q := 188) (v := (-4)) (dk dL_come_2 11 rfl) rfl (by decide) ?_
            refine g_icmp_ne F (q := 191) (tgt := 195) (dk dL_come_2 12 rfl) (by decide) rfl (fun h => absurd h (by decide)) (fun _ => ?_)
            refine g_iconst F (q := 192) (v := 1) (dk dL_come_2 13 rfl) rfl (by decide) ?_
            refine g_goto F (tgt := 196) (dk dL_come_2 14 rfl) (by decide) ?_
            refine hret 1 E149 _ _ (dk dL_come_2 16 rfl) rfl ?_
            exact ⟨rfl, r, ne, nt, nk, nh, ln, txt, d, ps, hQ149, hD, hP, hB⟩
          · refine h_VI F (av := [.int (nI p), .int t, .int (nI c)]) (st := []) (q_knock_n hQ86 (ac_full hp2 ht2 hc2 hlt hm10)) kv_X6_knock tq_547 hQ86.e0 ⟨rfl, rfl⟩ (by decide) ⟨Nat.le_refl _, Nat.le_refl _⟩ rfl rfl (Nat.le_of_ble_eq_true rfl) (dk dL_come_1 23 rfl) rfl (fun E122 hQ122 => ?_)
            refine g_goto F (tgt := 138) (dk dL_come_1 24 rfl) (by decide) ?_
            refine g_istore F (q := 140) (lv' := [(11, .int (-3)), (10, .int 0), (9, .int (nI nk)), (8, .int (nI c)), (0, .ref (ad 0)), (1, .ref (ad 233)), (2, .ref (ad 234)), (3, .int g), (4, .int h), (5, .int 1), (6, .int (nI p)), (7, .int t)]) (dk dL_come_1 30 rfl) rfl (Nat.le_of_ble_eq_true rfl) rfl ?_
            refine g_iload F (q := 142) (dk dL_come_1 31 rfl) rfl 1 rfl ?_
            refine g_if_ne F (q := 145) (tgt := 162) (dk dL_come_1 32 rfl) (by decide) rfl (fun h => absurd h (by decide)) (fun _ => ?_)
            refine g_iload F (q := 147) (dk dL_come_1 33 rfl) rfl 11 rfl ?_
            refine g_aload_n F (q := 148) (dk dL_come_1 34 rfl) rfl rfl 4 rfl ?_
            refine g_iconst F (q := 149) (v := 5) (dk dL_come_1 35 rfl) rfl (by decide) ?_
            refine h_VI F (av := [.int 5]) (st := [.int t]) (q_count hQ122 (vC5 hV)) kv_X6_count tq_293 hQ122.e0 ⟨rfl, rfl⟩ (by decide) ⟨Nat.le_refl _, Nat.le_refl _⟩ rfl rfl (Nat.le_of_ble_eq_true rfl) (dk dL_come_1 36 rfl) rfl (fun E149 hQ149 => ?_)
            refine g_icmp_lt F (q := 155) (tgt := 162) (dk dL_come_1 37 rfl) (by decide) rfl (fun c152 => absurd c152 hlt) (fun c152 => ?_)
            refine g_iload F (q := 157) (dk dL_come_1 38 rfl) rfl 2 rfl ?_
            refine g_bipush F (q := 159) (v := 10) (dk dL_come_1 39 rfl) rfl (by decide) ?_
            refine g_icmp_ne F (q := 162) (tgt := 197) (dk dL_come_2 0 rfl) (by decide) rfl (fun c159 => absurd c159 (fun h => h (by rw [hm10]; rfl))) (fun c159 => ?_)
            refine g_iload F (q := 164) (dk dL_come_2 1 rfl) rfl 0 rfl ?_
            refine g_iload F (q := 166) (dk dL_come_2 2 rfl) rfl 1 rfl ?_
            refine g_if_eq F (q := 169) (tgt := 174) (dk dL_come_2 3 rfl) (by decide) rfl (fun _ => ?_) (fun h => absurd h (by decide))
            refine g_iload F (q := 176) (dk dL_come_2 6 rfl) rfl 0 rfl ?_
            refine g_bipush F (q := 178) (v := (-3)) (dk dL_come_2 7 rfl) rfl (by decide) ?_
            refine g_icmp_ne F (q := 181) (tgt := 186) (dk dL_come_2 8 rfl) (by decide) rfl (fun h => absurd h (by decide)) (fun _ => ?_)
            refine g_bipush F (q := 183) (v := (-3)) (dk dL_come_2 9 rfl) rfl (by decide) ?_
            refine g_goto F (tgt := 188) (dk dL_come_2 10 rfl) (by decide) ?_
            refine g_icmp_ne F (q := 191) (tgt := 195) (dk dL_come_2 12 rfl) (by decide) rfl (fun h => absurd h (by decide)) (fun _ => ?_)
            refine g_iconst F (q := 192) (v := 1) (dk dL_come_2 13 rfl) rfl (by decide) ?_
            refine g_goto F (tgt := 196) (dk dL_come_2 14 rfl) (by decide) ?_
            refine hret 1 E149 _ _ (dk dL_come_2 16 rfl) rfl ?_
            exact ⟨rfl, r, ne, nt, nk, nh, ln, txt, d, ps, hQ149, hD, hP, hB⟩
          · obtain ⟨r2, hr2, hN⟩ : ∃ r2, mkR r ne 1 nk (nI p) t (nI c) = r2 ∧ NewS r r2 ne 1 nk (nI p) t (nI c) := ⟨_, rfl, newS (by omega) (by omega)⟩
            refine h_VI F (av := [.int (nI p), .int t, .int (nI c)]) (st := []) (q_knock_s hQ86 (ac_ok hp2 ht2 hc2 hlt hm10 hr2) ((hN.o (j := 0) (by omega) (by omega) (by omega)).trans hV.h0) h0 ((hN.o (j := 1) (by omega) (by omega) (by omega)).trans hV.h1) h1 hN.1 (show nk + 1 ≤ 10 by omega)) kv_X6_knock tq_547 hQ86.e0 ⟨rfl, rfl⟩ (by decide) ⟨Nat.le_refl _, Nat.le_refl _⟩ rfl rfl (Nat.le_of_ble_eq_true rfl) (dk dL_come_1 23 rfl) rfl (fun E122 hQ122 => ?_)
            have hVo := hV
            have hV := hQ122.i
            refine g_goto F (tgt := 138) (dk dL_come_1 24 rfl) (by decide) ?_
            refine g_istore F (q := 140) (lv' := [(11, .int (hcnt r ne (nI p) (nI c) 10)), (10, .int 0), (9, .int (nI nk)), (8, .int (nI c)), (0, .ref (ad 0)), (1, .ref (ad 233)), (2, .ref (ad 234)), (3, .int g), (4, .int h), (5, .int 1), (6, .int (nI p)), (7, .int t)]) (dk dL_come_1 30 rfl) rfl (Nat.le_of_ble_eq_true rfl) rfl ?_
            refine g_iload F (q := 142) (dk dL_come_1 31 rfl) rfl 1 rfl ?_
            refine g_if_ne F (q := 145) (tgt := 162) (dk dL_come_1 32 rfl) (by decide) rfl (fun h => absurd h (by decide)) (fun _ => ?_)
            refine g_iload F (q := 147) (dk dL_come_1 33 rfl) rfl 11 rfl ?_
            refine g_aload_n F (q := 148) (dk dL_come_1 34 rfl) rfl rfl 4 rfl ?_
            refine g_iconst F (q := 149) (v := 5) (dk dL_come_1 35 rfl) rfl (by decide) ?_
            refine h_VI F (av := [.int 5]) (st := [.int t]) (q_count hQ122 ((vC5 hV).trans hN.2.2.1)) kv_X6_count tq_293 hQ122.e0 ⟨rfl, rfl⟩ (by decide) ⟨Nat.le_refl _, Nat.le_refl _⟩ rfl rfl (Nat.le_of_ble_eq_true rfl) (dk dL_come_1 36 rfl) rfl (fun E149 hQ149 => ?_)
            refine g_icmp_lt F (q := 155) (tgt := 162) (dk dL_come_1 37 rfl) (by decide) rfl (fun c152 => absurd c152 Int32.lt_irrefl) (fun c152 => ?_)
            refine g_iload F (q := 157) (dk dL_come_1 38 rfl) rfl 2 rfl ?_
            refine g_bipush F (q := 159) (v := 10) (dk dL_come_1 39 rfl) rfl (by decide) ?_
            refine g_icmp_ne F (q := 162) (tgt := 197) (dk dL_come_2 0 rfl) (by decide) rfl (fun c159 => ?_) (fun c159 => absurd c159 (nI_ne10 hm10 (by omega)))
            refine g_iconst F (q := 198) (v := 0) (dk dL_come_2 17 rfl) rfl (by decide) ?_
            refine g_istore F (q := 200) (lv' := [(12, .int 0), (11, .int (hcnt r ne (nI p) (nI c) 10)), (10, .int 0), (9, .int (nI nk)), (8, .int (nI c)), (0, .ref (ad 0)), (1, .ref (ad 233)), (2, .ref (ad 234)), (3, .int g), (4, .int h), (5, .int 1), (6, .int (nI p)), (7, .int t)]) (dk dL_come_2 18 rfl) rfl (Nat.le_of_ble_eq_true rfl) rfl ?_
            refine g_iconst F (q := 201) (v := 0) (dk dL_come_2 19 rfl) rfl (by decide) ?_
            refine g_istore F (q := 203) (lv' := [(13, .int 0), (12, .int 0), (11, .int (hcnt r ne (nI p) (nI c) 10)), (10, .int 0), (9, .int (nI nk)), (8, .int (nI c)), (0, .ref (ad 0)), (1, .ref (ad 233)), (2, .ref (ad 234)), (3, .int g), (4, .int h), (5, .int 1), (6, .int (nI p)), (7, .int t)]) (dk dL_come_2 20 rfl) rfl (Nat.le_of_ble_eq_true rfl) rfl ?_
            have K203 : ∀ (fu : Nat) (i : Nat) (E9 : Nat → va_E), ne - i < fu → (hQg : LQ cA ad E9 r2 ne nt (nk + 1) (nup nh) ln txt d ps) → (hi : i ≤ ne) → GG rm_L_come 16 l D X 0 0 235 ad E9 203 [(0, .ref (ad 0)), (1, .ref (ad 233)), (2, .ref (ad 234)), (5, .int 1), (6, .int (nI p)), (7, .int t), (8, .int (nI c)), (9, .int (nI nk)), (11, .int (hcnt r ne (nI p) (nI c) 10)), (12, .int (hcnt r ne (nI p) (nI c) i)), (13, .int (nI i))] [] := by
              intro fu
              induction fu with
              | zero => intro i E9 hfu_; exact absurd hfu_ (Nat.not_lt_zero _)
              | succ fu ih =>
                intro i E9 hfu_ hQg hi
                refine g_iload F (q := 205) (dk dL_come_2 21 rfl) rfl 10 rfl ?_
                refine g_aload_n F (q := 206) (dk dL_come_2 22 rfl) rfl rfl 0 rfl ?_
                refine g_iconst F (q := 207) (v := 0) (dk dL_come_2 23 rfl) rfl (by decide) ?_
                refine h_VI F (av := [.int 0]) (st := [.int (nI i)]) (q_count hQg (vC0 hV)) kv_X6_count tq_293 hQg.e0 ⟨rfl, rfl⟩ (by decide) ⟨Nat.le_refl _, Nat.le_refl _⟩ rfl rfl (Nat.le_of_ble_eq_true rfl) (dk dL_come_2 24 rfl) rfl (fun E207 hQ207 => ?_)
                refine g_icmp_ge F (q := 213) (tgt := 318) (dk dL_come_2 25 rfl) (by decide) rfl (fun c210 => ?_) (fun c210 => ?_)
                · have nc210 : ne ≤ i := (nI_leI (a := ne) (b := i) (by omega) (by omega)).mp c210
                  obtain rfl : ne = i := by omega
                  refine g_iload F (q := 320) (dk dL_come_3 39 rfl) rfl 3 rfl ?_
                  refine g_if_eq F (q := 323) (tgt := 335) (dk dL_come_4 0 rfl) (by decide) rfl (fun h => absurd h (by decide)) (fun _ => ?_)
                  refine g_aload_n F (q := 324) (dk dL_come_4 1 rfl) rfl rfl 2 rfl ?_
                  refine g_iload F (q := 326) (dk dL_come_4 2 rfl) rfl 7 rfl ?_
                  refine g_aload_n F (q := 327) (dk dL_come_4 3 rfl) rfl rfl 0 rfl ?_
                  refine g_iconst F (q := 328) (v := 3) (dk dL_come_4 4 rfl) rfl (by decide) ?_
                  refine h_VI F (av := [.int 3]) (st := [.int (nI nk), .ref (ad 234)]) (q_count hQ207 ((vC3 hV).trans (hN.o (j := 3) (by omega) (by omega) (by omega)))) kv_X6_count tq_293 hQ207.e0 ⟨rfl, rfl⟩ (by decide) ⟨Nat.le_refl _, Nat.le_refl _⟩ rfl rfl (Nat.le_of_ble_eq_true rfl) (dk dL_come_4 5 rfl) rfl (fun E328 hQ328 => ?_)
                  have hc5 : E328 234 = .inl (cA 0, 10, .inl ps) := hQ328.p
                  refine g_iast F (q := 332) nk hc5 (by omega) rfl (by omega) (by decide) (dk dL_come_4 6 rfl) rfl (fun E331 hE331 hO331 => ?_)
                  refine g_goto F (tgt := 375) (dk dL_come_4 7 rfl) (by decide) ?_
                  have hQs375 : LQ cA ad E331 r2 ne nt (nk + 1) (nup nh) ln txt d (upd ps nk (r 3)) := hQ328.putp hE331 hO331
                  refine g_iload F (q := 377) (dk dL_come_5 0 rfl) rfl 8 rfl ?_
                  refine g_iload F (q := 379) (dk dL_come_5 1 rfl) rfl 9 rfl ?_
                  refine g_icmp_ne F (q := 382) (tgt := 425) (dk dL_come_5 2 rfl) (by decide) rfl (fun c379 => absurd c379 (fun h => h (hcnt_ne h0))) (fun c379 => ?_)
                  refine g_aload_n F (q := 383) (dk dL_come_5 3 rfl) rfl rfl 0 rfl ?_
                  refine g_iconst F (q := 384) (v := 5) (dk dL_come_5 4 rfl) rfl (by decide) ?_
                  refine h_VI F (av := [.int 5]) (st := []) (q_count hQs375 ((vC5 hV).trans hN.2.2.1)) kv_X6_count tq_293 hQs375.e0 ⟨rfl, rfl⟩ (by decide) ⟨Nat.le_refl _, Nat.le_refl _⟩ rfl rfl (Nat.le_of_ble_eq_true rfl) (dk dL_come_5 5 rfl) rfl (fun E384 hQ384 => ?_)
                  refine g_iload F (q := 389) (dk dL_come_5 6 rfl) rfl 5 rfl ?_
                  refine g_icmp_ne F (q := 392) (tgt := 425) (dk dL_come_5 7 rfl) (by decide) rfl (fun c389 => absurd c389 (fun h => h rfl)) (fun c389 => ?_)
                  refine g_iload F (q := 394) (dk dL_come_5 8 rfl) rfl 3 rfl ?_
                  refine g_if_eq F (q := 397) (tgt := 421) (dk dL_come_5 9 rfl) (by decide) rfl (fun h => absurd h (by decide)) (fun _ => ?_)
                  refine g_aload_n F (q := 398) (dk dL_come_5 10 rfl) rfl rfl 0 rfl ?_
                  refine g_iload F (q := 400) (dk dL_come_5 11 rfl) rfl 7 rfl ?_
                  refine g_iconst F (q := 401) (v := 0) (dk dL_come_5 12 rfl) rfl (by decide) ?_
                  refine h_VI F (av := [.int (nI nk), .int 0]) (st := []) (q_truth hQ384 ((vT0 hV (show nk < nk + 1 by omega)).trans hN.2.2.2.1.1)) kv_X6_truth tq_500 hQ384.e0 ⟨rfl, rfl⟩ (by decide) ⟨Nat.le_refl _, Nat.le_refl _⟩ rfl rfl (Nat.le_of_ble_eq_true rfl) (dk dL_come_5 13 rfl) rfl (fun E401 hQ401 => ?_)
                  refine g_iload F (q := 406) (dk dL_come_5 14 rfl) rfl 4 rfl ?_
                  refine g_icmp_ne F (q := 409) (tgt := 425) (dk dL_come_5 15 rfl) (by decide) rfl (fun c406 => absurd c406 (fun h => h rfl)) (fun c406 => ?_)
                  refine g_aload_n F (q := 410) (dk dL_come_5 16 rfl) rfl rfl 0 rfl ?_
                  refine g_iload F (q := 412) (dk dL_come_5 17 rfl) rfl 7 rfl ?_
                  refine g_iconst F (q := 413) (v := 1) (dk dL_come_5 18 rfl) rfl (by decide) ?_
                  refine h_VI F (av := [.int (nI nk), .int 1]) (st := []) (q_truth hQ401 ((vT1 hV (show nk < nk + 1 by omega)).trans hN.2.2.2.1.2.1)) kv_X6_truth tq_500 hQ401.e0 ⟨rfl, rfl⟩ (by decide) ⟨Nat.le_refl _, Nat.le_refl _⟩ rfl rfl (Nat.le_of_ble_eq_true rfl) (dk dL_come_5 19 rfl) rfl (fun E413 hQ413 => ?_)
                  refine g_iload F (q := 418) (dk dL_come_5 20 rfl) rfl 5 rfl ?_
                  refine g_icmp_ne F (q := 421) (tgt := 425) (dk dL_come_5 21 rfl) (by decide) rfl (fun c418 => absurd c418 (fun h => h rfl)) (fun c418 => ?_)
                  refine g_iconst F (q := 422) (v := 1) (dk dL_come_5 22 rfl) rfl (by decide) ?_
                  refine g_goto F (tgt := 426) (dk dL_come_5 23 rfl) (by decide) ?_
                  refine hret 1 E413 _ _ (dk dL_come_5 25 rfl) rfl ?_
                  exact ⟨rfl, r2, ne, nt, nk + 1, nup nh, ln, txt, _, _, hQ413, DD_k hN (by omega) h1 hD, PP_k hN (by omega) hP, Bey_k hN (by omega) hB⟩
                · have nc210 : ¬ ne ≤ i := fun h => c210 ((nI_leI (a := ne) (b := i) (by omega) (by omega)).mpr h)
                  refine g_iload F (q := 215) (dk dL_come_2 26 rfl) rfl 4 rfl ?_
                  refine g_aload_n F (q := 216) (dk dL_come_2 27 rfl) rfl rfl 0 rfl ?_
                  refine g_iload F (q := 218) (dk dL_come_2 28 rfl) rfl 10 rfl ?_
                  refine g_iconst F (q := 219) (v := 0) (dk dL_come_2 29 rfl) rfl (by decide) ?_
                  refine h_VI F (av := [.int (nI i), .int 0]) (st := [.int (nI p)]) (q_ear hQ207 ((vE0 hV (show i < ne by omega)).trans (hN.o (by omega) (by omega) (by omega)))) kv_X6_ear tq_399 hQ207.e0 ⟨rfl, rfl⟩ (by decide) ⟨Nat.le_refl _, Nat.le_refl _⟩ rfl rfl (Nat.le_of_ble_eq_true rfl) (dk dL_come_2 30 rfl) rfl (fun E219 hQ219 => ?_)
                  refine h_SI F (av := [.int (nI p), .int (r (6 + 4 * i + 0))]) (st := []) q_far ks_L_far tq_413 ⟨rfl, rfl⟩ (by decide) ⟨Nat.le_refl _, Nat.le_refl _⟩ rfl rfl (Nat.le_of_ble_eq_true rfl) (dk dL_come_2 31 rfl) rfl (fun E222 hE222 => ?_)
                  obtain rfl := hE222
                  refine g_istore F (q := 227) (lv' := [(14, .int (far (nI p) (r (6 + 4 * i + 0)))), (0, .ref (ad 0)), (1, .ref (ad 233)), (2, .ref (ad 234)), (5, .int 1), (6, .int (nI p)), (7, .int t), (8, .int (nI c)), (9, .int (nI nk)), (11, .int (hcnt r ne (nI p) (nI c) 10)), (12, .int (hcnt r ne (nI p) (nI c) i)), (13, .int (nI i))]) (dk dL_come_2 32 rfl) rfl (Nat.le_of_ble_eq_true rfl) rfl ?_
                  refine g_aload_n F (q := 228) (dk dL_come_2 33 rfl) rfl rfl 1 rfl ?_
                  refine g_iload F (q := 230) (dk dL_come_2 34 rfl) rfl 11 rfl ?_
                  refine g_iconst F (q := 231) (v := 1) (dk dL_come_2 35 rfl) rfl (by decide) ?_
                  refine h_VI F (av := [.int (nI i), .int 1]) (st := []) (q_ear hQ219 ((vE1 hV (show i < ne by omega)).trans (hN.o (by omega) (by omega) (by omega)))) kv_X6_ear tq_399 hQ219.e0 ⟨rfl, rfl⟩ (by decide) ⟨Nat.le_refl _, Nat.le_refl _⟩ rfl rfl (Nat.le_of_ble_eq_true rfl) (dk dL_come_2 36 rfl) rfl (fun E231 hQ231 => ?_)
                  refine g_if_ne F (q := 237) (tgt := 248) (dk dL_come_2 37 rfl) (by decide) rfl (fun c234 => ?_) (fun c234 => ?_)
                  · refine g_iconst F (q := 249) (v := 0) (dk dL_come_3 3 rfl) rfl (by decide) ?_
                    refine g_istore F (q := 251) (lv' := [(15, .int 0), (14, .int (far (nI p) (r (6 + 4 * i + 0)))), (0, .ref (ad 0)), (1, .ref (ad 233)), (2, .ref (ad 234)), (5, .int 1), (6, .int (nI p)), (7, .int t), (8, .int (nI c)), (9, .int (nI nk)), (11, .int (hcnt r ne (nI p) (nI c) 10)), (12, .int (hcnt r ne (nI p) (nI c) i)), (13, .int (nI i))]) (dk dL_come_3 4 rfl) rfl (Nat.le_of_ble_eq_true rfl) rfl ?_
                    refine g_iload F (q := 253) (dk dL_come_3 5 rfl) rfl 11 rfl ?_
                    refine g_iload F (q := 255) (dk dL_come_3 6 rfl) rfl 0 rfl ?_
                    refine g_if_eq F (q := 258) (tgt := 262) (dk dL_come_3 7 rfl) (by decide) rfl (fun _ => ?_) (fun h => absurd h (by decide))
                    refine g_iconst F (q := 263) (v := 0) (dk dL_come_3 10 rfl) rfl (by decide) ?_
                    refine g_iadd F (q := 264) (dk dL_come_3 11 rfl) rfl ?_
                    refine g_sti (y := (hcnt r ne (nI p) (nI c) (i + 1))) (hcnt_f (fun q => c234 q.2.1)) ?_
                    refine g_istore F (q := 266) (lv' := [(12, .int (hcnt r ne (nI p) (nI c) (i + 1))), (15, .int 0), (14, .int (far (nI p) (r (6 + 4 * i + 0)))), (0, .ref (ad 0)), (1, .ref (ad 233)), (2, .ref (ad 234)), (5, .int 1), (6, .int (nI p)), (7, .int t), (8, .int (nI c)), (9, .int (nI nk)), (11, .int (hcnt r ne (nI p) (nI c) 10)), (13, .int (nI i))]) (dk dL_come_3 12 rfl) rfl (Nat.le_of_ble_eq_true rfl) rfl ?_
                    refine g_aload_n F (q := 267) (dk dL_come_3 13 rfl) rfl rfl 3 rfl ?_
                    refine g_iload F (q := 269) (dk dL_come_3 14 rfl) rfl 6 rfl ?_
                    refine g_iload F (q := 271) (dk dL_come_3 15 rfl) rfl 10 rfl ?_
                    refine g_iload F (q := 273) (dk dL_come_3 16 rfl) rfl 12 rfl ?_
                    refine h_VI F (av := [.int 1, .int (nI nk), .int (nI i)]) (st := []) (q_heard hQ231 ((vH1 hV (show nk < nk + 1 by omega) (show i < ne by omega)).trans (hd_f hN (by omega) (fun q => c234 q.2.1)))) kv_X6_heard tq_386 hQ231.e0 ⟨rfl, rfl⟩ (by decide) ⟨Nat.le_refl _, Nat.le_refl _⟩ rfl rfl (Nat.le_of_ble_eq_true rfl) (dk dL_come_3 17 rfl) rfl (fun E273 hQ273 => ?_)
                    refine g_iload F (q := 278) (dk dL_come_3 18 rfl) rfl 1 rfl ?_
                    refine g_if_eq F (q := 281) (tgt := 305) (dk dL_come_3 19 rfl) (by decide) rfl (fun _ => ?_) (fun h => absurd h (by decide))
                    refine g_bipush F (q := 307) (v := (-5)) (dk dL_come_3 33 rfl) rfl (by decide) ?_
                    refine g_icmp_eq F (q := 310) (tgt := 312) (dk dL_come_3 34 rfl) (by decide) rfl (fun _ => ?_) (fun h => absurd h (by decide))
                    refine g_iinc F (q := 315) (v := (nI ((i + 1)))) (lv' := [(13, .int (nI ((i + 1)))), (12, .int (hcnt r ne (nI p) (nI c) (i + 1))), (15, .int 0), (14, .int (far (nI p) (r (6 + 4 * i + 0)))), (0, .ref (ad 0)), (1, .ref (ad 233)), (2, .ref (ad 234)), (5, .int 1), (6, .int (nI p)), (7, .int t), (8, .int (nI c)), (9, .int (nI nk)), (11, .int (hcnt r ne (nI p) (nI c) 10))]) (dk dL_come_3 37 rfl) rfl 12 rfl (nI_1 _) (Nat.le_of_ble_eq_true rfl) rfl ?_
                    refine g_goto F (tgt := 203) (dk dL_come_3 38 rfl) (by decide) ?_
                    refine g_lv (lv' := [(0, .ref (ad 0)), (1, .ref (ad 233)), (2, .ref (ad 234)), (5, .int 1), (6, .int (nI p)), (7, .int t), (8, .int (nI c)), (9, .int (nI nk)), (11, .int (hcnt r ne (nI p) (nI c) 10)), (12, .int (hcnt r ne (nI p) (nI c) (i + 1))), (13, .int (nI ((i + 1))))]) [4, 5, 6, 7, 8, 9, 10, 11, 12, 1, 0] rfl ?_
                    exact ih (i + 1) E273 (by omega) hQ273 (by omega)
                  · refine g_iload F (q := 239) (dk dL_come_2 38 rfl) rfl 0 rfl ?_
                    refine g_iload F (q := 241) (dk dL_come_2 39 rfl) rfl 7 rfl ?_
                    refine g_icmp_gt F (q := 244) (tgt := 248) (dk dL_come_3 0 rfl) (by decide) rfl (fun c241 => ?_) (fun c241 => ?_)
                    · refine g_iconst F (q := 249) (v := 0) (dk dL_come_3 3 rfl) rfl (by decide) ?_
                      refine g_istore F (q := 251) (lv' := [(15, .int 0), (14, .int (far (nI p) (r (6 + 4 * i + 0)))), (0, .ref (ad 0)), (1, .ref (ad 233)), (2, .ref (ad 234)), (5, .int 1), (6, .int (nI p)), (7, .int t), (8, .int (nI c)), (9, .int (nI nk)), (11, .int (hcnt r ne (nI p) (nI c) 10)), (12, .int (hcnt r ne (nI p) (nI c) i)), (13, .int (nI i))]) (dk dL_come_3 4 rfl) rfl (Nat.le_of_ble_eq_true rfl) rfl ?_
                      refine g_iload F (q := 253) (dk dL_come_3 5 rfl) rfl 11 rfl ?_
                      refine g_iload F (q := 255) (dk dL_come_3 6 rfl) rfl 0 rfl ?_
                      refine g_if_eq F (q := 258) (tgt := 262) (dk dL_come_3 7 rfl) (by decide) rfl (fun _ => ?_) (fun h => absurd h (by decide))
                      refine g_iconst F (q := 263) (v := 0) (dk dL_come_3 10 rfl) rfl (by decide) ?_
                      refine g_iadd F (q := 264) (dk dL_come_3 11 rfl) rfl ?_
                      refine g_sti (y := (hcnt r ne (nI p) (nI c) (i + 1))) (hcnt_f (fun q => absurd q.2.2 (Int32.not_le.mpr c241))) ?_
                      refine g_istore F (q := 266) (lv' := [(12, .int (hcnt r ne (nI p) (nI c) (i + 1))), (15, .int 0), (14, .int (far (nI p) (r (6 + 4 * i + 0)))), (0, .ref (ad 0)), (1, .ref (ad 233)), (2, .ref (ad 234)), (5, .int 1), (6, .int (nI p)), (7, .int t), (8, .int (nI c)), (9, .int (nI nk)), (11, .int (hcnt r ne (nI p) (nI c) 10)), (13, .int (nI i))]) (dk dL_come_3 12 rfl) rfl (Nat.le_of_ble_eq_true rfl) rfl ?_
                      refine g_aload_n F (q := 267) (dk dL_come_3 13 rfl) rfl rfl 3 rfl ?_
                      refine g_iload F (q := 269) (dk dL_come_3 14 rfl) rfl 6 rfl ?_
                      refine g_iload F (q := 271) (dk dL_come_3 15 rfl) rfl 10 rfl ?_
                      refine g_iload F (q := 273) (dk dL_come_3 16 rfl) rfl 12 rfl ?_
                      refine h_VI F (av := [.int 1, .int (nI nk), .int (nI i)]) (st := []) (q_heard hQ231 ((vH1 hV (show nk < nk + 1 by omega) (show i < ne by omega)).trans (hd_f hN (by omega) (fun q => absurd q.2.2 (Int32.not_le.mpr c241))))) kv_X6_heard tq_386 hQ231.e0 ⟨rfl, rfl⟩ (by decide) ⟨Nat.le_refl _, Nat.le_refl _⟩ rfl rfl (Nat.le_of_ble_eq_true rfl) (dk dL_come_3 17 rfl) rfl (fun E273 hQ273 => ?_)
                      refine g_iload F (q := 278) (dk dL_come_3 18 rfl) rfl 1 rfl ?_
                      refine g_if_eq F (q := 281) (tgt := 305) (dk dL_come_3 19 rfl) (by decide) rfl (fun _ => ?_) (fun h => absurd h (by decide))
                      refine g_bipush F (q := 307) (v := (-5)) (dk dL_come_3 33 rfl) rfl (by decide) ?_
                      refine g_icmp_eq F (q := 310) (tgt := 312) (dk dL_come_3 34 rfl) (by decide) rfl (fun _ => ?_) (fun h => absurd h (by decide))
                      refine g_iinc F (q := 315) (v := (nI ((i + 1)))) (lv' := [(13, .int (nI ((i + 1)))), (12, .int (hcnt r ne (nI p) (nI c) (i + 1))), (15, .int 0), (14, .int (far (nI p) (r (6 + 4 * i + 0)))), (0, .ref (ad 0)), (1, .ref (ad 233)), (2, .ref (ad 234)), (5, .int 1), (6, .int (nI p)), (7, .int t), (8, .int (nI c)), (9, .int (nI nk)), (11, .int (hcnt r ne (nI p) (nI c) 10))]) (dk dL_come_3 37 rfl) rfl 12 rfl (nI_1 _) (Nat.le_of_ble_eq_true rfl) rfl ?_
                      refine g_goto F (tgt := 203) (dk dL_come_3 38 rfl) (by decide) ?_
                      refine g_lv (lv' := [(0, .ref (ad 0)), (1, .ref (ad 233)), (2, .ref (ad 234)), (5, .int 1), (6, .int (nI p)), (7, .int t), (8, .int (nI c)), (9, .int (nI nk)), (11, .int (hcnt r ne (nI p) (nI c) 10)), (12, .int (hcnt r ne (nI p) (nI c) (i + 1))), (13, .int (nI ((i + 1))))]) [4, 5, 6, 7, 8, 9, 10, 11, 12, 1, 0] rfl ?_
                      exact ih (i + 1) E273 (by omega) hQ273 (by omega)
                    · refine g_iconst F (q := 245) (v := 1) (dk dL_come_3 1 rfl) rfl (by decide) ?_
                      refine g_goto F (tgt := 249) (dk dL_come_3 2 rfl) (by decide) ?_
                      refine g_istore F (q := 251) (lv' := [(15, .int 1), (14, .int (far (nI p) (r (6 + 4 * i + 0)))), (0, .ref (ad 0)), (1, .ref (ad 233)), (2, .ref (ad 234)), (5, .int 1), (6, .int (nI p)), (7, .int t), (8, .int (nI c)), (9, .int (nI nk)), (11, .int (hcnt r ne (nI p) (nI c) 10)), (12, .int (hcnt r ne (nI p) (nI c) i)), (13, .int (nI i))]) (dk dL_come_3 4 rfl) rfl (Nat.le_of_ble_eq_true rfl) rfl ?_
                      refine g_iload F (q := 253) (dk dL_come_3 5 rfl) rfl 11 rfl ?_
                      refine g_iload F (q := 255) (dk dL_come_3 6 rfl) rfl 0 rfl ?_
                      refine g_if_eq F (q := 258) (tgt := 262) (dk dL_come_3 7 rfl) (by decide) rfl (fun h => absurd h (by decide)) (fun _ => ?_)
                      refine g_iconst F (q := 259) (v := 1) (dk dL_come_3 8 rfl) rfl (by decide) ?_
                      refine g_goto F (tgt := 263) (dk dL_come_3 9 rfl) (by decide) ?_
                      refine g_iadd F (q := 264) (dk dL_come_3 11 rfl) rfl ?_
                      refine g_sti (y := (hcnt r ne (nI p) (nI c) (i + 1))) (hcnt_t (show i < ne by omega) c234 (Int32.not_lt.mp c241)) ?_
                      refine g_istore F (q := 266) (lv' := [(12, .int (hcnt r ne (nI p) (nI c) (i + 1))), (15, .int 1), (14, .int (far (nI p) (r (6 + 4 * i + 0)))), (0, .ref (ad 0)), (1, .ref (ad 233)), (2, .ref (ad 234)), (5, .int 1), (6, .int (nI p)), (7, .int t), (8, .int (nI c)), (9, .int (nI nk)), (11, .int (hcnt r ne (nI p) (nI c) 10)), (13, .int (nI i))]) (dk dL_come_3 12 rfl) rfl (Nat.le_of_ble_eq_true rfl) rfl ?_
                      refine g_aload_n F (q := 267) (dk dL_come_3 13 rfl) rfl rfl 3 rfl ?_
                      refine g_iload F (q := 269) (dk dL_come_3 14 rfl) rfl 6 rfl ?_
                      refine g_iload F (q := 271) (dk dL_come_3 15 rfl) rfl 10 rfl ?_
                      refine g_iload F (q := 273) (dk dL_come_3 16 rfl) rfl 12 rfl ?_
                      refine h_VI F (av := [.int 1, .int (nI nk), .int (nI i)]) (st := []) (q_heard hQ231 ((vH1 hV (show nk < nk + 1 by omega) (show i < ne by omega)).trans (hd_t hVo hN hp2 ht2 (show i < ne by omega) c234 (Int32.not_lt.mp c241)))) kv_X6_heard tq_386 hQ231.e0 ⟨rfl, rfl⟩ (by decide) ⟨Nat.le_refl _, Nat.le_refl _⟩ rfl rfl (Nat.le_of_ble_eq_true rfl) (dk dL_come_3 17 rfl) rfl (fun E273 hQ273 => ?_)
                      refine g_iload F (q := 278) (dk dL_come_3 18 rfl) rfl 1 rfl ?_
                      refine g_if_eq F (q := 281) (tgt := 305) (dk dL_come_3 19 rfl) (by decide) rfl (fun h => absurd h (by decide)) (fun _ => ?_)
                      refine g_aload_n F (q := 282) (dk dL_come_3 20 rfl) rfl rfl 3 rfl ?_
                      refine g_iload F (q := 284) (dk dL_come_3 21 rfl) rfl 12 rfl ?_
                      refine g_iload F (q := 286) (dk dL_come_3 22 rfl) rfl 8 rfl ?_
                      refine g_aload_n F (q := 287) (dk dL_come_3 23 rfl) rfl rfl 3 rfl ?_
                      refine g_iconst F (q := 288) (v := 3) (dk dL_come_3 24 rfl) rfl (by decide) ?_
                      refine h_VI F (av := [.int 3]) (st := [.int t, .int (nI i), .ref (ad 0), .int ((rdc r i (t + r 3 * far (nI p) (r (6 + 4 * i + 0)))) + 10000)]) (q_count hQ273 ((vC3 hV).trans (hN.o (j := 3) (by omega) (by omega) (by omega)))) kv_X6_count tq_293 hQ273.e0 ⟨rfl, rfl⟩ (by decide) ⟨Nat.le_refl _, Nat.le_refl _⟩ rfl rfl (Nat.le_of_ble_eq_true rfl) (dk dL_come_3 25 rfl) rfl (fun E288 hQ288 => ?_)
                      refine g_iload F (q := 293) (dk dL_come_3 26 rfl) rfl 2 rfl ?_
                      refine g_imul F (q := 294) (dk dL_come_3 27 rfl) rfl ?_
                      refine g_iadd F (q := 295) (dk dL_come_3 28 rfl) rfl ?_
                      refine h_SI F (av := [.ref (ad 0), .int (nI i), .int (t + ((r 3) * (far (nI p) (r (6 + 4 * i + 0)))))]) (st := [.int ((rdc r i (t + r 3 * far (nI p) (r (6 + 4 * i + 0)))) + 10000)]) ((CQ.of (c_L_reads hQ288 (show i < ne by omega))).eq (rdc_c2 (fun j q1 q2 => hN.o q2 (by omega) (by omega)) (show i < 10 by omega))) ks_L_reads tq_451 ⟨rfl, rfl⟩ (by decide) ⟨Nat.le_refl _, Nat.le_refl _⟩ rfl rfl (Nat.le_of_ble_eq_true rfl) (dk dL_come_3 29 rfl) rfl (fun E295 hQ295 => ?_)
                      refine g_sipush F (q := 301) (v := 10000) (dk dL_come_3 30 rfl) rfl (by decide) ?_
                      refine g_iadd F (q := 302) (dk dL_come_3 31 rfl) rfl ?_
                      refine g_goto F (tgt := 307) (dk dL_come_3 32 rfl) (by decide) ?_
                      refine g_icmp_eq F (q := 310) (tgt := 312) (dk dL_come_3 34 rfl) (by decide) rfl (fun c307 => ?_) (fun c307 => absurd c307 (fun h => h rfl))
                      refine g_iinc F (q := 315) (v := (nI ((i + 1)))) (lv' := [(13, .int (nI ((i + 1)))), (12, .int (hcnt r ne (nI p) (nI c) (i + 1))), (15, .int 1), (14, .int (far (nI p) (r (6 + 4 * i + 0)))), (0, .ref (ad 0)), (1, .ref (ad 233)), (2, .ref (ad 234)), (5, .int 1), (6, .int (nI p)), (7, .int t), (8, .int (nI c)), (9, .int (nI nk)), (11, .int (hcnt r ne (nI p) (nI c) 10))]) (dk dL_come_3 37 rfl) rfl 12 rfl (nI_1 _) (Nat.le_of_ble_eq_true rfl) rfl ?_
                      refine g_goto F (tgt := 203) (dk dL_come_3 38 rfl) (by decide) ?_
                      refine g_lv (lv' := [(0, .ref (ad 0)), (1, .ref (ad 233)), (2, .ref (ad 234)), (5, .int 1), (6, .int (nI p)), (7, .int t), (8, .int (nI c)), (9, .int (nI nk)), (11, .int (hcnt r ne (nI p) (nI c) 10)), (12, .int (hcnt r ne (nI p) (nI c) (i + 1))), (13, .int (nI ((i + 1))))]) [4, 5, 6, 7, 8, 9, 10, 11, 12, 1, 0] rfl ?_
                      exact ih (i + 1) E295 (by omega) hQ295 (by omega)
            refine g_lv (lv' := [(0, .ref (ad 0)), (1, .ref (ad 233)), (2, .ref (ad 234)), (5, .int 1), (6, .int (nI p)), (7, .int t), (8, .int (nI c)), (9, .int (nI nk)), (11, .int (hcnt r ne (nI p) (nI c) 10)), (12, .int 0), (13, .int 0)]) [6, 7, 8, 11, 12, 13, 5, 4, 2, 1, 0] rfl ?_
            exact K203 _ 0 E149 (Nat.lt_succ_self _) hQ149 (by omega)
        · refine g_iconst F (q := 104) (v := 1) (dk dL_come_1 13 rfl) rfl (by decide) ?_
          refine g_goto F (tgt := 108) (dk dL_come_1 14 rfl) (by decide) ?_
          refine g_istore F (q := 110) (lv' := [(10, .int 1), (9, .int (nI nk)), (8, .int (nI c)), (0, .ref (ad 0)), (1, .ref (ad 233)), (2, .ref (ad 234)), (3, .int g), (4, .int h), (5, .int 1), (6, .int (nI p)), (7, .int t)]) (dk dL_come_1 16 rfl) rfl (Nat.le_of_ble_eq_true rfl) rfl ?_
          refine g_iload F (q := 112) (dk dL_come_1 17 rfl) rfl 8 rfl ?_
          refine g_if_eq F (q := 115) (tgt := 128) (dk dL_come_1 18 rfl) (by decide) rfl (fun h => absurd h (by decide)) (fun _ => ?_)
          refine g_aload_n F (q := 116) (dk dL_come_1 19 rfl) rfl rfl 3 rfl ?_
          refine g_iload F (q := 118) (dk dL_come_1 20 rfl) rfl 9 rfl ?_
          refine g_iload F (q := 120) (dk dL_come_1 21 rfl) rfl 10 rfl ?_
          refine g_iload F (q := 122) (dk dL_come_1 22 rfl) rfl 2 rfl ?_
          refine h_VI F (av := [.int (nI p), .int t, .int (nI c)]) (st := []) (q_knock_n hQ86 (ac_bad (fun q => c100 q.2))) kv_X6_knock tq_547 hQ86.e0 ⟨rfl, rfl⟩ (by decide) ⟨Nat.le_refl _, Nat.le_refl _⟩ rfl rfl (Nat.le_of_ble_eq_true rfl) (dk dL_come_1 23 rfl) rfl (fun E122 hQ122 => ?_)
          refine g_goto F (tgt := 138) (dk dL_come_1 24 rfl) (by decide) ?_
          refine g_istore F (q := 140) (lv' := [(11, .int (-2)), (10, .int 1), (9, .int (nI nk)), (8, .int (nI c)), (0, .ref (ad 0)), (1, .ref (ad 233)), (2, .ref (ad 234)), (3, .int g), (4, .int h), (5, .int 1), (6, .int (nI p)), (7, .int t)]) (dk dL_come_1 30 rfl) rfl (Nat.le_of_ble_eq_true rfl) rfl ?_
          refine g_iload F (q := 142) (dk dL_come_1 31 rfl) rfl 1 rfl ?_
          refine g_if_ne F (q := 145) (tgt := 162) (dk dL_come_1 32 rfl) (by decide) rfl (fun _ => ?_) (fun h => absurd h (by decide))
          refine g_iload F (q := 164) (dk dL_come_2 1 rfl) rfl 0 rfl ?_
          refine g_iload F (q := 166) (dk dL_come_2 2 rfl) rfl 1 rfl ?_
          refine g_if_eq F (q := 169) (tgt := 174) (dk dL_come_2 3 rfl) (by decide) rfl (fun h => absurd h (by decide)) (fun _ => ?_)
          refine g_bipush F (q := 171) (v := (-2)) (dk dL_come_2 4 rfl) rfl (by decide) ?_
          refine g_goto F (tgt := 188) (dk dL_come_2 5 rfl) (by decide) ?_
          refine g_icmp_ne F (q := 191) (tgt := 195) (dk dL_come_2 12 rfl) (by decide) rfl (fun h => absurd h (by decide)) (fun _ => ?_)
          refine g_iconst F (q := 192) (v := 1) (dk dL_come_2 13 rfl) rfl (by decide) ?_
          refine g_goto F (tgt := 196) (dk dL_come_2 14 rfl) (by decide) ?_
          refine hret 1 E122 _ _ (dk dL_come_2 16 rfl) rfl ?_
          exact ⟨rfl, r, ne, nt, nk, nh, ln, txt, d, ps, hQ122, hD, hP, hB⟩
    refine g_iload_n F (q := 46) (dk dL_come_0 24 rfl) rfl rfl 6 rfl ?_
    refine g_iconst F (q := 47) (v := 4) (dk dL_come_0 25 rfl) rfl (by decide) ?_
    refine g_ishr F (q := 48) (dk dL_come_0 26 rfl) rfl ?_
    refine g_iconst F (q := 49) (v := 3) (dk dL_come_0 27 rfl) rfl (by decide) ?_
    refine h_SI F (av := [.int (g >>> (4 &&& 31)), .int 3]) (st := []) (q_low (v := (g >>> (4 &&& 31))) (N := 3) (by omega) (by omega)) ks_L_low tq_376 ⟨rfl, rfl⟩ (by decide) ⟨Nat.le_refl _, Nat.le_refl _⟩ rfl rfl (Nat.le_of_ble_eq_true rfl) (dk dL_come_0 28 rfl) rfl (fun E49 hE49 => ?_)
    obtain rfl := hE49
    refine g_if_ne F (q := 55) (tgt := 70) (dk dL_come_0 29 rfl) (by decide) rfl (fun c52 => ?_) (fun c52 => ?_)
    · refine g_sipush F (q := 73) (v := 1000) (dk dL_come_0 38 rfl) rfl (by decide) ?_
      refine g_lv (lv' := [(0, .ref (ad 0)), (1, .ref (ad 233)), (2, .ref (ad 234)), (3, .int g), (4, .int h), (5, .int 1), (6, .int (nI p)), (7, .int t)]) [3, 4, 5, 6, 7, 2, 1, 0] rfl ?_
      exact K73 1000 (by omega) (by omega)
    · refine g_iconst F (q := 56) (v := 1) (dk dL_come_0 30 rfl) rfl (by decide) ?_
      refine g_iload F (q := 58) (dk dL_come_0 31 rfl) rfl 7 rfl ?_
      refine g_iconst F (q := 59) (v := 3) (dk dL_come_0 32 rfl) rfl (by decide) ?_
      refine g_ishr F (q := 60) (dk dL_come_0 33 rfl) rfl ?_
      refine g_sipush F (q := 63) (v := 1000) (dk dL_come_0 34 rfl) rfl (by decide) ?_
      refine h_SI F (av := [.int (h >>> (3 &&& 31)), .int 1000]) (st := [.int 1]) (q_low (v := (h >>> (3 &&& 31))) (N := 1000) (by omega) (by omega)) ks_L_low tq_376 ⟨rfl, rfl⟩ (by decide) ⟨Nat.le_refl _, Nat.le_refl _⟩ rfl rfl (Nat.le_of_ble_eq_true rfl) (dk dL_come_0 35 rfl) rfl (fun E63 hE63 => ?_)
      obtain rfl := hE63
      obtain ⟨c0, hc0, ec0⟩ := low_ex (v := (h >>> (3 &&& 31))) (N := 1000) (by omega)
      refine g_sti (y := nI c0) ec0 ?_
      refine g_iadd F (q := 67) (dk dL_come_0 36 rfl) rfl ?_
      refine g_sti (y := (nI ((1 + c0)))) (nA rfl rfl) ?_
      refine g_goto F (tgt := 73) (dk dL_come_0 37 rfl) (by decide) ?_
      refine g_lv (lv' := [(0, .ref (ad 0)), (1, .ref (ad 233)), (2, .ref (ad 234)), (3, .int g), (4, .int h), (5, .int 1), (6, .int (nI p)), (7, .int t)]) [3, 4, 5, 6, 7, 2, 1, 0] rfl ?_
      exact K73 (1 + c0) (by omega) (by omega)
theorem ks_L_come : KS yL_come "ThumpEarsLaw" cL_come 16 (some .boolean) 5 := ⟨tq_544, tq_8, tq_545, by decide +kernel⟩
