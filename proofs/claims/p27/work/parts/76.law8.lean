abbrev rm_L_acts : Room := { frames := 7, cells := 0, slots := 0, locals := 187 }
set_option maxHeartbeats 4000000 in
set_option maxRecDepth 100000 in
theorem c_L_acts {l : Launch} {D : va_G} {cA : Nat → ClassId} {ad : Nat → Nat} {E : Nat → va_E} {r : Nat → Int32} {ne nt nk nh ln : Nat} {txt d ps : Nat → Int32} {g h : Int32}  (hQ : LQ cA ad E r ne nt nk nh ln txt d ps) (hD : DD d r nt) (hP : PP ps r nk) (hB : Bey r ne nk) : CtI l D cA yL_acts cL_acts 12 .boolean rm_L_acts 235 ad E [.ref (ad 0), .ref (ad 233), .ref (ad 234), .int g, .int h] (fun x E' => 1 = x ∧ LI cA ad E') := by
  refine CtI.of (by decide +kernel) (Nat.le_of_ble_eq_true rfl) (fun X F hret => ?_)
  have F : Fr "ThumpEarsLaw" cL_acts 12 D cA X := F
  refine (show GG rm_L_acts 12 l D X 0 0 235 ad E 0 [(0, .ref (ad 0)), (1, .ref (ad 233)), (2, .ref (ad 234)), (3, .int g), (4, .int h)] [] from ?_)
  have hV := hQ.i
  have h0 := hV.e0
  have h1 := hV.e1
  have h2 := hV.e2
  refine g_aload_n F (q := 1) (dk dL_acts_0 0 rfl) rfl rfl 0 rfl ?_
  refine g_iconst F (q := 2) (v := 0) (dk dL_acts_0 1 rfl) rfl (by decide) ?_
  refine h_VI F (av := [.int 0]) (st := []) (q_count hQ (vC0 hV)) kv_X6_count tq_293 hQ.e0 ⟨rfl, rfl⟩ (by decide) ⟨Nat.le_refl _, Nat.le_refl _⟩ rfl rfl (Nat.le_of_ble_eq_true rfl) (dk dL_acts_0 2 rfl) rfl (fun E2 hQ2 => ?_)
  refine g_istore F (q := 7) (lv' := [(5, .int (nI ne)), (0, .ref (ad 0)), (1, .ref (ad 233)), (2, .ref (ad 234)), (3, .int g), (4, .int h)]) (dk dL_acts_0 3 rfl) rfl (Nat.le_of_ble_eq_true rfl) rfl ?_
  refine g_iload F (q := 9) (dk dL_acts_0 4 rfl) rfl 5 rfl ?_
  refine g_iload F (q := 11) (dk dL_acts_0 5 rfl) rfl 0 rfl ?_
  refine g_iconst F (q := 12) (v := 1) (dk dL_acts_0 6 rfl) rfl (by decide) ?_
  refine g_iadd F (q := 13) (dk dL_acts_0 7 rfl) rfl ?_
  refine g_sti (y := (nI ((ne + 1)))) (nI_1 _) ?_
  refine h_SI F (av := [.int h, .int (nI ((ne + 1)))]) (st := []) (q_low (v := h) (N := (ne + 1)) (by omega) (by omega)) ks_L_low tq_376 ⟨rfl, rfl⟩ (by decide) ⟨Nat.le_refl _, Nat.le_refl _⟩ rfl rfl (Nat.le_of_ble_eq_true rfl) (dk dL_acts_0 8 rfl) rfl (fun E13 hE13 => ?_)
  obtain rfl := hE13
  obtain ⟨ea, hea, eea⟩ := low_ex (v := h) (N := ne + 1) (by omega)
  refine g_sti (y := nI ea) eea ?_
  refine g_istore F (q := 18) (lv' := [(6, .int (nI ea)), (5, .int (nI ne)), (0, .ref (ad 0)), (1, .ref (ad 233)), (2, .ref (ad 234)), (3, .int g), (4, .int h)]) (dk dL_acts_0 9 rfl) rfl (Nat.le_of_ble_eq_true rfl) rfl ?_
  refine g_iload_n F (q := 19) (dk dL_acts_0 10 rfl) rfl rfl 5 rfl ?_
  refine g_bipush F (q := 21) (v := 9) (dk dL_acts_0 11 rfl) rfl (by decide) ?_
  refine h_SI F (av := [.int g, .int 9]) (st := []) (q_low (v := g) (N := 9) (by omega) (by omega)) ks_L_low tq_376 ⟨rfl, rfl⟩ (by decide) ⟨Nat.le_refl _, Nat.le_refl _⟩ rfl rfl (Nat.le_of_ble_eq_true rfl) (dk dL_acts_0 12 rfl) rfl (fun E21 hE21 => ?_)
  obtain rfl := hE21
  rcases sw_split (nI ((lowN g 9))) (0) 5 with hsw | ⟨jsw, hlt, hsw⟩
  · refine g_tabOut F (tgt := 600) (dk dL_acts_0 13 rfl) (by omega) (by decide) ?_
    refine g_aload_n F (q := 601) (dk dL_acts_7 11 rfl) rfl rfl 2 rfl ?_
    refine g_aload_n F (q := 602) (dk dL_acts_7 12 rfl) rfl rfl 3 rfl ?_
    refine g_aload_n F (q := 603) (dk dL_acts_7 13 rfl) rfl rfl 4 rfl ?_
    refine g_iload_n F (q := 604) (dk dL_acts_7 14 rfl) rfl rfl 5 rfl ?_
    refine g_iconst F (q := 605) (v := 4) (dk dL_acts_7 15 rfl) rfl (by decide) ?_
    refine g_ishr F (q := 606) (dk dL_acts_7 16 rfl) rfl ?_
    refine g_iload F (q := 608) (dk dL_acts_7 17 rfl) rfl 6 rfl ?_
    refine h_SI F (av := [.ref (ad 0), .ref (ad 233), .ref (ad 234), .int (g >>> (4 &&& 31)), .int h]) (st := []) (CQ.of (c_L_come hQ2 hD hP hB)) ks_L_come tq_543 ⟨rfl, rfl⟩ (by decide) ⟨Nat.le_refl _, Nat.le_refl _⟩ rfl rfl (Nat.le_of_ble_eq_true rfl) (dk dL_acts_7 18 rfl) rfl (fun E608 hQ608 => ?_)
    refine hret 1 E608 _ _ (dk dL_acts_7 19 rfl) rfl ?_
    exact ⟨rfl, hQ608⟩
  · rcases (show jsw = 0 ∨ jsw = 1 ∨ jsw = 2 ∨ jsw = 3 ∨ jsw = 4 ∨ jsw = 5 by omega) with rfl | rfl | rfl | rfl | rfl | rfl
    · have hx : (nI ((lowN g 9))) = 0 := by rw [hsw]; decide
      refine g_tabIn F (tgt := 64) (off := 40) (dk dL_acts_0 13 rfl) (by rw [hx]; decide) (by rw [hx]; decide) (by rw [hx]; decide) (by decide) ?_
      refine g_aload_n F (q := 65) (dk dL_acts_0 14 rfl) rfl rfl 2 rfl ?_
      refine g_iload F (q := 67) (dk dL_acts_0 15 rfl) rfl 6 rfl ?_
      refine g_sipush F (q := 70) (v := 1001) (dk dL_acts_0 16 rfl) rfl (by decide) ?_
      refine h_SI F (av := [.int h, .int 1001]) (st := [.ref (ad 0)]) (q_low (v := h) (N := 1001) (by omega) (by omega)) ks_L_low tq_376 ⟨rfl, rfl⟩ (by decide) ⟨Nat.le_refl _, Nat.le_refl _⟩ rfl rfl (Nat.le_of_ble_eq_true rfl) (dk dL_acts_0 17 rfl) rfl (fun E70 hE70 => ?_)
      obtain rfl := hE70
      obtain ⟨p, hp, ep⟩ := low_ex (v := h) (N := 1001) (by omega)
      refine g_sti (y := nI p) ep ?_
      have hp2 : (0 : Int32) ≤ nI p ∧ nI p ≤ 1000 := ⟨nI_pos' (by omega), nI_le (a := p) (b := 1000) (by omega) (by omega)⟩
      by_cases hne : ne = 10
      · refine h_VI F (av := [.int (nI p)]) (st := []) (q_bury_n hQ2 (sB_full hp2 hne)) kv_X6_bury tq_262 hQ2.e0 ⟨rfl, rfl⟩ (by decide) ⟨Nat.le_refl _, Nat.le_refl _⟩ rfl rfl (Nat.le_of_ble_eq_true rfl) (dk dL_acts_0 18 rfl) rfl (fun E73 hQ73 => ?_)
        refine g_iload F (q := 78) (dk dL_acts_0 19 rfl) rfl 1 rfl ?_
        refine g_bipush F (q := 80) (v := 10) (dk dL_acts_0 20 rfl) rfl (by decide) ?_
        refine g_icmp_ne F (q := 83) (tgt := 88) (dk dL_acts_0 21 rfl) (by decide) rfl (fun c80 => absurd c80 (fun h => h (by rw [hne]; rfl))) (fun c80 => ?_)
        refine g_bipush F (q := 85) (v := (-3)) (dk dL_acts_0 22 rfl) rfl (by decide) ?_
        refine g_goto F (tgt := 90) (dk dL_acts_0 23 rfl) (by decide) ?_
        refine g_icmp_ne F (q := 93) (tgt := 133) (dk dL_acts_0 25 rfl) (by decide) rfl (fun h => absurd h (by decide)) (fun _ => ?_)
        refine g_iload F (q := 95) (dk dL_acts_0 26 rfl) rfl 1 rfl ?_
        refine g_bipush F (q := 97) (v := 10) (dk dL_acts_0 27 rfl) rfl (by decide) ?_
        refine g_icmp_eq F (q := 100) (tgt := 129) (dk dL_acts_0 28 rfl) (by decide) rfl (fun c97 => ?_) (fun c97 => absurd c97 (fun h => h (by rw [hne]; rfl)))
        refine g_iconst F (q := 130) (v := 1) (dk dL_acts_1 2 rfl) rfl (by decide) ?_
        refine g_goto F (tgt := 134) (dk dL_acts_1 3 rfl) (by decide) ?_
        refine hret 1 E73 _ _ (dk dL_acts_1 5 rfl) rfl ?_
        exact ⟨rfl, r, ne, nt, nk, nh, ln, txt, d, ps, hQ73, hD, hP, hB⟩
      · obtain ⟨r2, hs2, hN⟩ := sB_ok (r := r) hp2 hne
        have hf : ∀ j, j ≠ 0 → (j < 6 + 4 * ne ∨ 6 + 4 * ne + 4 ≤ j) → r2 j = r j := hN.2.2
        refine h_VI F (av := [.int (nI p)]) (st := []) (q_bury_s hQ2 hs2 hN.1 (show ne + 1 ≤ 10 by omega) ((hf 1 (by omega) (by omega)).trans hV.h1) h1 ((hf 2 (by omega) (by omega)).trans hV.h2) h2) kv_X6_bury tq_262 hQ2.e0 ⟨rfl, rfl⟩ (by decide) ⟨Nat.le_refl _, Nat.le_refl _⟩ rfl rfl (Nat.le_of_ble_eq_true rfl) (dk dL_acts_0 18 rfl) rfl (fun E73 hQ73 => ?_)
        have hV2 := hQ73.i
        refine g_iload F (q := 78) (dk dL_acts_0 19 rfl) rfl 1 rfl ?_
        refine g_bipush F (q := 80) (v := 10) (dk dL_acts_0 20 rfl) rfl (by decide) ?_
        refine g_icmp_ne F (q := 83) (tgt := 88) (dk dL_acts_0 21 rfl) (by decide) rfl (fun c80 => ?_) (fun c80 => absurd c80 (nI_ne10 hne h0))
        refine g_iload F (q := 90) (dk dL_acts_0 24 rfl) rfl 1 rfl ?_
        refine g_icmp_ne F (q := 93) (tgt := 133) (dk dL_acts_0 25 rfl) (by decide) rfl (fun c90 => absurd c90 (fun h => h rfl)) (fun c90 => ?_)
        refine g_iload F (q := 95) (dk dL_acts_0 26 rfl) rfl 1 rfl ?_
        refine g_bipush F (q := 97) (v := 10) (dk dL_acts_0 27 rfl) rfl (by decide) ?_
        refine g_icmp_eq F (q := 100) (tgt := 129) (dk dL_acts_0 28 rfl) (by decide) rfl (fun c97 => absurd c97 (nI_ne10 hne h0)) (fun c97 => ?_)
        refine g_aload_n F (q := 101) (dk dL_acts_0 29 rfl) rfl rfl 2 rfl ?_
        refine g_iload F (q := 103) (dk dL_acts_0 30 rfl) rfl 1 rfl ?_
        refine g_iconst F (q := 104) (v := 0) (dk dL_acts_0 31 rfl) rfl (by decide) ?_
        refine h_VI F (av := [.int (nI ne), .int 0]) (st := []) (q_ear hQ73 ((vE0 hV2 (show ne < ne + 1 by omega)).trans hN.2.1)) kv_X6_ear tq_399 hQ73.e0 ⟨rfl, rfl⟩ (by decide) ⟨Nat.le_refl _, Nat.le_refl _⟩ rfl rfl (Nat.le_of_ble_eq_true rfl) (dk dL_acts_0 32 rfl) rfl (fun E104 hQ104 => ?_)
        refine g_iload F (q := 109) (dk dL_acts_0 33 rfl) rfl 6 rfl ?_
        refine g_sipush F (q := 112) (v := 1001) (dk dL_acts_0 34 rfl) rfl (by decide) ?_
        refine h_SI F (av := [.int h, .int 1001]) (st := [.int (nI p)]) (q_low (v := h) (N := 1001) (by omega) (by omega)) ks_L_low tq_376 ⟨rfl, rfl⟩ (by decide) ⟨Nat.le_refl _, Nat.le_refl _⟩ rfl rfl (Nat.le_of_ble_eq_true rfl) (dk dL_acts_0 35 rfl) rfl (fun E112 hE112 => ?_)
        obtain rfl := hE112
        refine g_sti (y := nI p) ep ?_
        refine g_icmp_ne F (q := 118) (tgt := 133) (dk dL_acts_0 36 rfl) (by decide) rfl (fun c115 => absurd c115 (fun h => h rfl)) (fun c115 => ?_)
        refine g_aload_n F (q := 119) (dk dL_acts_0 37 rfl) rfl rfl 2 rfl ?_
        refine g_iload F (q := 121) (dk dL_acts_0 38 rfl) rfl 1 rfl ?_
        refine g_bipush F (q := 123) (v := 6) (dk dL_acts_0 39 rfl) rfl (by decide) ?_
        refine h_VI F (av := [.int (nI ne), .int 6]) (st := []) (q_ear hQ104 ((vE6 hV2 (show ne < ne + 1 by omega)).trans (kC_z (fun m e q1 q2 q3 => (hf _ (by omega) (by omega)).trans (hB m e q1 q2 q3)) (by omega)))) kv_X6_ear tq_399 hQ104.e0 ⟨rfl, rfl⟩ (by decide) ⟨Nat.le_refl _, Nat.le_refl _⟩ rfl rfl (Nat.le_of_ble_eq_true rfl) (dk dL_acts_1 0 rfl) rfl (fun E123 hQ123 => ?_)
        refine g_if_ne F (q := 129) (tgt := 133) (dk dL_acts_1 1 rfl) (by decide) rfl (fun h => absurd h (by decide)) (fun _ => ?_)
        refine g_iconst F (q := 130) (v := 1) (dk dL_acts_1 2 rfl) rfl (by decide) ?_
        refine g_goto F (tgt := 134) (dk dL_acts_1 3 rfl) (by decide) ?_
        refine hret 1 E123 _ _ (dk dL_acts_1 5 rfl) rfl ?_
        exact ⟨rfl, r2, ne + 1, nt, nk, nup nh, ln, txt, d, ps, hQ123, DD_c (fun j q => hf j (by omega) (by omega)) hD, PP_c (fun j q => hf j (by omega) (by omega)) hP, Bey_b (fun j q => hf j (by omega) (by omega)) hB⟩
    · have hx : (nI ((lowN g 9))) = 1 := by rw [hsw]; decide
      refine g_tabIn F (tgt := 64) (off := 40) (dk dL_acts_0 13 rfl) (by rw [hx]; decide) (by rw [hx]; decide) (by rw [hx]; decide) (by decide) ?_
      refine g_aload_n F (q := 65) (dk dL_acts_0 14 rfl) rfl rfl 2 rfl ?_
      refine g_iload F (q := 67) (dk dL_acts_0 15 rfl) rfl 6 rfl ?_
      refine g_sipush F (q := 70) (v := 1001) (dk dL_acts_0 16 rfl) rfl (by decide) ?_
      refine h_SI F (av := [.int h, .int 1001]) (st := [.ref (ad 0)]) (q_low (v := h) (N := 1001) (by omega) (by omega)) ks_L_low tq_376 ⟨rfl, rfl⟩ (by decide) ⟨Nat.le_refl _, Nat.le_refl _⟩ rfl rfl (Nat.le_of_ble_eq_true rfl) (dk dL_acts_0 17 rfl) rfl (fun E70 hE70 => ?_)
      obtain rfl := hE70
      obtain ⟨p, hp, ep⟩ := low_ex (v := h) (N := 1001) (by omega)
      refine g_sti (y := nI p) ep ?_
      have hp2 : (0 : Int32) ≤ nI p ∧ nI p ≤ 1000 := ⟨nI_pos' (by omega), nI_le (a := p) (b := 1000) (by omega) (by omega)⟩
      by_cases hne : ne = 10
      · refine h_VI F (av := [.int (nI p)]) (st := []) (q_bury_n hQ2 (sB_full hp2 hne)) kv_X6_bury tq_262 hQ2.e0 ⟨rfl, rfl⟩ (by decide) ⟨Nat.le_refl _, Nat.le_refl _⟩ rfl rfl (Nat.le_of_ble_eq_true rfl) (dk dL_acts_0 18 rfl) rfl (fun E73 hQ73 => ?_)
        refine g_iload F (q := 78) (dk dL_acts_0 19 rfl) rfl 1 rfl ?_
        refine g_bipush F (q := 80) (v := 10) (dk dL_acts_0 20 rfl) rfl (by decide) ?_
        refine g_icmp_ne F (q := 83) (tgt := 88) (dk dL_acts_0 21 rfl) (by decide) rfl (fun c80 => absurd c80 (fun h => h (by rw [hne]; rfl))) (fun c80 => ?_)
        refine g_bipush F (q := 85) (v := (-3)) (dk dL_acts_0 22 rfl) rfl (by decide) ?_
        refine g_goto F (tgt := 90) (dk dL_acts_0 23 rfl) (by decide) ?_
        refine g_icmp_ne F (q := 93) (tgt := 133) (dk dL_acts_0 25 rfl) (by decide) rfl (fun h => absurd h (by decide)) (fun _ => ?_)
        refine g_iload F (q := 95) (dk dL_acts_0 26 rfl) rfl 1 rfl ?_
        refine g_bipush F (q := 97) (v := 10) (dk dL_acts_0 27 rfl) rfl (by decide) ?_
        refine g_icmp_eq F (q := 100) (tgt := 129) (dk dL_acts_0 28 rfl) (by decide) rfl (fun c97 => ?_) (fun c97 => absurd c97 (fun h => h (by rw [hne]; rfl)))
        refine g_iconst F (q := 130) (v := 1) (dk dL_acts_1 2 rfl) rfl (by decide) ?_
        refine g_goto F (tgt := 134) (dk dL_acts_1 3 rfl) (by decide) ?_
        refine hret 1 E73 _ _ (dk dL_acts_1 5 rfl) rfl ?_
        exact ⟨rfl, r, ne, nt, nk, nh, ln, txt, d, ps, hQ73, hD, hP, hB⟩
      · obtain ⟨r2, hs2, hN⟩ := sB_ok (r := r) hp2 hne
        have hf : ∀ j, j ≠ 0 → (j < 6 + 4 * ne ∨ 6 + 4 * ne + 4 ≤ j) → r2 j = r j := hN.2.2
        refine h_VI F (av := [.int (nI p)]) (st := []) (q_bury_s hQ2 hs2 hN.1 (show ne + 1 ≤ 10 by omega) ((hf 1 (by omega) (by omega)).trans hV.h1) h1 ((hf 2 (by omega) (by omega)).trans hV.h2) h2) kv_X6_bury tq_262 hQ2.e0 ⟨rfl, rfl⟩ (by decide) ⟨Nat.le_refl _, Nat.le_refl _⟩ rfl rfl (Nat.le_of_ble_eq_true rfl) (dk dL_acts_0 18 rfl) rfl (fun E73 hQ73 => ?_)
        have hV2 := hQ73.i
        refine g_iload F (q := 78) (dk dL_acts_0 19 rfl) rfl 1 rfl ?_
        refine g_bipush F (q := 80) (v := 10) (dk dL_acts_0 20 rfl) rfl (by decide) ?_
        refine g_icmp_ne F (q := 83) (tgt := 88) (dk dL_acts_0 21 rfl) (by decide) rfl (fun c80 => ?_) (fun c80 => absurd c80 (nI_ne10 hne h0))
        refine g_iload F (q := 90) (dk dL_acts_0 24 rfl) rfl 1 rfl ?_
        refine g_icmp_ne F (q := 93) (tgt := 133) (dk dL_acts_0 25 rfl) (by decide) rfl (fun c90 => absurd c90 (fun h => h rfl)) (fun c90 => ?_)
        refine g_iload F (q := 95) (dk dL_acts_0 26 rfl) rfl 1 rfl ?_
        refine g_bipush F (q := 97) (v := 10) (dk dL_acts_0 27 rfl) rfl (by decide) ?_
        refine g_icmp_eq F (q := 100) (tgt := 129) (dk dL_acts_0 28 rfl) (by decide) rfl (fun c97 => absurd c97 (nI_ne10 hne h0)) (fun c97 => ?_)
        refine g_aload_n F (q := 101) (dk dL_acts_0 29 rfl) rfl rfl 2 rfl ?_
        refine g_iload F (q := 103) (dk dL_acts_0 30 rfl) rfl 1 rfl ?_
        refine g_iconst F (q := 104) (v := 0) (dk dL_acts_0 31 rfl) rfl (by decide) ?_
        refine h_VI F (av := [.int (nI ne), .int 0]) (st := []) (q_ear hQ73 ((vE0 hV2 (show ne < ne + 1 by omega)).trans hN.2.1)) kv_X6_ear tq_399 hQ73.e0 ⟨rfl, rfl⟩ (by decide) ⟨Nat.le_refl _, Nat.le_refl _⟩ rfl rfl (Nat.le_of_ble_eq_true rfl) (dk dL_acts_0 32 rfl) rfl (fun E104 hQ104 => ?_)
        refine g_iload F (q := 109) (dk dL_acts_0 33 rfl) rfl 6 rfl ?_
        refine g_sipush F (q := 112) (v := 1001) (dk dL_acts_0 34 rfl) rfl (by decide) ?_
        refine h_SI F (av := [.int h, .int 1001]) (st := [.int (nI p)]) (q_low (v := h) (N := 1001) (by omega) (by omega)) ks_L_low tq_376 ⟨rfl, rfl⟩ (by decide) ⟨Nat.le_refl _, Nat.le_refl _⟩ rfl rfl (Nat.le_of_ble_eq_true rfl) (dk dL_acts_0 35 rfl) rfl (fun E112 hE112 => ?_)
        obtain rfl := hE112
        refine g_sti (y := nI p) ep ?_
        refine g_icmp_ne F (q := 118) (tgt := 133) (dk dL_acts_0 36 rfl) (by decide) rfl (fun c115 => absurd c115 (fun h => h rfl)) (fun c115 => ?_)
        refine g_aload_n F (q := 119) (dk dL_acts_0 37 rfl) rfl rfl 2 rfl ?_
        refine g_iload F (q := 121) (dk dL_acts_0 38 rfl) rfl 1 rfl ?_
        refine g_bipush F (q := 123) (v := 6) (dk dL_acts_0 39 rfl) rfl (by decide) ?_
        refine h_VI F (av := [.int (nI ne), .int 6]) (st := []) (q_ear hQ104 ((vE6 hV2 (show ne < ne + 1 by omega)).trans (kC_z (fun m e q1 q2 q3 => (hf _ (by omega) (by omega)).trans (hB m e q1 q2 q3)) (by omega)))) kv_X6_ear tq_399 hQ104.e0 ⟨rfl, rfl⟩ (by decide) ⟨Nat.le_refl _, Nat.le_refl _⟩ rfl rfl (Nat.le_of_ble_eq_true rfl) (dk dL_acts_1 0 rfl) rfl (fun E123 hQ123 => ?_)
        refine g_if_ne F (q := 129) (tgt := 133) (dk dL_acts_1 1 rfl) (by decide) rfl (fun h => absurd h (by decide)) (fun _ => ?_)
        refine g_iconst F (q := 130) (v := 1) (dk dL_acts_1 2 rfl) rfl (by decide) ?_
        refine g_goto F (tgt := 134) (dk dL_acts_1 3 rfl) (by decide) ?_
        refine hret 1 E123 _ _ (dk dL_acts_1 5 rfl) rfl ?_
        exact ⟨rfl, r2, ne + 1, nt, nk, nup nh, ln, txt, d, ps, hQ123, DD_c (fun j q => hf j (by omega) (by omega)) hD, PP_c (fun j q => hf j (by omega) (by omega)) hP, Bey_b (fun j q => hf j (by omega) (by omega)) hB⟩
    · have hx : (nI ((lowN g 9))) = 2 := by rw [hsw]; decide
      refine g_tabIn F (tgt := 135) (off := 111) (dk dL_acts_0 13 rfl) (by rw [hx]; decide) (by rw [hx]; decide) (by rw [hx]; decide) (by decide) ?_
      refine g_iload F (q := 137) (dk dL_acts_1 6 rfl) rfl 6 rfl ?_
      refine g_iconst F (q := 138) (v := 4) (dk dL_acts_1 7 rfl) rfl (by decide) ?_
      refine g_ishr F (q := 139) (dk dL_acts_1 8 rfl) rfl ?_
      refine g_sipush F (q := 142) (v := 1001) (dk dL_acts_1 9 rfl) rfl (by decide) ?_
      refine h_SI F (av := [.int (h >>> (4 &&& 31)), .int 1001]) (st := []) (q_low (v := (h >>> (4 &&& 31))) (N := 1001) (by omega) (by omega)) ks_L_low tq_376 ⟨rfl, rfl⟩ (by decide) ⟨Nat.le_refl _, Nat.le_refl _⟩ rfl rfl (Nat.le_of_ble_eq_true rfl) (dk dL_acts_1 10 rfl) rfl (fun E142 hE142 => ?_)
      obtain rfl := hE142
      obtain ⟨a1, ha1, ea1⟩ := low_ex (v := (h >>> (4 &&& 31))) (N := 1001) (by omega)
      refine g_sti (y := nI a1) ea1 ?_
      refine g_sipush F (q := 148) (v := 500) (dk dL_acts_1 11 rfl) rfl (by decide) ?_
      refine g_isub F (q := 149) (dk dL_acts_1 12 rfl) rfl ?_
      refine g_topi (fun off eoff => ?_)
      refine g_istore F (q := 151) (lv' := [(7, .int off), (6, .int (nI ea)), (5, .int (nI ne)), (0, .ref (ad 0)), (1, .ref (ad 233)), (2, .ref (ad 234)), (3, .int g), (4, .int h)]) (dk dL_acts_1 13 rfl) rfl (Nat.le_of_ble_eq_true rfl) rfl ?_
      refine g_iload F (q := 153) (dk dL_acts_1 14 rfl) rfl 7 rfl ?_
      refine g_bipush F (q := 155) (v := 8) (dk dL_acts_1 15 rfl) rfl (by decide) ?_
      refine g_ishr F (q := 156) (dk dL_acts_1 16 rfl) rfl ?_
      refine g_bipush F (q := 158) (v := 101) (dk dL_acts_1 17 rfl) rfl (by decide) ?_
      refine h_SI F (av := [.int (h >>> (8 &&& 31)), .int 101]) (st := []) (q_low (v := (h >>> (8 &&& 31))) (N := 101) (by omega) (by omega)) ks_L_low tq_376 ⟨rfl, rfl⟩ (by decide) ⟨Nat.le_refl _, Nat.le_refl _⟩ rfl rfl (Nat.le_of_ble_eq_true rfl) (dk dL_acts_1 18 rfl) rfl (fun E158 hE158 => ?_)
      obtain rfl := hE158
      obtain ⟨a2, ha2, ea2⟩ := low_ex (v := (h >>> (8 &&& 31))) (N := 101) (by omega)
      refine g_sti (y := nI a2) ea2 ?_
      refine g_bipush F (q := 163) (v := 50) (dk dL_acts_1 19 rfl) rfl (by decide) ?_
      refine g_isub F (q := 164) (dk dL_acts_1 20 rfl) rfl ?_
      refine g_topi (fun dr edr => ?_)
      refine g_istore F (q := 166) (lv' := [(8, .int dr), (7, .int off), (6, .int (nI ea)), (5, .int (nI ne)), (0, .ref (ad 0)), (1, .ref (ad 233)), (2, .ref (ad 234)), (3, .int g), (4, .int h)]) (dk dL_acts_1 21 rfl) rfl (Nat.le_of_ble_eq_true rfl) rfl ?_
      have hof : -500 ≤ off ∧ off ≤ 500 := by rw [eoff]; exact low_o (by omega)
      have hdr : -50 ≤ dr ∧ dr ≤ 50 := by rw [edr]; exact low_d (by omega)
      refine g_iload F (q := 168) (dk dL_acts_1 22 rfl) rfl 2 rfl ?_
      refine g_iload F (q := 170) (dk dL_acts_1 23 rfl) rfl 3 rfl ?_
      refine g_icmp_ge F (q := 173) (tgt := 209) (dk dL_acts_1 24 rfl) (by decide) rfl (fun c170 => ?_) (fun c170 => ?_)
      · have nc170 : ne ≤ ea := (nI_leI (a := ne) (b := ea) (by omega) (by omega)).mp c170
        refine g_iconst F (q := 210) (v := 0) (dk dL_acts_2 3 rfl) rfl (by decide) ?_
        refine g_istore F (q := 212) (lv' := [(9, .int 0), (8, .int dr), (7, .int off), (6, .int (nI ea)), (5, .int (nI ne)), (0, .ref (ad 0)), (1, .ref (ad 233)), (2, .ref (ad 234)), (3, .int g), (4, .int h)]) (dk dL_acts_2 4 rfl) rfl (Nat.le_of_ble_eq_true rfl) rfl ?_
        refine g_aload_n F (q := 213) (dk dL_acts_2 5 rfl) rfl rfl 5 rfl ?_
        refine g_iload F (q := 215) (dk dL_acts_2 6 rfl) rfl 3 rfl ?_
        refine g_iload F (q := 217) (dk dL_acts_2 7 rfl) rfl 2 rfl ?_
        refine g_iload F (q := 219) (dk dL_acts_2 8 rfl) rfl 1 rfl ?_
        refine h_VI F (av := [.int (nI ea), .int off, .int dr]) (st := []) (q_setClock_n hQ2 (sK_un (show ne ≤ ea by omega) (by omega))) kv_X6_setClock tq_515 hQ2.e0 ⟨rfl, rfl⟩ (by decide) ⟨Nat.le_refl _, Nat.le_refl _⟩ rfl rfl (Nat.le_of_ble_eq_true rfl) (dk dL_acts_2 9 rfl) rfl (fun E219 hQ219 => ?_)
        refine g_iload F (q := 224) (dk dL_acts_2 10 rfl) rfl 3 rfl ?_
        refine g_iload F (q := 226) (dk dL_acts_2 11 rfl) rfl 4 rfl ?_
        refine g_icmp_ne F (q := 229) (tgt := 233) (dk dL_acts_2 12 rfl) (by decide) rfl (fun c226 => absurd c226 (fun h => h (by rw [show ea = ne by omega]))) (fun c226 => ?_)
        refine g_iconst F (q := 230) (v := (-1)) (dk dL_acts_2 13 rfl) rfl (by decide) ?_
        refine g_goto F (tgt := 244) (dk dL_acts_2 14 rfl) (by decide) ?_
        refine g_icmp_ne F (q := 247) (tgt := 251) (dk dL_acts_2 20 rfl) (by decide) rfl (fun h => absurd h (by decide)) (fun _ => ?_)
        refine g_iconst F (q := 248) (v := 1) (dk dL_acts_2 21 rfl) rfl (by decide) ?_
        refine g_goto F (tgt := 252) (dk dL_acts_2 22 rfl) (by decide) ?_
        refine hret 1 E219 _ _ (dk dL_acts_2 24 rfl) rfl ?_
        exact ⟨rfl, r, ne, nt, nk, nh, ln, txt, d, ps, hQ219, hD, hP, hB⟩
      · have nc170 : ¬ ne ≤ ea := fun h => c170 ((nI_leI (a := ne) (b := ea) (by omega) (by omega)).mpr h)
        refine g_aload_n F (q := 174) (dk dL_acts_1 25 rfl) rfl rfl 4 rfl ?_
        refine g_iload F (q := 176) (dk dL_acts_1 26 rfl) rfl 2 rfl ?_
        refine g_iconst F (q := 177) (v := 2) (dk dL_acts_1 27 rfl) rfl (by decide) ?_
        refine h_VI F (av := [.int (nI ea), .int 2]) (st := []) (q_ear hQ2 (vE2 hV (show ea < ne by omega))) kv_X6_ear tq_399 hQ2.e0 ⟨rfl, rfl⟩ (by decide) ⟨Nat.le_refl _, Nat.le_refl _⟩ rfl rfl (Nat.le_of_ble_eq_true rfl) (dk dL_acts_1 28 rfl) rfl (fun E177 hQ177 => ?_)
        refine g_iload F (q := 182) (dk dL_acts_1 29 rfl) rfl 1 rfl ?_
        refine g_sipush F (q := 185) (v := 1000) (dk dL_acts_1 30 rfl) rfl (by decide) ?_
        refine g_iadd F (q := 186) (dk dL_acts_1 31 rfl) rfl ?_
        refine g_icmp_ne F (q := 189) (tgt := 209) (dk dL_acts_1 32 rfl) (by decide) rfl (fun c186 => ?_) (fun c186 => ?_)
        · refine g_iconst F (q := 210) (v := 0) (dk dL_acts_2 3 rfl) rfl (by decide) ?_
          refine g_istore F (q := 212) (lv' := [(9, .int 0), (8, .int dr), (7, .int off), (6, .int (nI ea)), (5, .int (nI ne)), (0, .ref (ad 0)), (1, .ref (ad 233)), (2, .ref (ad 234)), (3, .int g), (4, .int h)]) (dk dL_acts_2 4 rfl) rfl (Nat.le_of_ble_eq_true rfl) rfl ?_
          refine g_aload_n F (q := 213) (dk dL_acts_2 5 rfl) rfl rfl 5 rfl ?_
          refine g_iload F (q := 215) (dk dL_acts_2 6 rfl) rfl 3 rfl ?_
          refine g_iload F (q := 217) (dk dL_acts_2 7 rfl) rfl 2 rfl ?_
          refine g_iload F (q := 219) (dk dL_acts_2 8 rfl) rfl 1 rfl ?_
          obtain ⟨r2, hs2, hf⟩ := sK_ok (r := r) h0 (show ea < ne by omega) hof hdr (fun q => c186 (by rw [q.1]))
          refine h_VI F (av := [.int (nI ea), .int off, .int dr]) (st := []) (q_setClock_s hQ177 hs2 ((hf 0 (by omega)).trans hV.h0) h0 ((hf 1 (by omega)).trans hV.h1) h1 ((hf 2 (by omega)).trans hV.h2) h2) kv_X6_setClock tq_515 hQ177.e0 ⟨rfl, rfl⟩ (by decide) ⟨Nat.le_refl _, Nat.le_refl _⟩ rfl rfl (Nat.le_of_ble_eq_true rfl) (dk dL_acts_2 9 rfl) rfl (fun E219 hQ219 => ?_)
          refine g_iload F (q := 224) (dk dL_acts_2 10 rfl) rfl 3 rfl ?_
          refine g_iload F (q := 226) (dk dL_acts_2 11 rfl) rfl 4 rfl ?_
          refine g_icmp_ne F (q := 229) (tgt := 233) (dk dL_acts_2 12 rfl) (by decide) rfl (fun c226 => ?_) (fun c226 => absurd c226 (nI_ne2 (show ea < 2 ^ 31 by omega) (show ne < 2 ^ 31 by omega) (by omega)))
          refine g_iload F (q := 235) (dk dL_acts_2 15 rfl) rfl 0 rfl ?_
          refine g_if_eq F (q := 238) (tgt := 243) (dk dL_acts_2 16 rfl) (by decide) rfl (fun _ => ?_) (fun h => absurd h (by decide))
          refine g_iconst F (q := 244) (v := 1) (dk dL_acts_2 19 rfl) rfl (by decide) ?_
          refine g_icmp_ne F (q := 247) (tgt := 251) (dk dL_acts_2 20 rfl) (by decide) rfl (fun h => absurd h (by decide)) (fun _ => ?_)
          refine g_iconst F (q := 248) (v := 1) (dk dL_acts_2 21 rfl) rfl (by decide) ?_
          refine g_goto F (tgt := 252) (dk dL_acts_2 22 rfl) (by decide) ?_
          refine hret 1 E219 _ _ (dk dL_acts_2 24 rfl) rfl ?_
          exact ⟨rfl, r2, ne, nt, nk, nup nh, ln, txt, d, ps, hQ219, DD_c (fun j q => hf j (by omega)) hD, PP_c (fun j q => hf j (by omega)) hP, Bey_c (fun j q => hf j (by omega)) hB⟩
        · refine g_aload_n F (q := 190) (dk dL_acts_1 33 rfl) rfl rfl 4 rfl ?_
          refine g_iload F (q := 192) (dk dL_acts_1 34 rfl) rfl 2 rfl ?_
          refine g_iconst F (q := 193) (v := 3) (dk dL_acts_1 35 rfl) rfl (by decide) ?_
          refine h_VI F (av := [.int (nI ea), .int 3]) (st := []) (q_ear hQ177 (vE3 hV (show ea < ne by omega))) kv_X6_ear tq_399 hQ177.e0 ⟨rfl, rfl⟩ (by decide) ⟨Nat.le_refl _, Nat.le_refl _⟩ rfl rfl (Nat.le_of_ble_eq_true rfl) (dk dL_acts_1 36 rfl) rfl (fun E193 hQ193 => ?_)
          refine g_iload F (q := 198) (dk dL_acts_1 37 rfl) rfl 0 rfl ?_
          refine g_sipush F (q := 201) (v := 1000) (dk dL_acts_1 38 rfl) rfl (by decide) ?_
          refine g_iadd F (q := 202) (dk dL_acts_1 39 rfl) rfl ?_
          refine g_icmp_ne F (q := 205) (tgt := 209) (dk dL_acts_2 0 rfl) (by decide) rfl (fun c202 => ?_) (fun c202 => ?_)
          · refine g_iconst F (q := 210) (v := 0) (dk dL_acts_2 3 rfl) rfl (by decide) ?_
            refine g_istore F (q := 212) (lv' := [(9, .int 0), (8, .int dr), (7, .int off), (6, .int (nI ea)), (5, .int (nI ne)), (0, .ref (ad 0)), (1, .ref (ad 233)), (2, .ref (ad 234)), (3, .int g), (4, .int h)]) (dk dL_acts_2 4 rfl) rfl (Nat.le_of_ble_eq_true rfl) rfl ?_
            refine g_aload_n F (q := 213) (dk dL_acts_2 5 rfl) rfl rfl 5 rfl ?_
            refine g_iload F (q := 215) (dk dL_acts_2 6 rfl) rfl 3 rfl ?_
            refine g_iload F (q := 217) (dk dL_acts_2 7 rfl) rfl 2 rfl ?_
            refine g_iload F (q := 219) (dk dL_acts_2 8 rfl) rfl 1 rfl ?_
            obtain ⟨r2, hs2, hf⟩ := sK_ok (r := r) h0 (show ea < ne by omega) hof hdr (fun q => c202 (by rw [q.2]))
            refine h_VI F (av := [.int (nI ea), .int off, .int dr]) (st := []) (q_setClock_s hQ193 hs2 ((hf 0 (by omega)).trans hV.h0) h0 ((hf 1 (by omega)).trans hV.h1) h1 ((hf 2 (by omega)).trans hV.h2) h2) kv_X6_setClock tq_515 hQ193.e0 ⟨rfl, rfl⟩ (by decide) ⟨Nat.le_refl _, Nat.le_refl _⟩ rfl rfl (Nat.le_of_ble_eq_true rfl) (dk dL_acts_2 9 rfl) rfl (fun E219 hQ219 => ?_)
            refine g_iload F (q := 224) (dk dL_acts_2 10 rfl) rfl 3 rfl ?_
            refine g_iload F (q := 226) (dk dL_acts_2 11 rfl) rfl 4 rfl ?_
            refine g_icmp_ne F (q := 229) (tgt := 233) (dk dL_acts_2 12 rfl) (by decide) rfl (fun c226 => ?_) (fun c226 => absurd c226 (nI_ne2 (show ea < 2 ^ 31 by omega) (show ne < 2 ^ 31 by omega) (by omega)))
            refine g_iload F (q := 235) (dk dL_acts_2 15 rfl) rfl 0 rfl ?_
            refine g_if_eq F (q := 238) (tgt := 243) (dk dL_acts_2 16 rfl) (by decide) rfl (fun _ => ?_) (fun h => absurd h (by decide))
            refine g_iconst F (q := 244) (v := 1) (dk dL_acts_2 19 rfl) rfl (by decide) ?_
            refine g_icmp_ne F (q := 247) (tgt := 251) (dk dL_acts_2 20 rfl) (by decide) rfl (fun h => absurd h (by decide)) (fun _ => ?_)
            refine g_iconst F (q := 248) (v := 1) (dk dL_acts_2 21 rfl) rfl (by decide) ?_
            refine g_goto F (tgt := 252) (dk dL_acts_2 22 rfl) (by decide) ?_
            refine hret 1 E219 _ _ (dk dL_acts_2 24 rfl) rfl ?_
            exact ⟨rfl, r2, ne, nt, nk, nup nh, ln, txt, d, ps, hQ219, DD_c (fun j q => hf j (by omega)) hD, PP_c (fun j q => hf j (by omega)) hP, Bey_c (fun j q => hf j (by omega)) hB⟩
          · refine g_iconst F (q := 206) (v := 1) (dk dL_acts_2 1 rfl) rfl (by decide) ?_
            refine g_goto F (tgt := 210) (dk dL_acts_2 2 rfl) (by decide) ?_
            refine g_istore F (q := 212) (lv' := [(9, .int 1), (8, .int dr), (7, .int off), (6, .int (nI ea)), (5, .int (nI ne)), (0, .ref (ad 0)), (1, .ref (ad 233)), (2, .ref (ad 234)), (3, .int g), (4, .int h)]) (dk dL_acts_2 4 rfl) rfl (Nat.le_of_ble_eq_true rfl) rfl ?_
            refine g_aload_n F (q := 213) (dk dL_acts_2 5 rfl) rfl rfl 5 rfl ?_
            refine g_iload F (q := 215) (dk dL_acts_2 6 rfl) rfl 3 rfl ?_
            refine g_iload F (q := 217) (dk dL_acts_2 7 rfl) rfl 2 rfl ?_
            refine g_iload F (q := 219) (dk dL_acts_2 8 rfl) rfl 1 rfl ?_
            refine h_VI F (av := [.int (nI ea), .int off, .int dr]) (st := []) (q_setClock_n hQ193 (sK_same h0 (show ea < ne by omega) hof hdr (add_inj c186) (add_inj c202))) kv_X6_setClock tq_515 hQ193.e0 ⟨rfl, rfl⟩ (by decide) ⟨Nat.le_refl _, Nat.le_refl _⟩ rfl rfl (Nat.le_of_ble_eq_true rfl) (dk dL_acts_2 9 rfl) rfl (fun E219 hQ219 => ?_)
            refine g_iload F (q := 224) (dk dL_acts_2 10 rfl) rfl 3 rfl ?_
            refine g_iload F (q := 226) (dk dL_acts_2 11 rfl) rfl 4 rfl ?_
            refine g_icmp_ne F (q := 229) (tgt := 233) (dk dL_acts_2 12 rfl) (by decide) rfl (fun c226 => ?_) (fun c226 => absurd c226 (nI_ne2 (show ea < 2 ^ 31 by omega) (show ne < 2 ^ 31 by omega) (by omega)))
            refine g_iload F (q := 235) (dk dL_acts_2 15 rfl) rfl 0 rfl ?_
            refine g_if_eq F (q := 238) (tgt := 243) (dk dL_acts_2 16 rfl) (by decide) rfl (fun h => absurd h (by decide)) (fun _ => ?_)
            refine g_bipush F (q := 240) (v := (-5)) (dk dL_acts_2 17 rfl) rfl (by decide) ?_
            refine g_goto F (tgt := 244) (dk dL_acts_2 18 rfl) (by decide) ?_
            refine g_icmp_ne F (q := 247) (tgt := 251) (dk dL_acts_2 20 rfl) (by decide) rfl (fun h => absurd h (by decide)) (fun _ => ?_)
            refine g_iconst F (q := 248) (v := 1) (dk dL_acts_2 21 rfl) rfl (by decide) ?_
            refine g_goto F (tgt := 252) (dk dL_acts_2 22 rfl) (by decide) ?_
            refine hret 1 E219 _ _ (dk dL_acts_2 24 rfl) rfl ?_
            exact ⟨rfl, r, ne, nt, nk, nh, ln, txt, d, ps, hQ219, hD, hP, hB⟩
    · have hx : (nI ((lowN g 9))) = 3 := by rw [hsw]; decide
      refine g_tabIn F (tgt := 253) (off := 229) (dk dL_acts_0 13 rfl) (by rw [hx]; decide) (by rw [hx]; decide) (by rw [hx]; decide) (by decide) ?_
      refine g_iload F (q := 255) (dk dL_acts_2 25 rfl) rfl 6 rfl ?_
      refine g_iconst F (q := 256) (v := 4) (dk dL_acts_2 26 rfl) rfl (by decide) ?_
      refine g_ishr F (q := 257) (dk dL_acts_2 27 rfl) rfl ?_
      refine g_iconst F (q := 258) (v := 3) (dk dL_acts_2 28 rfl) rfl (by decide) ?_
      refine h_SI F (av := [.int (h >>> (4 &&& 31)), .int 3]) (st := []) (q_low (v := (h >>> (4 &&& 31))) (N := 3) (by omega) (by omega)) ks_L_low tq_376 ⟨rfl, rfl⟩ (by decide) ⟨Nat.le_refl _, Nat.le_refl _⟩ rfl rfl (Nat.le_of_ble_eq_true rfl) (dk dL_acts_2 29 rfl) rfl (fun E258 hE258 => ?_)
      obtain rfl := hE258
      refine g_if_ne F (q := 264) (tgt := 268) (dk dL_acts_2 30 rfl) (by decide) rfl (fun c261 => ?_) (fun c261 => ?_)
      · refine g_iconst F (q := 269) (v := 0) (dk dL_acts_2 33 rfl) rfl (by decide) ?_
        refine g_istore F (q := 271) (lv' := [(7, .int 0), (6, .int (nI ea)), (5, .int (nI ne)), (0, .ref (ad 0)), (1, .ref (ad 233)), (2, .ref (ad 234)), (3, .int g), (4, .int h)]) (dk dL_acts_2 34 rfl) rfl (Nat.le_of_ble_eq_true rfl) rfl ?_
        refine g_aload_n F (q := 272) (dk dL_acts_2 35 rfl) rfl rfl 3 rfl ?_
        refine g_bipush F (q := 274) (v := 6) (dk dL_acts_2 36 rfl) rfl (by decide) ?_
        refine h_VI F (av := [.int 6]) (st := []) (q_count hQ2 (vC6 hV)) kv_X6_count tq_293 hQ2.e0 ⟨rfl, rfl⟩ (by decide) ⟨Nat.le_refl _, Nat.le_refl _⟩ rfl rfl (Nat.le_of_ble_eq_true rfl) (dk dL_acts_2 37 rfl) rfl (fun E274 hQ274 => ?_)
        refine g_istore F (q := 279) (lv' := [(8, .int (sumN (fun ee => r (6 + 4 * ee + 1)) ne)), (7, .int 0), (6, .int (nI ea)), (5, .int (nI ne)), (0, .ref (ad 0)), (1, .ref (ad 233)), (2, .ref (ad 234)), (3, .int g), (4, .int h)]) (dk dL_acts_2 38 rfl) rfl (Nat.le_of_ble_eq_true rfl) rfl ?_
        refine g_iload F (q := 281) (dk dL_acts_2 39 rfl) rfl 2 rfl ?_
        refine g_iload F (q := 283) (dk dL_acts_3 0 rfl) rfl 3 rfl ?_
        refine g_icmp_ge F (q := 286) (tgt := 296) (dk dL_acts_3 1 rfl) (by decide) rfl (fun c283 => ?_) (fun c283 => ?_)
        · have nc283 : ne ≤ ea := (nI_leI (a := ne) (b := ea) (by omega) (by omega)).mp c283
          refine g_iconst F (q := 297) (v := 0) (dk dL_acts_3 7 rfl) rfl (by decide) ?_
          refine g_istore F (q := 299) (lv' := [(9, .int 0), (8, .int (sumN (fun ee => r (6 + 4 * ee + 1)) ne)), (7, .int 0), (6, .int (nI ea)), (5, .int (nI ne)), (0, .ref (ad 0)), (1, .ref (ad 233)), (2, .ref (ad 234)), (3, .int g), (4, .int h)]) (dk dL_acts_3 8 rfl) rfl (Nat.le_of_ble_eq_true rfl) rfl ?_
          refine g_aload_n F (q := 300) (dk dL_acts_3 9 rfl) rfl rfl 5 rfl ?_
          refine g_iload F (q := 302) (dk dL_acts_3 10 rfl) rfl 3 rfl ?_
          refine g_iload F (q := 304) (dk dL_acts_3 11 rfl) rfl 2 rfl ?_
          refine h_VI F (av := [.int (nI ea), .int 0]) (st := []) (q_mute_n hQ274 (Or.inl rfl) (sM_un (show ne ≤ ea by omega) (by omega))) kv_X6_mute tq_519 hQ274.e0 ⟨rfl, rfl⟩ (by decide) ⟨Nat.le_refl _, Nat.le_refl _⟩ rfl rfl (Nat.le_of_ble_eq_true rfl) (dk dL_acts_3 12 rfl) rfl (fun E304 hQ304 => ?_)
          refine g_iload F (q := 309) (dk dL_acts_3 13 rfl) rfl 3 rfl ?_
          refine g_iload F (q := 311) (dk dL_acts_3 14 rfl) rfl 4 rfl ?_
          refine g_icmp_ne F (q := 314) (tgt := 318) (dk dL_acts_3 15 rfl) (by decide) rfl (fun c311 => absurd c311 (fun h => h (by rw [show ea = ne by omega]))) (fun c311 => ?_)
          refine g_iconst F (q := 315) (v := (-1)) (dk dL_acts_3 16 rfl) rfl (by decide) ?_
          refine g_goto F (tgt := 355) (dk dL_acts_3 17 rfl) (by decide) ?_
          refine g_icmp_ne F (q := 358) (tgt := 362) (dk dL_acts_3 37 rfl) (by decide) rfl (fun h => absurd h (by decide)) (fun _ => ?_)
          refine g_iconst F (q := 359) (v := 1) (dk dL_acts_3 38 rfl) rfl (by decide) ?_
          refine g_goto F (tgt := 363) (dk dL_acts_3 39 rfl) (by decide) ?_
          refine hret 1 E304 _ _ (dk dL_acts_4 1 rfl) rfl ?_
          exact ⟨rfl, r, ne, nt, nk, nh, ln, txt, d, ps, hQ304, hD, hP, hB⟩
        · have nc283 : ¬ ne ≤ ea := fun h => c283 ((nI_leI (a := ne) (b := ea) (by omega) (by omega)).mpr h)
          refine g_aload_n F (q := 287) (dk dL_acts_3 2 rfl) rfl rfl 4 rfl ?_
          refine g_iload F (q := 289) (dk dL_acts_3 3 rfl) rfl 2 rfl ?_
          refine g_iconst F (q := 290) (v := 1) (dk dL_acts_3 4 rfl) rfl (by decide) ?_
          rcases hV.mu (show ea < ne by omega) with hw | hw
          · refine h_VI F (av := [.int (nI ea), .int 1]) (st := []) (q_ear hQ274 ((vE1 hV (show ea < ne by omega)).trans hw)) kv_X6_ear tq_399 hQ274.e0 ⟨rfl, rfl⟩ (by decide) ⟨Nat.le_refl _, Nat.le_refl _⟩ rfl rfl (Nat.le_of_ble_eq_true rfl) (dk dL_acts_3 5 rfl) rfl (fun E290 hQ290 => ?_)
            refine g_goto F (tgt := 297) (dk dL_acts_3 6 rfl) (by decide) ?_
            refine g_istore F (q := 299) (lv' := [(9, .int 0), (8, .int (sumN (fun ee => r (6 + 4 * ee + 1)) ne)), (7, .int 0), (6, .int (nI ea)), (5, .int (nI ne)), (0, .ref (ad 0)), (1, .ref (ad 233)), (2, .ref (ad 234)), (3, .int g), (4, .int h)]) (dk dL_acts_3 8 rfl) rfl (Nat.le_of_ble_eq_true rfl) rfl ?_
            refine g_aload_n F (q := 300) (dk dL_acts_3 9 rfl) rfl rfl 5 rfl ?_
            refine g_iload F (q := 302) (dk dL_acts_3 10 rfl) rfl 3 rfl ?_
            refine g_iload F (q := 304) (dk dL_acts_3 11 rfl) rfl 2 rfl ?_
            refine h_VI F (av := [.int (nI ea), .int 0]) (st := []) (q_mute_n hQ290 (Or.inl rfl) (sM_same h0 (show ea < ne by omega) (Or.inl rfl) hw)) kv_X6_mute tq_519 hQ290.e0 ⟨rfl, rfl⟩ (by decide) ⟨Nat.le_refl _, Nat.le_refl _⟩ rfl rfl (Nat.le_of_ble_eq_true rfl) (dk dL_acts_3 12 rfl) rfl (fun E304 hQ304 => ?_)
            refine g_iload F (q := 309) (dk dL_acts_3 13 rfl) rfl 3 rfl ?_
            refine g_iload F (q := 311) (dk dL_acts_3 14 rfl) rfl 4 rfl ?_
            refine g_icmp_ne F (q := 314) (tgt := 318) (dk dL_acts_3 15 rfl) (by decide) rfl (fun c311 => ?_) (fun c311 => absurd c311 (nI_ne2 (show ea < 2 ^ 31 by omega) (show ne < 2 ^ 31 by omega) (by omega)))
            refine g_iload F (q := 320) (dk dL_acts_3 18 rfl) rfl 0 rfl ?_
            refine g_iconst F (q := 321) (v := 1) (dk dL_acts_3 19 rfl) rfl (by decide) ?_
            refine g_icmp_ne F (q := 324) (tgt := 328) (dk dL_acts_3 20 rfl) (by decide) rfl (fun _ => ?_) (fun h => absurd h (by decide))
            refine g_iconst F (q := 329) (v := 0) (dk dL_acts_3 23 rfl) rfl (by decide) ?_
            refine g_iload F (q := 331) (dk dL_acts_3 24 rfl) rfl 2 rfl ?_
            refine g_icmp_ne F (q := 334) (tgt := 339) (dk dL_acts_3 25 rfl) (by decide) rfl (fun h => absurd h (by decide)) (fun _ => ?_)
            refine g_bipush F (q := 336) (v := (-5)) (dk dL_acts_3 26 rfl) rfl (by decide) ?_
            refine g_goto F (tgt := 355) (dk dL_acts_3 27 rfl) (by decide) ?_
            refine g_icmp_ne F (q := 358) (tgt := 362) (dk dL_acts_3 37 rfl) (by decide) rfl (fun h => absurd h (by decide)) (fun _ => ?_)
            refine g_iconst F (q := 359) (v := 1) (dk dL_acts_3 38 rfl) rfl (by decide) ?_
            refine g_goto F (tgt := 363) (dk dL_acts_3 39 rfl) (by decide) ?_
            refine hret 1 E304 _ _ (dk dL_acts_4 1 rfl) rfl ?_
            exact ⟨rfl, r, ne, nt, nk, nh, ln, txt, d, ps, hQ304, hD, hP, hB⟩
          · refine h_VI F (av := [.int (nI ea), .int 1]) (st := []) (q_ear hQ274 ((vE1 hV (show ea < ne by omega)).trans hw)) kv_X6_ear tq_399 hQ274.e0 ⟨rfl, rfl⟩ (by decide) ⟨Nat.le_refl _, Nat.le_refl _⟩ rfl rfl (Nat.le_of_ble_eq_true rfl) (dk dL_acts_3 5 rfl) rfl (fun E290 hQ290 => ?_)
            refine g_goto F (tgt := 297) (dk dL_acts_3 6 rfl) (by decide) ?_
            refine g_istore F (q := 299) (lv' := [(9, .int 1), (8, .int (sumN (fun ee => r (6 + 4 * ee + 1)) ne)), (7, .int 0), (6, .int (nI ea)), (5, .int (nI ne)), (0, .ref (ad 0)), (1, .ref (ad 233)), (2, .ref (ad 234)), (3, .int g), (4, .int h)]) (dk dL_acts_3 8 rfl) rfl (Nat.le_of_ble_eq_true rfl) rfl ?_
            refine g_aload_n F (q := 300) (dk dL_acts_3 9 rfl) rfl rfl 5 rfl ?_
            refine g_iload F (q := 302) (dk dL_acts_3 10 rfl) rfl 3 rfl ?_
            refine g_iload F (q := 304) (dk dL_acts_3 11 rfl) rfl 2 rfl ?_
            obtain ⟨r2, hs2, hf⟩ := sM_off (r := r) h0 (show ea < ne by omega) hw
            refine h_VI F (av := [.int (nI ea), .int 0]) (st := []) (q_mute_s hQ290 (Or.inl rfl) hs2 ((hf 0 (by omega)).trans hV.h0) h0 ((hf 1 (by omega)).trans hV.h1) h1 ((hf 2 (by omega)).trans hV.h2) h2) kv_X6_mute tq_519 hQ290.e0 ⟨rfl, rfl⟩ (by decide) ⟨Nat.le_refl _, Nat.le_refl _⟩ rfl rfl (Nat.le_of_ble_eq_true rfl) (dk dL_acts_3 12 rfl) rfl (fun E304 hQ304 => ?_)
            refine g_iload F (q := 309) (dk dL_acts_3 13 rfl) rfl 3 rfl ?_
            refine g_iload F (q := 311) (dk dL_acts_3 14 rfl) rfl 4 rfl ?_
            refine g_icmp_ne F (q := 314) (tgt := 318) (dk dL_acts_3 15 rfl) (by decide) rfl (fun c311 => ?_) (fun c311 => absurd c311 (nI_ne2 (show ea < 2 ^ 31 by omega) (show ne < 2 ^ 31 by omega) (by omega)))
            refine g_iload F (q := 320) (dk dL_acts_3 18 rfl) rfl 0 rfl ?_
            refine g_iconst F (q := 321) (v := 1) (dk dL_acts_3 19 rfl) rfl (by decide) ?_
            refine g_icmp_ne F (q := 324) (tgt := 328) (dk dL_acts_3 20 rfl) (by decide) rfl (fun h => absurd h (by decide)) (fun _ => ?_)
            refine g_iconst F (q := 325) (v := 1) (dk dL_acts_3 21 rfl) rfl (by decide) ?_
            refine g_goto F (tgt := 329) (dk dL_acts_3 22 rfl) (by decide) ?_
            refine g_iload F (q := 331) (dk dL_acts_3 24 rfl) rfl 2 rfl ?_
            refine g_icmp_ne F (q := 334) (tgt := 339) (dk dL_acts_3 25 rfl) (by decide) rfl (fun _ => ?_) (fun h => absurd h (by decide))
            refine g_iload F (q := 341) (dk dL_acts_3 28 rfl) rfl 2 rfl ?_
            refine g_if_eq F (q := 344) (tgt := 351) (dk dL_acts_3 29 rfl) (by decide) rfl (fun _ => ?_) (fun h => absurd h (by decide))
            refine g_iload F (q := 353) (dk dL_acts_3 34 rfl) rfl 1 rfl ?_
            refine g_iconst F (q := 354) (v := 1) (dk dL_acts_3 35 rfl) rfl (by decide) ?_
            refine g_isub F (q := 355) (dk dL_acts_3 36 rfl) rfl ?_
            refine g_icmp_ne F (q := 358) (tgt := 362) (dk dL_acts_3 37 rfl) (by decide) rfl (fun c355 => absurd c355 (fun h => h rfl)) (fun c355 => ?_)
            refine g_iconst F (q := 359) (v := 1) (dk dL_acts_3 38 rfl) rfl (by decide) ?_
            refine g_goto F (tgt := 363) (dk dL_acts_3 39 rfl) (by decide) ?_
            refine hret 1 E304 _ _ (dk dL_acts_4 1 rfl) rfl ?_
            exact ⟨rfl, r2, ne, nt, nk, nup nh, ln, txt, d, ps, hQ304, DD_c (fun j q => hf j (by omega)) hD, PP_c (fun j q => hf j (by omega)) hP, Bey_c (fun j q => hf j (by omega)) hB⟩
      · refine g_iconst F (q := 265) (v := 1) (dk dL_acts_2 31 rfl) rfl (by decide) ?_
        refine g_goto F (tgt := 269) (dk dL_acts_2 32 rfl) (by decide) ?_
        refine g_istore F (q := 271) (lv' := [(7, .int 1), (6, .int (nI ea)), (5, .int (nI ne)), (0, .ref (ad 0)), (1, .ref (ad 233)), (2, .ref (ad 234)), (3, .int g), (4, .int h)]) (dk dL_acts_2 34 rfl) rfl (Nat.le_of_ble_eq_true rfl) rfl ?_
        refine g_aload_n F (q := 272) (dk dL_acts_2 35 rfl) rfl rfl 3 rfl ?_
        refine g_bipush F (q := 274) (v := 6) (dk dL_acts_2 36 rfl) rfl (by decide) ?_
        refine h_VI F (av := [.int 6]) (st := []) (q_count hQ2 (vC6 hV)) kv_X6_count tq_293 hQ2.e0 ⟨rfl, rfl⟩ (by decide) ⟨Nat.le_refl _, Nat.le_refl _⟩ rfl rfl (Nat.le_of_ble_eq_true rfl) (dk dL_acts_2 37 rfl) rfl (fun E274 hQ274 => ?_)
        refine g_istore F (q := 279) (lv' := [(8, .int (sumN (fun ee => r (6 + 4 * ee + 1)) ne)), (7, .int 1), (6, .int (nI ea)), (5, .int (nI ne)), (0, .ref (ad 0)), (1, .ref (ad 233)), (2, .ref (ad 234)), (3, .int g), (4, .int h)]) (dk dL_acts_2 38 rfl) rfl (Nat.le_of_ble_eq_true rfl) rfl ?_
        refine g_iload F (q := 281) (dk dL_acts_2 39 rfl) rfl 2 rfl ?_
        refine g_iload F (q := 283) (dk dL_acts_3 0 rfl) rfl 3 rfl ?_
        refine g_icmp_ge F (q := 286) (tgt := 296) (dk dL_acts_3 1 rfl) (by decide) rfl (fun c283 => ?_) (fun c283 => ?_)
        · have nc283 : ne ≤ ea := (nI_leI (a := ne) (b := ea) (by omega) (by omega)).mp c283
          refine g_iconst F (q := 297) (v := 0) (dk dL_acts_3 7 rfl) rfl (by decide) ?_
          refine g_istore F (q := 299) (lv' := [(9, .int 0), (8, .int (sumN (fun ee => r (6 + 4 * ee + 1)) ne)), (7, .int 1), (6, .int (nI ea)), (5, .int (nI ne)), (0, .ref (ad 0)), (1, .ref (ad 233)), (2, .ref (ad 234)), (3, .int g), (4, .int h)]) (dk dL_acts_3 8 rfl) rfl (Nat.le_of_ble_eq_true rfl) rfl ?_
          refine g_aload_n F (q := 300) (dk dL_acts_3 9 rfl) rfl rfl 5 rfl ?_
          refine g_iload F (q := 302) (dk dL_acts_3 10 rfl) rfl 3 rfl ?_
          refine g_iload F (q := 304) (dk dL_acts_3 11 rfl) rfl 2 rfl ?_
          refine h_VI F (av := [.int (nI ea), .int 1]) (st := []) (q_mute_n hQ274 (Or.inr rfl) (sM_un (show ne ≤ ea by omega) (by omega))) kv_X6_mute tq_519 hQ274.e0 ⟨rfl, rfl⟩ (by decide) ⟨Nat.le_refl _, Nat.le_refl _⟩ rfl rfl (Nat.le_of_ble_eq_true rfl) (dk dL_acts_3 12 rfl) rfl (fun E304 hQ304 => ?_)
          refine g_iload F (q := 309) (dk dL_acts_3 13 rfl) rfl 3 rfl ?_
          refine g_iload F (q := 311) (dk dL_acts_3 14 rfl) rfl 4 rfl ?_
          refine g_icmp_ne F (q := 314) (tgt := 318) (dk dL_acts_3 15 rfl) (by decide) rfl (fun c311 => absurd c311 (fun h => h (by rw [show ea = ne by omega]))) (fun c311 => ?_)
          refine g_iconst F (q := 315) (v := (-1)) (dk dL_acts_3 16 rfl) rfl (by decide) ?_
          refine g_goto F (tgt := 355) (dk dL_acts_3 17 rfl) (by decide) ?_
          refine g_icmp_ne F (q := 358) (tgt := 362) (dk dL_acts_3 37 rfl) (by decide) rfl (fun h => absurd h (by decide)) (fun _ => ?_)
          refine g_iconst F (q := 359) (v := 1) (dk dL_acts_3 38 rfl) rfl (by decide) ?_
          refine g_goto F (tgt := 363) (dk dL_acts_3 39 rfl) (by decide) ?_
          refine hret 1 E304 _ _ (dk dL_acts_4 1 rfl) rfl ?_
          exact ⟨rfl, r, ne, nt, nk, nh, ln, txt, d, ps, hQ304, hD, hP, hB⟩
        · have nc283 : ¬ ne ≤ ea := fun h => c283 ((nI_leI (a := ne) (b := ea) (by omega) (by omega)).mpr h)
          refine g_aload_n F (q := 287) (dk dL_acts_3 2 rfl) rfl rfl 4 rfl ?_
          refine g_iload F (q := 289) (dk dL_acts_3 3 rfl) rfl 2 rfl ?_
          refine g_iconst F (q := 290) (v := 1) (dk dL_acts_3 4 rfl) rfl (by decide) ?_
          rcases hV.mu (show ea < ne by omega) with hw | hw
          · refine h_VI F (av := [.int (nI ea), .int 1]) (st := []) (q_ear hQ274 ((vE1 hV (show ea < ne by omega)).trans hw)) kv_X6_ear tq_399 hQ274.e0 ⟨rfl, rfl⟩ (by decide) ⟨Nat.le_refl _, Nat.le_refl _⟩ rfl rfl (Nat.le_of_ble_eq_true rfl) (dk dL_acts_3 5 rfl) rfl (fun E290 hQ290 => ?_)
            refine g_goto F (tgt := 297) (dk dL_acts_3 6 rfl) (by decide) ?_
            refine g_istore F (q := 299) (lv' := [(9, .int 0), (8, .int (sumN (fun ee => r (6 + 4 * ee + 1)) ne)), (7, .int 1), (6, .int (nI ea)), (5, .int (nI ne)), (0, .ref (ad 0)), (1, .ref (ad 233)), (2, .ref (ad 234)), (3, .int g), (4, .int h)]) (dk dL_acts_3 8 rfl) rfl (Nat.le_of_ble_eq_true rfl) rfl ?_
            refine g_aload_n F (q := 300) (dk dL_acts_3 9 rfl) rfl rfl 5 rfl ?_
            refine g_iload F (q := 302) (dk dL_acts_3 10 rfl) rfl 3 rfl ?_
            refine g_iload F (q := 304) (dk dL_acts_3 11 rfl) rfl 2 rfl ?_
            obtain ⟨r2, hs2, hf⟩ := sM_on (r := r) h0 (show ea < ne by omega) hw
            refine h_VI F (av := [.int (nI ea), .int 1]) (st := []) (q_mute_s hQ290 (Or.inr rfl) hs2 ((hf 0 (by omega)).trans hV.h0) h0 ((hf 1 (by omega)).trans hV.h1) h1 ((hf 2 (by omega)).trans hV.h2) h2) kv_X6_mute tq_519 hQ290.e0 ⟨rfl, rfl⟩ (by decide) ⟨Nat.le_refl _, Nat.le_refl _⟩ rfl rfl (Nat.le_of_ble_eq_true rfl) (dk dL_acts_3 12 rfl) rfl (fun E304 hQ304 => ?_)
            refine g_iload F (q := 309) (dk dL_acts_3 13 rfl) rfl 3 rfl ?_
            refine g_iload F (q := 311) (dk dL_acts_3 14 rfl) rfl 4 rfl ?_
            refine g_icmp_ne F (q := 314) (tgt := 318) (dk dL_acts_3 15 rfl) (by decide) rfl (fun c311 => ?_) (fun c311 => absurd c311 (nI_ne2 (show ea < 2 ^ 31 by omega) (show ne < 2 ^ 31 by omega) (by omega)))
            refine g_iload F (q := 320) (dk dL_acts_3 18 rfl) rfl 0 rfl ?_
            refine g_iconst F (q := 321) (v := 1) (dk dL_acts_3 19 rfl) rfl (by decide) ?_
            refine g_icmp_ne F (q := 324) (tgt := 328) (dk dL_acts_3 20 rfl) (by decide) rfl (fun _ => ?_) (fun h => absurd h (by decide))
            refine g_iconst F (q := 329) (v := 0) (dk dL_acts_3 23 rfl) rfl (by decide) ?_
            refine g_iload F (q := 331) (dk dL_acts_3 24 rfl) rfl 2 rfl ?_
            refine g_icmp_ne F (q := 334) (tgt := 339) (dk dL_acts_3 25 rfl) (by decide) rfl (fun _ => ?_) (fun h => absurd h (by decide))
            refine g_iload F (q := 341) (dk dL_acts_3 28 rfl) rfl 2 rfl ?_
            refine g_if_eq F (q := 344) (tgt := 351) (dk dL_acts_3 29 rfl) (by decide) rfl (fun h => absurd h (by decide)) (fun _ => ?_)
            refine g_iload F (q := 346) (dk dL_acts_3 30 rfl) rfl 1 rfl ?_
            refine g_iconst F (q := 347) (v := 1) (dk dL_acts_3 31 rfl) rfl (by decide) ?_
            refine g_iadd F (q := 348) (dk dL_acts_3 32 rfl) rfl ?_
            refine g_goto F (tgt := 355) (dk dL_acts_3 33 rfl) (by decide) ?_
            refine g_icmp_ne F (q := 358) (tgt := 362) (dk dL_acts_3 37 rfl) (by decide) rfl (fun c355 => absurd c355 (fun h => h rfl)) (fun c355 => ?_)
            refine g_iconst F (q := 359) (v := 1) (dk dL_acts_3 38 rfl) rfl (by decide) ?_
            refine g_goto F (tgt := 363) (dk dL_acts_3 39 rfl) (by decide) ?_
            refine hret 1 E304 _ _ (dk dL_acts_4 1 rfl) rfl ?_
            exact ⟨rfl, r2, ne, nt, nk, nup nh, ln, txt, d, ps, hQ304, DD_c (fun j q => hf j (by omega)) hD, PP_c (fun j q => hf j (by omega)) hP, Bey_c (fun j q => hf j (by omega)) hB⟩
          · refine h_VI F (av := [.int (nI ea), .int 1]) (st := []) (q_ear hQ274 ((vE1 hV (show ea < ne by omega)).trans hw)) kv_X6_ear tq_399 hQ274.e0 ⟨rfl, rfl⟩ (by decide) ⟨Nat.le_refl _, Nat.le_refl _⟩ rfl rfl (Nat.le_of_ble_eq_true rfl) (dk dL_acts_3 5 rfl) rfl (fun E290 hQ290 => ?_)
            refine g_goto F (tgt := 297) (dk dL_acts_3 6 rfl) (by decide) ?_
            refine g_istore F (q := 299) (lv' := [(9, .int 1), (8, .int (sumN (fun ee => r (6 + 4 * ee + 1)) ne)), (7, .int 1), (6, .int (nI ea)), (5, .int (nI ne)), (0, .ref (ad 0)), (1, .ref (ad 233)), (2, .ref (ad 234)), (3, .int g), (4, .int h)]) (dk dL_acts_3 8 rfl) rfl (Nat.le_of_ble_eq_true rfl) rfl ?_
            refine g_aload_n F (q := 300) (dk dL_acts_3 9 rfl) rfl rfl 5 rfl ?_
            refine g_iload F (q := 302) (dk dL_acts_3 10 rfl) rfl 3 rfl ?_
            refine g_iload F (q := 304) (dk dL_acts_3 11 rfl) rfl 2 rfl ?_
            refine h_VI F (av := [.int (nI ea), .int 1]) (st := []) (q_mute_n hQ290 (Or.inr rfl) (sM_same h0 (show ea < ne by omega) (Or.inr rfl) hw)) kv_X6_mute tq_519 hQ290.e0 ⟨rfl, rfl⟩ (by decide) ⟨Nat.le_refl _, Nat.le_refl _⟩ rfl rfl (Nat.le_of_ble_eq_true rfl) (dk dL_acts_3 12 rfl) rfl (fun E304 hQ304 => ?_)
            refine g_iload F (q := 309) (dk dL_acts_3 13 rfl) rfl 3 rfl ?_
            refine g_iload F (q := 311) (dk dL_acts_3 14 rfl) rfl 4 rfl ?_
            refine g_icmp_ne F (q := 314) (tgt := 318) (dk dL_acts_3 15 rfl) (by decide) rfl (fun c311 => ?_) (fun c311 => absurd c311 (nI_ne2 (show ea < 2 ^ 31 by omega) (show ne < 2 ^ 31 by omega) (by omega)))
            refine g_iload F (q := 320) (dk dL_acts_3 18 rfl) rfl 0 rfl ?_
            refine g_iconst F (q := 321) (v := 1) (dk dL_acts_3 19 rfl) rfl (by decide) ?_
            refine g_icmp_ne F (q := 324) (tgt := 328) (dk dL_acts_3 20 rfl) (by decide) rfl (fun h => absurd h (by decide)) (fun _ => ?_)
            refine g_iconst F (q := 325) (v := 1) (dk dL_acts_3 21 rfl) rfl (by decide) ?_
            refine g_goto F (tgt := 329) (dk dL_acts_3 22 rfl) (by decide) ?_
            refine g_iload F (q := 331) (dk dL_acts_3 24 rfl) rfl 2 rfl ?_
            refine g_icmp_ne F (q := 334) (tgt := 339) (dk dL_acts_3 25 rfl) (by decide) rfl (fun h => absurd h (by decide)) (fun _ => ?_)
            refine g_bipush F (q := 336) (v := (-5)) (dk dL_acts_3 26 rfl) rfl (by decide) ?_
            refine g_goto F (tgt := 355) (dk dL_acts_3 27 rfl) (by decide) ?_
            refine g_icmp_ne F (q := 358) (tgt := 362) (dk dL_acts_3 37 rfl) (by decide) rfl (fun h => absurd h (by decide)) (fun _ => ?_)
            refine g_iconst F (q := 359) (v := 1) (dk dL_acts_3 38 rfl) rfl (by decide) ?_
            refine g_goto F (tgt := 363) (dk dL_acts_3 39 rfl) (by decide) ?_
            refine hret 1 E304 _ _ (dk dL_acts_4 1 rfl) rfl ?_
            exact ⟨rfl, r, ne, nt, nk, nh, ln, txt, d, ps, hQ304, hD, hP, hB⟩
    · have hx : (nI ((lowN g 9))) = 4 := by rw [hsw]; decide
      refine g_tabIn F (tgt := 364) (off := 340) (dk dL_acts_0 13 rfl) (by rw [hx]; decide) (by rw [hx]; decide) (by rw [hx]; decide) (by decide) ?_
      refine g_iload F (q := 366) (dk dL_acts_4 2 rfl) rfl 6 rfl ?_
      refine g_iconst F (q := 367) (v := 2) (dk dL_acts_4 3 rfl) rfl (by decide) ?_
      refine h_SI F (av := [.int h, .int 2]) (st := []) (q_low (v := h) (N := 2) (by omega) (by omega)) ks_L_low tq_376 ⟨rfl, rfl⟩ (by decide) ⟨Nat.le_refl _, Nat.le_refl _⟩ rfl rfl (Nat.le_of_ble_eq_true rfl) (dk dL_acts_4 4 rfl) rfl (fun E367 hE367 => ?_)
      obtain rfl := hE367
      rcases low2 h with e2 | e2
      · refine g_sti (y := 0) e2 ?_
        refine g_istore F (q := 372) (lv' := [(7, .int 0), (6, .int (nI ea)), (5, .int (nI ne)), (0, .ref (ad 0)), (1, .ref (ad 233)), (2, .ref (ad 234)), (3, .int g), (4, .int h)]) (dk dL_acts_4 5 rfl) rfl (Nat.le_of_ble_eq_true rfl) rfl ?_
        refine g_iload F (q := 374) (dk dL_acts_4 6 rfl) rfl 0 rfl ?_
        refine g_if_ne F (q := 377) (tgt := 391) (dk dL_acts_4 7 rfl) (by decide) rfl (fun h => absurd h (by decide)) (fun _ => ?_)
        refine g_iconst F (q := 378) (v := 1) (dk dL_acts_4 8 rfl) rfl (by decide) ?_
        refine g_iload F (q := 380) (dk dL_acts_4 9 rfl) rfl 7 rfl ?_
        refine g_iconst F (q := 381) (v := 1) (dk dL_acts_4 10 rfl) rfl (by decide) ?_
        refine g_ishr F (q := 382) (dk dL_acts_4 11 rfl) rfl ?_
        refine g_bipush F (q := 384) (v := 20) (dk dL_acts_4 12 rfl) rfl (by decide) ?_
        refine h_SI F (av := [.int (h >>> (1 &&& 31)), .int 20]) (st := [.int 1]) (q_low (v := (h >>> (1 &&& 31))) (N := 20) (by omega) (by omega)) ks_L_low tq_376 ⟨rfl, rfl⟩ (by decide) ⟨Nat.le_refl _, Nat.le_refl _⟩ rfl rfl (Nat.le_of_ble_eq_true rfl) (dk dL_acts_4 13 rfl) rfl (fun E384 hE384 => ?_)
        obtain rfl := hE384
        obtain ⟨j1, hj1, ej1⟩ := low_ex (v := (h >>> (1 &&& 31))) (N := 20) (by omega)
        refine g_sti (y := nI j1) ej1 ?_
        refine g_iadd F (q := 388) (dk dL_acts_4 14 rfl) rfl ?_
        refine g_sti (y := (nI ((1 + j1)))) (nA rfl rfl) ?_
        refine g_goto F (tgt := 401) (dk dL_acts_4 15 rfl) (by decide) ?_
        refine g_istore F (q := 403) (lv' := [(8, .int (nI ((1 + j1)))), (7, .int 0), (6, .int (nI ea)), (5, .int (nI ne)), (0, .ref (ad 0)), (1, .ref (ad 233)), (2, .ref (ad 234)), (3, .int g), (4, .int h)]) (dk dL_acts_4 21 rfl) rfl (Nat.le_of_ble_eq_true rfl) rfl ?_
        refine g_aload_n F (q := 404) (dk dL_acts_4 22 rfl) rfl rfl 4 rfl ?_
        refine g_iconst F (q := 405) (v := 3) (dk dL_acts_4 23 rfl) rfl (by decide) ?_
        refine g_iload F (q := 407) (dk dL_acts_4 24 rfl) rfl 1 rfl ?_
        refine g_iadd F (q := 408) (dk dL_acts_4 25 rfl) rfl ?_
        refine g_sti (y := 3) (by decide) ?_
        refine h_VI F (av := [.int 3]) (st := []) (q_count hQ2 (vC3 hV)) kv_X6_count tq_293 hQ2.e0 ⟨rfl, rfl⟩ (by decide) ⟨Nat.le_refl _, Nat.le_refl _⟩ rfl rfl (Nat.le_of_ble_eq_true rfl) (dk dL_acts_4 26 rfl) rfl (fun E408 hQ408 => ?_)
        refine g_istore F (q := 413) (lv' := [(9, .int (r 3)), (8, .int (nI ((1 + j1)))), (7, .int 0), (6, .int (nI ea)), (5, .int (nI ne)), (0, .ref (ad 0)), (1, .ref (ad 233)), (2, .ref (ad 234)), (3, .int g), (4, .int h)]) (dk dL_acts_4 27 rfl) rfl (Nat.le_of_ble_eq_true rfl) rfl ?_
        refine g_aload_n F (q := 414) (dk dL_acts_4 28 rfl) rfl rfl 5 rfl ?_
        refine g_iload F (q := 416) (dk dL_acts_4 29 rfl) rfl 2 rfl ?_
        refine g_iload F (q := 418) (dk dL_acts_4 30 rfl) rfl 1 rfl ?_
        have hbv : (1 : Int32) ≤ nI (1 + j1) ∧ nI (1 + j1) ≤ 20 := ⟨nI_le (a := 1) (b := (1 + j1)) (by omega) (by omega), nI_le (a := (1 + j1)) (b := 20) (by omega) (by omega)⟩
        by_cases hs : r 3 = nI (1 + j1)
        · refine h_VI F (av := [.int 0, .int (nI ((1 + j1)))]) (st := []) (q_set_n hQ408 (sS0_same hbv hs)) kv_X6_set tq_527 hQ408.e0 ⟨rfl, rfl⟩ (by decide) ⟨Nat.le_refl _, Nat.le_refl _⟩ rfl rfl (Nat.le_of_ble_eq_true rfl) (dk dL_acts_4 31 rfl) rfl (fun E418 hQ418 => ?_)
          refine g_iload F (q := 423) (dk dL_acts_4 32 rfl) rfl 0 rfl ?_
          refine g_iload F (q := 425) (dk dL_acts_4 33 rfl) rfl 1 rfl ?_
          refine g_icmp_ne F (q := 428) (tgt := 433) (dk dL_acts_4 34 rfl) (by decide) rfl (fun c425 => absurd c425 (fun h => h hs)) (fun c425 => ?_)
          refine g_bipush F (q := 430) (v := (-5)) (dk dL_acts_4 35 rfl) rfl (by decide) ?_
          refine g_goto F (tgt := 435) (dk dL_acts_4 36 rfl) (by decide) ?_
          refine g_icmp_ne F (q := 438) (tgt := 442) (dk dL_acts_4 38 rfl) (by decide) rfl (fun h => absurd h (by decide)) (fun _ => ?_)
          refine g_iconst F (q := 439) (v := 1) (dk dL_acts_4 39 rfl) rfl (by decide) ?_
          refine g_goto F (tgt := 443) (dk dL_acts_5 0 rfl) (by decide) ?_
          refine hret 1 E418 _ _ (dk dL_acts_5 2 rfl) rfl ?_
          exact ⟨rfl, r, ne, nt, nk, nh, ln, txt, d, ps, hQ418, hD, hP, hB⟩
        · obtain ⟨r2, hs2, hf⟩ := sS0_ok (r := r) hbv hs
          refine h_VI F (av := [.int 0, .int (nI ((1 + j1)))]) (st := []) (q_set_s hQ408 hs2 ((hf 0 (by omega)).trans hV.h0) h0 ((hf 1 (by omega)).trans hV.h1) h1 ((hf 2 (by omega)).trans hV.h2) h2) kv_X6_set tq_527 hQ408.e0 ⟨rfl, rfl⟩ (by decide) ⟨Nat.le_refl _, Nat.le_refl _⟩ rfl rfl (Nat.le_of_ble_eq_true rfl) (dk dL_acts_4 31 rfl) rfl (fun E418 hQ418 => ?_)
          refine g_iload F (q := 423) (dk dL_acts_4 32 rfl) rfl 0 rfl ?_
          refine g_iload F (q := 425) (dk dL_acts_4 33 rfl) rfl 1 rfl ?_
          refine g_icmp_ne F (q := 428) (tgt := 433) (dk dL_acts_4 34 rfl) (by decide) rfl (fun c425 => ?_) (fun c425 => absurd c425 hs)
          refine g_iload F (q := 435) (dk dL_acts_4 37 rfl) rfl 0 rfl ?_
          refine g_icmp_ne F (q := 438) (tgt := 442) (dk dL_acts_4 38 rfl) (by decide) rfl (fun c435 => absurd c435 (fun h => h rfl)) (fun c435 => ?_)
          refine g_iconst F (q := 439) (v := 1) (dk dL_acts_4 39 rfl) rfl (by decide) ?_
          refine g_goto F (tgt := 443) (dk dL_acts_5 0 rfl) (by decide) ?_
          refine hret 1 E418 _ _ (dk dL_acts_5 2 rfl) rfl ?_
          exact ⟨rfl, r2, ne, nt, nk, nup nh, ln, txt, d, ps, hQ418, DD_c (fun j q => hf j (by omega)) hD, PP_c (fun j q => hf j (by omega)) hP, Bey_c (fun j q => hf j (by omega)) hB⟩
      · refine g_sti (y := 1) e2 ?_
        refine g_istore F (q := 372) (lv' := [(7, .int 1), (6, .int (nI ea)), (5, .int (nI ne)), (0, .ref (ad 0)), (1, .ref (ad 233)), (2, .ref (ad 234)), (3, .int g), (4, .int h)]) (dk dL_acts_4 5 rfl) rfl (Nat.le_of_ble_eq_true rfl) rfl ?_
        refine g_iload F (q := 374) (dk dL_acts_4 6 rfl) rfl 0 rfl ?_
        refine g_if_ne F (q := 377) (tgt := 391) (dk dL_acts_4 7 rfl) (by decide) rfl (fun _ => ?_) (fun h => absurd h (by decide))
        refine g_iload F (q := 393) (dk dL_acts_4 16 rfl) rfl 7 rfl ?_
        refine g_iconst F (q := 394) (v := 1) (dk dL_acts_4 17 rfl) rfl (by decide) ?_
        refine g_ishr F (q := 395) (dk dL_acts_4 18 rfl) rfl ?_
        refine g_sipush F (q := 398) (v := 501) (dk dL_acts_4 19 rfl) rfl (by decide) ?_
        refine h_SI F (av := [.int (h >>> (1 &&& 31)), .int 501]) (st := []) (q_low (v := (h >>> (1 &&& 31))) (N := 501) (by omega) (by omega)) ks_L_low tq_376 ⟨rfl, rfl⟩ (by decide) ⟨Nat.le_refl _, Nat.le_refl _⟩ rfl rfl (Nat.le_of_ble_eq_true rfl) (dk dL_acts_4 20 rfl) rfl (fun E398 hE398 => ?_)
        obtain rfl := hE398
        obtain ⟨j1, hj1, ej1⟩ := low_ex (v := (h >>> (1 &&& 31))) (N := 501) (by omega)
        refine g_sti (y := nI j1) ej1 ?_
        refine g_istore F (q := 403) (lv' := [(8, .int (nI j1)), (7, .int 1), (6, .int (nI ea)), (5, .int (nI ne)), (0, .ref (ad 0)), (1, .ref (ad 233)), (2, .ref (ad 234)), (3, .int g), (4, .int h)]) (dk dL_acts_4 21 rfl) rfl (Nat.le_of_ble_eq_true rfl) rfl ?_
        refine g_aload_n F (q := 404) (dk dL_acts_4 22 rfl) rfl rfl 4 rfl ?_
        refine g_iconst F (q := 405) (v := 3) (dk dL_acts_4 23 rfl) rfl (by decide) ?_
        refine g_iload F (q := 407) (dk dL_acts_4 24 rfl) rfl 1 rfl ?_
        refine g_iadd F (q := 408) (dk dL_acts_4 25 rfl) rfl ?_
        refine g_sti (y := 4) (by decide) ?_
        refine h_VI F (av := [.int 4]) (st := []) (q_count hQ2 (vC4 hV)) kv_X6_count tq_293 hQ2.e0 ⟨rfl, rfl⟩ (by decide) ⟨Nat.le_refl _, Nat.le_refl _⟩ rfl rfl (Nat.le_of_ble_eq_true rfl) (dk dL_acts_4 26 rfl) rfl (fun E408 hQ408 => ?_)
        refine g_istore F (q := 413) (lv' := [(9, .int (r 4)), (8, .int (nI j1)), (7, .int 1), (6, .int (nI ea)), (5, .int (nI ne)), (0, .ref (ad 0)), (1, .ref (ad 233)), (2, .ref (ad 234)), (3, .int g), (4, .int h)]) (dk dL_acts_4 27 rfl) rfl (Nat.le_of_ble_eq_true rfl) rfl ?_
        refine g_aload_n F (q := 414) (dk dL_acts_4 28 rfl) rfl rfl 5 rfl ?_
        refine g_iload F (q := 416) (dk dL_acts_4 29 rfl) rfl 2 rfl ?_
        refine g_iload F (q := 418) (dk dL_acts_4 30 rfl) rfl 1 rfl ?_
        have hbv : (0 : Int32) ≤ nI j1 ∧ nI j1 ≤ 500 := ⟨nI_pos' (by omega), nI_le (a := j1) (b := 500) (by omega) (by omega)⟩
        by_cases hs : r 4 = nI j1
        · refine h_VI F (av := [.int 1, .int (nI j1)]) (st := []) (q_set_n hQ408 (sS1_same hbv hs)) kv_X6_set tq_527 hQ408.e0 ⟨rfl, rfl⟩ (by decide) ⟨Nat.le_refl _, Nat.le_refl _⟩ rfl rfl (Nat.le_of_ble_eq_true rfl) (dk dL_acts_4 31 rfl) rfl (fun E418 hQ418 => ?_)
          refine g_iload F (q := 423) (dk dL_acts_4 32 rfl) rfl 0 rfl ?_
          refine g_iload F (q := 425) (dk dL_acts_4 33 rfl) rfl 1 rfl ?_
          refine g_icmp_ne F (q := 428) (tgt := 433) (dk dL_acts_4 34 rfl) (by decide) rfl (fun c425 => absurd c425 (fun h => h hs)) (fun c425 => ?_)
          refine g_bipush F (q := 430) (v := (-5)) (dk dL_acts_4 35 rfl) rfl (by decide) ?_
          refine g_goto F (tgt := 435) (dk dL_acts_4 36 rfl) (by decide) ?_
          refine g_icmp_ne F (q := 438) (tgt := 442) (dk dL_acts_4 38 rfl) (by decide) rfl (fun h => absurd h (by decide)) (fun _ => ?_)
          refine g_iconst F (q := 439) (v := 1) (dk dL_acts_4 39 rfl) rfl (by decide) ?_
          refine g_goto F (tgt := 443) (dk dL_acts_5 0 rfl) (by decide) ?_
          refine hret 1 E418 _ _ (dk dL_acts_5 2 rfl) rfl ?_
          exact ⟨rfl, r, ne, nt, nk, nh, ln, txt, d, ps, hQ418, hD, hP, hB⟩
        · obtain ⟨r2, hs2, hf⟩ := sS1_ok (r := r) hbv hs
          refine h_VI F (av := [.int 1, .int (nI j1)]) (st := []) (q_set_s hQ408 hs2 ((hf 0 (by omega)).trans hV.h0) h0 ((hf 1 (by omega)).trans hV.h1) h1 ((hf 2 (by omega)).trans hV.h2) h2) kv_X6_set tq_527 hQ408.e0 ⟨rfl, rfl⟩ (by decide) ⟨Nat.le_refl _, Nat.le_refl _⟩ rfl rfl (Nat.le_of_ble_eq_true rfl) (dk dL_acts_4 31 rfl) rfl (fun E418 hQ418 => ?_)
          refine g_iload F (q := 423) (dk dL_acts_4 32 rfl) rfl 0 rfl ?_
          refine g_iload F (q := 425) (dk dL_acts_4 33 rfl) rfl 1 rfl ?_
          refine g_icmp_ne F (q := 428) (tgt := 433) (dk dL_acts_4 34 rfl) (by decide) rfl (fun c425 => ?_) (fun c425 => absurd c425 hs)
          refine g_iload F (q := 435) (dk dL_acts_4 37 rfl) rfl 0 rfl ?_
          refine g_icmp_ne F (q := 438) (tgt := 442) (dk dL_acts_4 38 rfl) (by decide) rfl (fun c435 => absurd c435 (fun h => h rfl)) (fun c435 => ?_)
          refine g_iconst F (q := 439) (v := 1) (dk dL_acts_4 39 rfl) rfl (by decide) ?_
          refine g_goto F (tgt := 443) (dk dL_acts_5 0 rfl) (by decide) ?_
          refine hret 1 E418 _ _ (dk dL_acts_5 2 rfl) rfl ?_
          exact ⟨rfl, r2, ne, nt, nk, nup nh, ln, txt, d, ps, hQ418, DD_c (fun j q => hf j (by omega)) hD, PP_c (fun j q => hf j (by omega)) hP, Bey_c (fun j q => hf j (by omega)) hB⟩
    · have hx : (nI ((lowN g 9))) = 5 := by rw [hsw]; decide
      refine g_tabIn F (tgt := 444) (off := 420) (dk dL_acts_0 13 rfl) (by rw [hx]; decide) (by rw [hx]; decide) (by rw [hx]; decide) (by decide) ?_
      refine g_iload F (q := 446) (dk dL_acts_5 3 rfl) rfl 6 rfl ?_
      refine g_aload_n F (q := 447) (dk dL_acts_5 4 rfl) rfl rfl 2 rfl ?_
      refine g_iconst F (q := 448) (v := 1) (dk dL_acts_5 5 rfl) rfl (by decide) ?_
      refine h_VI F (av := [.int 1]) (st := [.int h]) (q_count hQ2 (vC1 hV)) kv_X6_count tq_293 hQ2.e0 ⟨rfl, rfl⟩ (by decide) ⟨Nat.le_refl _, Nat.le_refl _⟩ rfl rfl (Nat.le_of_ble_eq_true rfl) (dk dL_acts_5 6 rfl) rfl (fun E448 hQ448 => ?_)
      refine g_iconst F (q := 452) (v := 1) (dk dL_acts_5 7 rfl) rfl (by decide) ?_
      refine g_iadd F (q := 453) (dk dL_acts_5 8 rfl) rfl ?_
      refine g_sti (y := (nI ((nt + 1)))) (nI_1 _) ?_
      refine h_SI F (av := [.int h, .int (nI ((nt + 1)))]) (st := []) (q_low (v := h) (N := (nt + 1)) (by omega) (by omega)) ks_L_low tq_376 ⟨rfl, rfl⟩ (by decide) ⟨Nat.le_refl _, Nat.le_refl _⟩ rfl rfl (Nat.le_of_ble_eq_true rfl) (dk dL_acts_5 9 rfl) rfl (fun E453 hE453 => ?_)
      obtain rfl := hE453
      obtain ⟨th, hth, eth⟩ := low_ex (v := h) (N := nt + 1) (by omega)
      refine g_sti (y := nI th) eth ?_
      refine g_istore F (q := 458) (lv' := [(7, .int (nI th)), (6, .int (nI ea)), (5, .int (nI ne)), (0, .ref (ad 0)), (1, .ref (ad 233)), (2, .ref (ad 234)), (3, .int g), (4, .int h)]) (dk dL_acts_5 10 rfl) rfl (Nat.le_of_ble_eq_true rfl) rfl ?_
      refine g_iload F (q := 460) (dk dL_acts_5 11 rfl) rfl 7 rfl ?_
      refine g_iconst F (q := 461) (v := 4) (dk dL_acts_5 12 rfl) rfl (by decide) ?_
      refine g_ishr F (q := 462) (dk dL_acts_5 13 rfl) rfl ?_
      refine g_iconst F (q := 463) (v := 2) (dk dL_acts_5 14 rfl) rfl (by decide) ?_
      refine h_SI F (av := [.int (h >>> (4 &&& 31)), .int 2]) (st := []) (q_low (v := (h >>> (4 &&& 31))) (N := 2) (by omega) (by omega)) ks_L_low tq_376 ⟨rfl, rfl⟩ (by decide) ⟨Nat.le_refl _, Nat.le_refl _⟩ rfl rfl (Nat.le_of_ble_eq_true rfl) (dk dL_acts_5 15 rfl) rfl (fun E463 hE463 => ?_)
      obtain rfl := hE463
      refine g_if_ne F (q := 469) (tgt := 473) (dk dL_acts_5 16 rfl) (by decide) rfl (fun c466 => ?_) (fun c466 => ?_)
      · refine g_iconst F (q := 474) (v := 0) (dk dL_acts_5 19 rfl) rfl (by decide) ?_
        refine g_istore F (q := 476) (lv' := [(8, .int 0), (7, .int (nI th)), (6, .int (nI ea)), (5, .int (nI ne)), (0, .ref (ad 0)), (1, .ref (ad 233)), (2, .ref (ad 234)), (3, .int g), (4, .int h)]) (dk dL_acts_5 20 rfl) rfl (Nat.le_of_ble_eq_true rfl) rfl ?_
        refine g_aload_n F (q := 477) (dk dL_acts_5 21 rfl) rfl rfl 4 rfl ?_
        refine g_bipush F (q := 479) (v := 7) (dk dL_acts_5 22 rfl) rfl (by decide) ?_
        refine h_VI F (av := [.int 7]) (st := []) (q_count hQ448 (vC7 hV)) kv_X6_count tq_293 hQ448.e0 ⟨rfl, rfl⟩ (by decide) ⟨Nat.le_refl _, Nat.le_refl _⟩ rfl rfl (Nat.le_of_ble_eq_true rfl) (dk dL_acts_5 23 rfl) rfl (fun E479 hQ479 => ?_)
        refine g_istore F (q := 484) (lv' := [(9, .int (sumN (fun ee => r (46 + 5 * ee + 4)) nt)), (8, .int 0), (7, .int (nI th)), (6, .int (nI ea)), (5, .int (nI ne)), (0, .ref (ad 0)), (1, .ref (ad 233)), (2, .ref (ad 234)), (3, .int g), (4, .int h)]) (dk dL_acts_5 24 rfl) rfl (Nat.le_of_ble_eq_true rfl) rfl ?_
        refine g_aload_n F (q := 485) (dk dL_acts_5 25 rfl) rfl rfl 5 rfl ?_
        refine g_iload F (q := 487) (dk dL_acts_5 26 rfl) rfl 2 rfl ?_
        refine g_iload F (q := 489) (dk dL_acts_5 27 rfl) rfl 1 rfl ?_
        by_cases hlt : th < nt
        · rcases hV.lo hlt with hw | hw
          · refine h_VI F (av := [.int (nI th), .int 0]) (st := []) (q_leaveOut_n hQ479 (Or.inl rfl) (sL_same h1 hlt (Or.inl rfl) hw)) kv_X6_leaveOut tq_539 hQ479.e0 ⟨rfl, rfl⟩ (by decide) ⟨Nat.le_refl _, Nat.le_refl _⟩ rfl rfl (Nat.le_of_ble_eq_true rfl) (dk dL_acts_5 28 rfl) rfl (fun E489 hQ489 => ?_)
            refine g_istore F (q := 494) (lv' := [(10, .int (-5)), (9, .int (sumN (fun ee => r (46 + 5 * ee + 4)) nt)), (8, .int 0), (7, .int (nI th)), (6, .int (nI ea)), (5, .int (nI ne)), (0, .ref (ad 0)), (1, .ref (ad 233)), (2, .ref (ad 234)), (3, .int g), (4, .int h)]) (dk dL_acts_5 29 rfl) rfl (Nat.le_of_ble_eq_true rfl) rfl ?_
            refine g_iload F (q := 496) (dk dL_acts_5 30 rfl) rfl 3 rfl ?_
            refine g_aload_n F (q := 497) (dk dL_acts_5 31 rfl) rfl rfl 6 rfl ?_
            refine g_iconst F (q := 498) (v := 1) (dk dL_acts_5 32 rfl) rfl (by decide) ?_
            refine h_VI F (av := [.int 1]) (st := [.int (nI th)]) (q_count hQ489 (vC1 hV)) kv_X6_count tq_293 hQ489.e0 ⟨rfl, rfl⟩ (by decide) ⟨Nat.le_refl _, Nat.le_refl _⟩ rfl rfl (Nat.le_of_ble_eq_true rfl) (dk dL_acts_5 33 rfl) rfl (fun E498 hQ498 => ?_)
            refine g_icmp_ne F (q := 504) (tgt := 516) (dk dL_acts_5 34 rfl) (by decide) rfl (fun c501 => ?_) (fun c501 => absurd c501 (nI_ne2 (show th < 2 ^ 31 by omega) (show nt < 2 ^ 31 by omega) (by omega)))
            refine g_aload_n F (q := 517) (dk dL_acts_6 2 rfl) rfl rfl 7 rfl ?_
            refine g_iconst F (q := 518) (v := 4) (dk dL_acts_6 3 rfl) rfl (by decide) ?_
            refine g_iload F (q := 520) (dk dL_acts_6 4 rfl) rfl 3 rfl ?_
            refine g_imul F (q := 521) (dk dL_acts_6 5 rfl) rfl ?_
            refine g_iconst F (q := 522) (v := 3) (dk dL_acts_6 6 rfl) rfl (by decide) ?_
            refine g_iadd F (q := 523) (dk dL_acts_6 7 rfl) rfl ?_
            have hc1 : E498 233 = .inl (cA 0, 40, .inl d) := hQ498.dd
            refine g_iald F (q := 524) (((4 * th) + 3)) hc1 (by omega) (nA (nM rfl rfl) rfl) (by omega) (by decide) (dk dL_acts_6 8 rfl) rfl ?_
            refine g_sti (y := 0) ((hD th hlt).2.2.2.trans hw) ?_
            refine g_iconst F (q := 525) (v := 1) (dk dL_acts_6 9 rfl) rfl (by decide) ?_
            refine g_icmp_ne F (q := 528) (tgt := 532) (dk dL_acts_6 10 rfl) (by decide) rfl (fun _ => ?_) (fun h => absurd h (by decide))
            refine g_iconst F (q := 533) (v := 0) (dk dL_acts_6 13 rfl) rfl (by decide) ?_
            refine g_iload F (q := 535) (dk dL_acts_6 14 rfl) rfl 2 rfl ?_
            refine g_icmp_ne F (q := 538) (tgt := 542) (dk dL_acts_6 15 rfl) (by decide) rfl (fun h => absurd h (by decide)) (fun _ => ?_)
            refine g_iconst F (q := 539) (v := 1) (dk dL_acts_6 16 rfl) rfl (by decide) ?_
            refine g_goto F (tgt := 543) (dk dL_acts_6 17 rfl) (by decide) ?_
            refine g_istore F (q := 545) (lv' := [(11, .int 1), (10, .int (-5)), (9, .int (sumN (fun ee => r (46 + 5 * ee + 4)) nt)), (8, .int 0), (7, .int (nI th)), (6, .int (nI ea)), (5, .int (nI ne)), (0, .ref (ad 0)), (1, .ref (ad 233)), (2, .ref (ad 234)), (3, .int g), (4, .int h)]) (dk dL_acts_6 19 rfl) rfl (Nat.le_of_ble_eq_true rfl) rfl ?_
            refine g_aload_n F (q := 546) (dk dL_acts_6 20 rfl) rfl rfl 8 rfl ?_
            refine g_iconst F (q := 547) (v := 4) (dk dL_acts_6 21 rfl) rfl (by decide) ?_
            refine g_iload F (q := 549) (dk dL_acts_6 22 rfl) rfl 4 rfl ?_
            refine g_imul F (q := 550) (dk dL_acts_6 23 rfl) rfl ?_
            refine g_iconst F (q := 551) (v := 3) (dk dL_acts_6 24 rfl) rfl (by decide) ?_
            refine g_iadd F (q := 552) (dk dL_acts_6 25 rfl) rfl ?_
            refine g_iload F (q := 554) (dk dL_acts_6 26 rfl) rfl 3 rfl ?_
            refine g_if_eq F (q := 557) (tgt := 561) (dk dL_acts_6 27 rfl) (by decide) rfl (fun _ => ?_) (fun h => absurd h (by decide))
            refine g_iconst F (q := 562) (v := 0) (dk dL_acts_6 30 rfl) rfl (by decide) ?_
            refine g_iast F (q := 563) (((4 * th) + 3)) hc1 (by omega) (nA (nM rfl rfl) rfl) (by omega) (by decide) (dk dL_acts_6 31 rfl) rfl (fun E562 hE562 hO562 => ?_)
            have hQs563 : LQ cA ad E562 r ne nt nk nh ln txt (upd d (((4 * th) + 3)) 0) ps := hQ498.putd hE562 hO562
            refine g_iload F (q := 565) (dk dL_acts_6 32 rfl) rfl 1 rfl ?_
            refine g_iload F (q := 567) (dk dL_acts_6 33 rfl) rfl 0 rfl ?_
            refine g_if_eq F (q := 570) (tgt := 575) (dk dL_acts_6 34 rfl) (by decide) rfl (fun h => absurd h (by decide)) (fun _ => ?_)
            refine g_bipush F (q := 572) (v := (-5)) (dk dL_acts_6 35 rfl) rfl (by decide) ?_
            refine g_goto F (tgt := 591) (dk dL_acts_6 36 rfl) (by decide) ?_
            refine g_icmp_ne F (q := 594) (tgt := 598) (dk dL_acts_7 6 rfl) (by decide) rfl (fun h => absurd h (by decide)) (fun _ => ?_)
            refine g_iconst F (q := 595) (v := 1) (dk dL_acts_7 7 rfl) rfl (by decide) ?_
            refine g_goto F (tgt := 599) (dk dL_acts_7 8 rfl) (by decide) ?_
            refine hret 1 E562 _ _ (dk dL_acts_7 10 rfl) rfl ?_
            exact ⟨rfl, r, ne, nt, nk, nh, ln, txt, _, ps, hQs563, DD_ls hD hw, hP, hB⟩
          · have hf := (upd_f (r := r) (b := 0) (i := 46 + 5 * th + 4) (by omega)).1
            refine h_VI F (av := [.int (nI th), .int 0]) (st := []) (q_leaveOut_s hQ479 (Or.inl rfl) (sL_off h1 hlt hw) ((hf 0 (by omega)).trans hV.h0) h0 ((hf 1 (by omega)).trans hV.h1) h1 ((hf 2 (by omega)).trans hV.h2) h2) kv_X6_leaveOut tq_539 hQ479.e0 ⟨rfl, rfl⟩ (by decide) ⟨Nat.le_refl _, Nat.le_refl _⟩ rfl rfl (Nat.le_of_ble_eq_true rfl) (dk dL_acts_5 28 rfl) rfl (fun E489 hQ489 => ?_)
            have hVo := hV
            have hV := hQ489.i
            refine g_istore F (q := 494) (lv' := [(10, .int ((sumN (fun ee => r (46 + 5 * ee + 4)) nt) - 1)), (9, .int (sumN (fun ee => r (46 + 5 * ee + 4)) nt)), (8, .int 0), (7, .int (nI th)), (6, .int (nI ea)), (5, .int (nI ne)), (0, .ref (ad 0)), (1, .ref (ad 233)), (2, .ref (ad 234)), (3, .int g), (4, .int h)]) (dk dL_acts_5 29 rfl) rfl (Nat.le_of_ble_eq_true rfl) rfl ?_
            refine g_iload F (q := 496) (dk dL_acts_5 30 rfl) rfl 3 rfl ?_
            refine g_aload_n F (q := 497) (dk dL_acts_5 31 rfl) rfl rfl 6 rfl ?_
            refine g_iconst F (q := 498) (v := 1) (dk dL_acts_5 32 rfl) rfl (by decide) ?_
            refine h_VI F (av := [.int 1]) (st := [.int (nI th)]) (q_count hQ489 (vC1 hV)) kv_X6_count tq_293 hQ489.e0 ⟨rfl, rfl⟩ (by decide) ⟨Nat.le_refl _, Nat.le_refl _⟩ rfl rfl (Nat.le_of_ble_eq_true rfl) (dk dL_acts_5 33 rfl) rfl (fun E498 hQ498 => ?_)
            refine g_icmp_ne F (q := 504) (tgt := 516) (dk dL_acts_5 34 rfl) (by decide) rfl (fun c501 => ?_) (fun c501 => absurd c501 (nI_ne2 (show th < 2 ^ 31 by omega) (show nt < 2 ^ 31 by omega) (by omega)))
            refine g_aload_n F (q := 517) (dk dL_acts_6 2 rfl) rfl rfl 7 rfl ?_
            refine g_iconst F (q := 518) (v := 4) (dk dL_acts_6 3 rfl) rfl (by decide) ?_
            refine g_iload F (q := 520) (dk dL_acts_6 4 rfl) rfl 3 rfl ?_
            refine g_imul F (q := 521) (dk dL_acts_6 5 rfl) rfl ?_
            refine g_iconst F (q := 522) (v := 3) (dk dL_acts_6 6 rfl) rfl (by decide) ?_
            refine g_iadd F (q := 523) (dk dL_acts_6 7 rfl) rfl ?_
            have hc2 : E498 233 = .inl (cA 0, 40, .inl d) := hQ498.dd
            refine g_iald F (q := 524) (((4 * th) + 3)) hc2 (by omega) (nA (nM rfl rfl) rfl) (by omega) (by decide) (dk dL_acts_6 8 rfl) rfl ?_
            refine g_sti (y := 1) ((hD th hlt).2.2.2.trans hw) ?_
            refine g_iconst F (q := 525) (v := 1) (dk dL_acts_6 9 rfl) rfl (by decide) ?_
            refine g_icmp_ne F (q := 528) (tgt := 532) (dk dL_acts_6 10 rfl) (by decide) rfl (fun h => absurd h (by decide)) (fun _ => ?_)
            refine g_iconst F (q := 529) (v := 1) (dk dL_acts_6 11 rfl) rfl (by decide) ?_
            refine g_goto F (tgt := 533) (dk dL_acts_6 12 rfl) (by decide) ?_
            refine g_iload F (q := 535) (dk dL_acts_6 14 rfl) rfl 2 rfl ?_
            refine g_icmp_ne F (q := 538) (tgt := 542) (dk dL_acts_6 15 rfl) (by decide) rfl (fun _ => ?_) (fun h => absurd h (by decide))
            refine g_iconst F (q := 543) (v := 0) (dk dL_acts_6 18 rfl) rfl (by decide) ?_
            refine g_istore F (q := 545) (lv' := [(11, .int 0), (10, .int ((sumN (fun ee => r (46 + 5 * ee + 4)) nt) - 1)), (9, .int (sumN (fun ee => r (46 + 5 * ee + 4)) nt)), (8, .int 0), (7, .int (nI th)), (6, .int (nI ea)), (5, .int (nI ne)), (0, .ref (ad 0)), (1, .ref (ad 233)), (2, .ref (ad 234)), (3, .int g), (4, .int h)]) (dk dL_acts_6 19 rfl) rfl (Nat.le_of_ble_eq_true rfl) rfl ?_
            refine g_aload_n F (q := 546) (dk dL_acts_6 20 rfl) rfl rfl 8 rfl ?_
            refine g_iconst F (q := 547) (v := 4) (dk dL_acts_6 21 rfl) rfl (by decide) ?_
            refine g_iload F (q := 549) (dk dL_acts_6 22 rfl) rfl 4 rfl ?_
            refine g_imul F (q := 550) (dk dL_acts_6 23 rfl) rfl ?_
            refine g_iconst F (q := 551) (v := 3) (dk dL_acts_6 24 rfl) rfl (by decide) ?_
            refine g_iadd F (q := 552) (dk dL_acts_6 25 rfl) rfl ?_
            refine g_iload F (q := 554) (dk dL_acts_6 26 rfl) rfl 3 rfl ?_
            refine g_if_eq F (q := 557) (tgt := 561) (dk dL_acts_6 27 rfl) (by decide) rfl (fun _ => ?_) (fun h => absurd h (by decide))
            refine g_iconst F (q := 562) (v := 0) (dk dL_acts_6 30 rfl) rfl (by decide) ?_
            refine g_iast F (q := 563) (((4 * th) + 3)) hc2 (by omega) (nA (nM rfl rfl) rfl) (by omega) (by decide) (dk dL_acts_6 31 rfl) rfl (fun E562 hE562 hO562 => ?_)
            have hQs563 : LQ cA ad E562 (upd r (46 + 5 * th + 4) 0) ne nt nk (nup nh) ln txt (upd d (((4 * th) + 3)) 0) ps := hQ498.putd hE562 hO562
            refine g_iload F (q := 565) (dk dL_acts_6 32 rfl) rfl 1 rfl ?_
            refine g_iload F (q := 567) (dk dL_acts_6 33 rfl) rfl 0 rfl ?_
            refine g_if_eq F (q := 570) (tgt := 575) (dk dL_acts_6 34 rfl) (by decide) rfl (fun _ => ?_) (fun h => absurd h (by decide))
            refine g_iload F (q := 577) (dk dL_acts_6 37 rfl) rfl 3 rfl ?_
            refine g_if_eq F (q := 580) (tgt := 587) (dk dL_acts_6 38 rfl) (by decide) rfl (fun _ => ?_) (fun h => absurd h (by decide))
            refine g_iload F (q := 589) (dk dL_acts_7 3 rfl) rfl 2 rfl ?_
            refine g_iconst F (q := 590) (v := 1) (dk dL_acts_7 4 rfl) rfl (by decide) ?_
            refine g_isub F (q := 591) (dk dL_acts_7 5 rfl) rfl ?_
            refine g_icmp_ne F (q := 594) (tgt := 598) (dk dL_acts_7 6 rfl) (by decide) rfl (fun c591 => absurd c591 (fun h => h rfl)) (fun c591 => ?_)
            refine g_iconst F (q := 595) (v := 1) (dk dL_acts_7 7 rfl) rfl (by decide) ?_
            refine g_goto F (tgt := 599) (dk dL_acts_7 8 rfl) (by decide) ?_
            refine hret 1 E562 _ _ (dk dL_acts_7 10 rfl) rfl ?_
            exact ⟨rfl, _, ne, nt, nk, nup nh, ln, txt, _, ps, hQs563, DD_l hD h1 hlt, PP_c ((upd_f (by omega)).2 (by omega)) hP, Bey_c ((upd_f (by omega)).2 (by omega)) hB⟩
        · refine h_VI F (av := [.int (nI th), .int 0]) (st := []) (q_leaveOut_n hQ479 (Or.inl rfl) (sL_un (show nt ≤ th by omega) (by omega))) kv_X6_leaveOut tq_539 hQ479.e0 ⟨rfl, rfl⟩ (by decide) ⟨Nat.le_refl _, Nat.le_refl _⟩ rfl rfl (Nat.le_of_ble_eq_true rfl) (dk dL_acts_5 28 rfl) rfl (fun E489 hQ489 => ?_)
          refine g_istore F (q := 494) (lv' := [(10, .int (-1)), (9, .int (sumN (fun ee => r (46 + 5 * ee + 4)) nt)), (8, .int 0), (7, .int (nI th)), (6, .int (nI ea)), (5, .int (nI ne)), (0, .ref (ad 0)), (1, .ref (ad 233)), (2, .ref (ad 234)), (3, .int g), (4, .int h)]) (dk dL_acts_5 29 rfl) rfl (Nat.le_of_ble_eq_true rfl) rfl ?_
          refine g_iload F (q := 496) (dk dL_acts_5 30 rfl) rfl 3 rfl ?_
          refine g_aload_n F (q := 497) (dk dL_acts_5 31 rfl) rfl rfl 6 rfl ?_
          refine g_iconst F (q := 498) (v := 1) (dk dL_acts_5 32 rfl) rfl (by decide) ?_
          refine h_VI F (av := [.int 1]) (st := [.int (nI th)]) (q_count hQ489 (vC1 hV)) kv_X6_count tq_293 hQ489.e0 ⟨rfl, rfl⟩ (by decide) ⟨Nat.le_refl _, Nat.le_refl _⟩ rfl rfl (Nat.le_of_ble_eq_true rfl) (dk dL_acts_5 33 rfl) rfl (fun E498 hQ498 => ?_)
          refine g_icmp_ne F (q := 504) (tgt := 516) (dk dL_acts_5 34 rfl) (by decide) rfl (fun c501 => absurd c501 (fun h => h (by rw [show th = nt by omega]))) (fun c501 => ?_)
          refine g_iload F (q := 506) (dk dL_acts_5 35 rfl) rfl 0 rfl ?_
          refine g_iconst F (q := 507) (v := (-1)) (dk dL_acts_5 36 rfl) rfl (by decide) ?_
          refine g_icmp_ne F (q := 510) (tgt := 514) (dk dL_acts_5 37 rfl) (by decide) rfl (fun h => absurd h (by decide)) (fun _ => ?_)
          refine g_iconst F (q := 511) (v := 1) (dk dL_acts_5 38 rfl) rfl (by decide) ?_
          refine g_goto F (tgt := 515) (dk dL_acts_5 39 rfl) (by decide) ?_
          refine hret 1 E498 _ _ (dk dL_acts_6 1 rfl) rfl ?_
          exact ⟨rfl, r, ne, nt, nk, nh, ln, txt, d, ps, hQ498, hD, hP, hB⟩
      · refine g_iconst F (q := 470) (v := 1) (dk dL_acts_5 17 rfl) rfl (by decide) ?_
        refine g_goto F (tgt := 474) (dk dL_acts_5 18 rfl) (by decide) ?_
        refine g_istore F (q := 476) (lv' := [(8, .int 1), (7, .int (nI th)), (6, .int (nI ea)), (5, .int (nI ne)), (0, .ref (ad 0)), (1, .ref (ad 233)), (2, .ref (ad 234)), (3, .int g), (4, .int h)]) (dk dL_acts_5 20 rfl) rfl (Nat.le_of_ble_eq_true rfl) rfl ?_
        refine g_aload_n F (q := 477) (dk dL_acts_5 21 rfl) rfl rfl 4 rfl ?_
        refine g_bipush F (q := 479) (v := 7) (dk dL_acts_5 22 rfl) rfl (by decide) ?_
        refine h_VI F (av := [.int 7]) (st := []) (q_count hQ448 (vC7 hV)) kv_X6_count tq_293 hQ448.e0 ⟨rfl, rfl⟩ (by decide) ⟨Nat.le_refl _, Nat.le_refl _⟩ rfl rfl (Nat.le_of_ble_eq_true rfl) (dk dL_acts_5 23 rfl) rfl (fun E479 hQ479 => ?_)
        refine g_istore F (q := 484) (lv' := [(9, .int (sumN (fun ee => r (46 + 5 * ee + 4)) nt)), (8, .int 1), (7, .int (nI th)), (6, .int (nI ea)), (5, .int (nI ne)), (0, .ref (ad 0)), (1, .ref (ad 233)), (2, .ref (ad 234)), (3, .int g), (4, .int h)]) (dk dL_acts_5 24 rfl) rfl (Nat.le_of_ble_eq_true rfl) rfl ?_
        refine g_aload_n F (q := 485) (dk dL_acts_5 25 rfl) rfl rfl 5 rfl ?_
        refine g_iload F (q := 487) (dk dL_acts_5 26 rfl) rfl 2 rfl ?_
        refine g_iload F (q := 489) (dk dL_acts_5 27 rfl) rfl 1 rfl ?_
        by_cases hlt : th < nt
        · rcases hV.lo hlt with hw | hw
          · have hf := (upd_f (r := r) (b := 1) (i := 46 + 5 * th + 4) (by omega)).1
            refine h_VI F (av := [.int (nI th), .int 1]) (st := []) (q_leaveOut_s hQ479 (Or.inr rfl) (sL_on h1 hlt hw) ((hf 0 (by omega)).trans hV.h0) h0 ((hf 1 (by omega)).trans hV.h1) h1 ((hf 2 (by omega)).trans hV.h2) h2) kv_X6_leaveOut tq_539 hQ479.e0 ⟨rfl, rfl⟩ (by decide) ⟨Nat.le_refl _, Nat.le_refl _⟩ rfl rfl (Nat.le_of_ble_eq_true rfl) (dk dL_acts_5 28 rfl) rfl (fun E489 hQ489 => ?_)
            have hVo := hV
            have hV := hQ489.i
            refine g_istore F (q := 494) (lv' := [(10, .int ((sumN (fun ee => r (46 + 5 * ee + 4)) nt) + 1)), (9, .int (sumN (fun ee => r (46 + 5 * ee + 4)) nt)), (8, .int 1), (7, .int (nI th)), (6, .int (nI ea)), (5, .int (nI ne)), (0, .ref (ad 0)), (1, .ref (ad 233)), (2, .ref (ad 234)), (3, .int g), (4, .int h)]) (dk dL_acts_5 29 rfl) rfl (Nat.le_of_ble_eq_true rfl) rfl ?_
            refine g_iload F (q := 496) (dk dL_acts_5 30 rfl) rfl 3 rfl ?_
            refine g_aload_n F (q := 497) (dk dL_acts_5 31 rfl) rfl rfl 6 rfl ?_
            refine g_iconst F (q := 498) (v := 1) (dk dL_acts_5 32 rfl) rfl (by decide) ?_
            refine h_VI F (av := [.int 1]) (st := [.int (nI th)]) (q_count hQ489 (vC1 hV)) kv_X6_count tq_293 hQ489.e0 ⟨rfl, rfl⟩ (by decide) ⟨Nat.le_refl _, Nat.le_refl _⟩ rfl rfl (Nat.le_of_ble_eq_true rfl) (dk dL_acts_5 33 rfl) rfl (fun E498 hQ498 => ?_)
            refine g_icmp_ne F (q := 504) (tgt := 516) (dk dL_acts_5 34 rfl) (by decide) rfl (fun c501 => ?_) (fun c501 => absurd c501 (nI_ne2 (show th < 2 ^ 31 by omega) (show nt < 2 ^ 31 by omega) (by omega)))
            refine g_aload_n F (q := 517) (dk dL_acts_6 2 rfl) rfl rfl 7 rfl ?_
            refine g_iconst F (q := 518) (v := 4) (dk dL_acts_6 3 rfl) rfl (by decide) ?_
            refine g_iload F (q := 520) (dk dL_acts_6 4 rfl) rfl 3 rfl ?_
            refine g_imul F (q := 521) (dk dL_acts_6 5 rfl) rfl ?_
            refine g_iconst F (q := 522) (v := 3) (dk dL_acts_6 6 rfl) rfl (by decide) ?_
            refine g_iadd F (q := 523) (dk dL_acts_6 7 rfl) rfl ?_
            have hc3 : E498 233 = .inl (cA 0, 40, .inl d) := hQ498.dd
            refine g_iald F (q := 524) (((4 * th) + 3)) hc3 (by omega) (nA (nM rfl rfl) rfl) (by omega) (by decide) (dk dL_acts_6 8 rfl) rfl ?_
            refine g_sti (y := 0) ((hD th hlt).2.2.2.trans hw) ?_
            refine g_iconst F (q := 525) (v := 1) (dk dL_acts_6 9 rfl) rfl (by decide) ?_
            refine g_icmp_ne F (q := 528) (tgt := 532) (dk dL_acts_6 10 rfl) (by decide) rfl (fun _ => ?_) (fun h => absurd h (by decide))
            refine g_iconst F (q := 533) (v := 0) (dk dL_acts_6 13 rfl) rfl (by decide) ?_
            refine g_iload F (q := 535) (dk dL_acts_6 14 rfl) rfl 2 rfl ?_
            refine g_icmp_ne F (q := 538) (tgt := 542) (dk dL_acts_6 15 rfl) (by decide) rfl (fun _ => ?_) (fun h => absurd h (by decide))
            refine g_iconst F (q := 543) (v := 0) (dk dL_acts_6 18 rfl) rfl (by decide) ?_
            refine g_istore F (q := 545) (lv' := [(11, .int 0), (10, .int ((sumN (fun ee => r (46 + 5 * ee + 4)) nt) + 1)), (9, .int (sumN (fun ee => r (46 + 5 * ee + 4)) nt)), (8, .int 1), (7, .int (nI th)), (6, .int (nI ea)), (5, .int (nI ne)), (0, .ref (ad 0)), (1, .ref (ad 233)), (2, .ref (ad 234)), (3, .int g), (4, .int h)]) (dk dL_acts_6 19 rfl) rfl (Nat.le_of_ble_eq_true rfl) rfl ?_
            refine g_aload_n F (q := 546) (dk dL_acts_6 20 rfl) rfl rfl 8 rfl ?_
            refine g_iconst F (q := 547) (v := 4) (dk dL_acts_6 21 rfl) rfl (by decide) ?_
            refine g_iload F (q := 549) (dk dL_acts_6 22 rfl) rfl 4 rfl ?_
            refine g_imul F (q := 550) (dk dL_acts_6 23 rfl) rfl ?_
            refine g_iconst F (q := 551) (v := 3) (dk dL_acts_6 24 rfl) rfl (by decide) ?_
            refine g_iadd F (q := 552) (dk dL_acts_6 25 rfl) rfl ?_
            refine g_iload F (q := 554) (dk dL_acts_6 26 rfl) rfl 3 rfl ?_
            refine g_if_eq F (q := 557) (tgt := 561) (dk dL_acts_6 27 rfl) (by decide) rfl (fun h => absurd h (by decide)) (fun _ => ?_)
            refine g_iconst F (q := 558) (v := 1) (dk dL_acts_6 28 rfl) rfl (by decide) ?_
            refine g_goto F (tgt := 562) (dk dL_acts_6 29 rfl) (by decide) ?_
            refine g_iast F (q := 563) (((4 * th) + 3)) hc3 (by omega) (nA (nM rfl rfl) rfl) (by omega) (by decide) (dk dL_acts_6 31 rfl) rfl (fun E562 hE562 hO562 => ?_)
            have hQs563 : LQ cA ad E562 (upd r (46 + 5 * th + 4) 1) ne nt nk (nup nh) ln txt (upd d (((4 * th) + 3)) 1) ps := hQ498.putd hE562 hO562
            refine g_iload F (q := 565) (dk dL_acts_6 32 rfl) rfl 1 rfl ?_
            refine g_iload F (q := 567) (dk dL_acts_6 33 rfl) rfl 0 rfl ?_
            refine g_if_eq F (q := 570) (tgt := 575) (dk dL_acts_6 34 rfl) (by decide) rfl (fun _ => ?_) (fun h => absurd h (by decide))
            refine g_iload F (q := 577) (dk dL_acts_6 37 rfl) rfl 3 rfl ?_
            refine g_if_eq F (q := 580) (tgt := 587) (dk dL_acts_6 38 rfl) (by decide) rfl (fun h => absurd h (by decide)) (fun _ => ?_)
            refine g_iload F (q := 582) (dk dL_acts_6 39 rfl) rfl 2 rfl ?_
            refine g_iconst F (q := 583) (v := 1) (dk dL_acts_7 0 rfl) rfl (by decide) ?_
            refine g_iadd F (q := 584) (dk dL_acts_7 1 rfl) rfl ?_
            refine g_goto F (tgt := 591) (dk dL_acts_7 2 rfl) (by decide) ?_
            refine g_icmp_ne F (q := 594) (tgt := 598) (dk dL_acts_7 6 rfl) (by decide) rfl (fun c591 => absurd c591 (fun h => h rfl)) (fun c591 => ?_)
            refine g_iconst F (q := 595) (v := 1) (dk dL_acts_7 7 rfl) rfl (by decide) ?_
            refine g_goto F (tgt := 599) (dk dL_acts_7 8 rfl) (by decide) ?_
            refine hret 1 E562 _ _ (dk dL_acts_7 10 rfl) rfl ?_
            exact ⟨rfl, _, ne, nt, nk, nup nh, ln, txt, _, ps, hQs563, DD_l hD h1 hlt, PP_c ((upd_f (by omega)).2 (by omega)) hP, Bey_c ((upd_f (by omega)).2 (by omega)) hB⟩
          · refine h_VI F (av := [.int (nI th), .int 1]) (st := []) (q_leaveOut_n hQ479 (Or.inr rfl) (sL_same h1 hlt (Or.inr rfl) hw)) kv_X6_leaveOut tq_539 hQ479.e0 ⟨rfl, rfl⟩ (by decide) ⟨Nat.le_refl _, Nat.le_refl _⟩ rfl rfl (Nat.le_of_ble_eq_true rfl) (dk dL_acts_5 28 rfl) rfl (fun E489 hQ489 => ?_)
            refine g_istore F (q := 494) (lv' := [(10, .int (-5)), (9, .int (sumN (fun ee => r (46 + 5 * ee + 4)) nt)), (8, .int 1), (7, .int (nI th)), (6, .int (nI ea)), (5, .int (nI ne)), (0, .ref (ad 0)), (1, .ref (ad 233)), (2, .ref (ad 234)), (3, .int g), (4, .int h)]) (dk dL_acts_5 29 rfl) rfl (Nat.le_of_ble_eq_true rfl) rfl ?_
            refine g_iload F (q := 496) (dk dL_acts_5 30 rfl) rfl 3 rfl ?_
            refine g_aload_n F (q := 497) (dk dL_acts_5 31 rfl) rfl rfl 6 rfl ?_
            refine g_iconst F (q := 498) (v := 1) (dk dL_acts_5 32 rfl) rfl (by decide) ?_
            refine h_VI F (av := [.int 1]) (st := [.int (nI th)]) (q_count hQ489 (vC1 hV)) kv_X6_count tq_293 hQ489.e0 ⟨rfl, rfl⟩ (by decide) ⟨Nat.le_refl _, Nat.le_refl _⟩ rfl rfl (Nat.le_of_ble_eq_true rfl) (dk dL_acts_5 33 rfl) rfl (fun E498 hQ498 => ?_)
            refine g_icmp_ne F (q := 504) (tgt := 516) (dk dL_acts_5 34 rfl) (by decide) rfl (fun c501 => ?_) (fun c501 => absurd c501 (nI_ne2 (show th < 2 ^ 31 by omega) (show nt < 2 ^ 31 by omega) (by omega)))
            refine g_aload_n F (q := 517) (dk dL_acts_6 2 rfl) rfl rfl 7 rfl ?_
            refine g_iconst F (q := 518) (v := 4) (dk dL_acts_6 3 rfl) rfl (by decide) ?_
            refine g_iload F (q := 520) (dk dL_acts_6 4 rfl) rfl 3 rfl ?_
            refine g_imul F (q := 521) (dk dL_acts_6 5 rfl) rfl ?_
            refine g_iconst F (q := 522) (v := 3) (dk dL_acts_6 6 rfl) rfl (by decide) ?_
            refine g_iadd F (q := 523) (dk dL_acts_6 7 rfl) rfl ?_
            have hc4 : E498 233 = .inl (cA 0, 40, .inl d) := hQ498.dd
            refine g_iald F (q := 524) (((4 * th) + 3)) hc4 (by omega) (nA (nM rfl rfl) rfl) (by omega) (by decide) (dk dL_acts_6 8 rfl) rfl ?_
            refine g_sti (y := 1) ((hD th hlt).2.2.2.trans hw) ?_
            refine g_iconst F (q := 525) (v := 1) (dk dL_acts_6 9 rfl) rfl (by decide) ?_
            refine g_icmp_ne F (q := 528) (tgt := 532) (dk dL_acts_6 10 rfl) (by decide) rfl (fun h => absurd h (by decide)) (fun _ => ?_)
            refine g_iconst F (q := 529) (v := 1) (dk dL_acts_6 11 rfl) rfl (by decide) ?_
            refine g_goto F (tgt := 533) (dk dL_acts_6 12 rfl) (by decide) ?_
            refine g_iload F (q := 535) (dk dL_acts_6 14 rfl) rfl 2 rfl ?_
            refine g_icmp_ne F (q := 538) (tgt := 542) (dk dL_acts_6 15 rfl) (by decide) rfl (fun h => absurd h (by decide)) (fun _ => ?_)
            refine g_iconst F (q := 539) (v := 1) (dk dL_acts_6 16 rfl) rfl (by decide) ?_
            refine g_goto F (tgt := 543) (dk dL_acts_6 17 rfl) (by decide) ?_
            refine g_istore F (q := 545) (lv' := [(11, .int 1), (10, .int (-5)), (9, .int (sumN (fun ee => r (46 + 5 * ee + 4)) nt)), (8, .int 1), (7, .int (nI th)), (6, .int (nI ea)), (5, .int (nI ne)), (0, .ref (ad 0)), (1, .ref (ad 233)), (2, .ref (ad 234)), (3, .int g), (4, .int h)]) (dk dL_acts_6 19 rfl) rfl (Nat.le_of_ble_eq_true rfl) rfl ?_
            refine g_aload_n F (q := 546) (dk dL_acts_6 20 rfl) rfl rfl 8 rfl ?_
            refine g_iconst F (q := 547) (v := 4) (dk dL_acts_6 21 rfl) rfl (by decide) ?_
            refine g_iload F (q := 549) (dk dL_acts_6 22 rfl) rfl 4 rfl ?_
            refine g_imul F (q := 550) (dk dL_acts_6 23 rfl) rfl ?_
            refine g_iconst F (q := 551) (v := 3) (dk dL_acts_6 24 rfl) rfl (by decide) ?_
            refine g_iadd F (q := 552) (dk dL_acts_6 25 rfl) rfl ?_
            refine g_iload F (q := 554) (dk dL_acts_6 26 rfl) rfl 3 rfl ?_
            refine g_if_eq F (q := 557) (tgt := 561) (dk dL_acts_6 27 rfl) (by decide) rfl (fun h => absurd h (by decide)) (fun _ => ?_)
            refine g_iconst F (q := 558) (v := 1) (dk dL_acts_6 28 rfl) rfl (by decide) ?_
            refine g_goto F (tgt := 562) (dk dL_acts_6 29 rfl) (by decide) ?_
            refine g_iast F (q := 563) (((4 * th) + 3)) hc4 (by omega) (nA (nM rfl rfl) rfl) (by omega) (by decide) (dk dL_acts_6 31 rfl) rfl (fun E562 hE562 hO562 => ?_)
            have hQs563 : LQ cA ad E562 r ne nt nk nh ln txt (upd d (((4 * th) + 3)) 1) ps := hQ498.putd hE562 hO562
            refine g_iload F (q := 565) (dk dL_acts_6 32 rfl) rfl 1 rfl ?_
            refine g_iload F (q := 567) (dk dL_acts_6 33 rfl) rfl 0 rfl ?_
            refine g_if_eq F (q := 570) (tgt := 575) (dk dL_acts_6 34 rfl) (by decide) rfl (fun h => absurd h (by decide)) (fun _ => ?_)
            refine g_bipush F (q := 572) (v := (-5)) (dk dL_acts_6 35 rfl) rfl (by decide) ?_
            refine g_goto F (tgt := 591) (dk dL_acts_6 36 rfl) (by decide) ?_
            refine g_icmp_ne F (q := 594) (tgt := 598) (dk dL_acts_7 6 rfl) (by decide) rfl (fun h => absurd h (by decide)) (fun _ => ?_)
            refine g_iconst F (q := 595) (v := 1) (dk dL_acts_7 7 rfl) rfl (by decide) ?_
            refine g_goto F (tgt := 599) (dk dL_acts_7 8 rfl) (by decide) ?_
            refine hret 1 E562 _ _ (dk dL_acts_7 10 rfl) rfl ?_
            exact ⟨rfl, r, ne, nt, nk, nh, ln, txt, _, ps, hQs563, DD_ls hD hw, hP, hB⟩
        · refine h_VI F (av := [.int (nI th), .int 1]) (st := []) (q_leaveOut_n hQ479 (Or.inr rfl) (sL_un (show nt ≤ th by omega) (by omega))) kv_X6_leaveOut tq_539 hQ479.e0 ⟨rfl, rfl⟩ (by decide) ⟨Nat.le_refl _, Nat.le_refl _⟩ rfl rfl (Nat.le_of_ble_eq_true rfl) (dk dL_acts_5 28 rfl) rfl (fun E489 hQ489 => ?_)
          refine g_istore F (q := 494) (lv' := [(10, .int (-1)), (9, .int (sumN (fun ee => r (46 + 5 * ee + 4)) nt)), (8, .int 1), (7, .int (nI th)), (6, .int (nI ea)), (5, .int (nI ne)), (0, .ref (ad 0)), (1, .ref (ad 233)), (2, .ref (ad 234)), (3, .int g), (4, .int h)]) (dk dL_acts_5 29 rfl) rfl (Nat.le_of_ble_eq_true rfl) rfl ?_
          refine g_iload F (q := 496) (dk dL_acts_5 30 rfl) rfl 3 rfl ?_
          refine g_aload_n F (q := 497) (dk dL_acts_5 31 rfl) rfl rfl 6 rfl ?_
          refine g_iconst F (q := 498) (v := 1) (dk dL_acts_5 32 rfl) rfl (by decide) ?_
          refine h_VI F (av := [.int 1]) (st := [.int (nI th)]) (q_count hQ489 (vC1 hV)) kv_X6_count tq_293 hQ489.e0 ⟨rfl, rfl⟩ (by decide) ⟨Nat.le_refl _, Nat.le_refl _⟩ rfl rfl (Nat.le_of_ble_eq_true rfl) (dk dL_acts_5 33 rfl) rfl (fun E498 hQ498 => ?_)
          refine g_icmp_ne F (q := 504) (tgt := 516) (dk dL_acts_5 34 rfl) (by decide) rfl (fun c501 => absurd c501 (fun h => h (by rw [show th = nt by omega]))) (fun c501 => ?_)
          refine g_iload F (q := 506) (dk dL_acts_5 35 rfl) rfl 0 rfl ?_
          refine g_iconst F (q := 507) (v := (-1)) (dk dL_acts_5 36 rfl) rfl (by decide) ?_
          refine g_icmp_ne F (q := 510) (tgt := 514) (dk dL_acts_5 37 rfl) (by decide) rfl (fun h => absurd h (by decide)) (fun _ => ?_)
          refine g_iconst F (q := 511) (v := 1) (dk dL_acts_5 38 rfl) rfl (by decide) ?_
          refine g_goto F (tgt := 515) (dk dL_acts_5 39 rfl) (by decide) ?_
          refine hret 1 E498 _ _ (dk dL_acts_6 1 rfl) rfl ?_
          exact ⟨rfl, r, ne, nt, nk, nh, ln, txt, d, ps, hQ498, hD, hP, hB⟩
theorem ks_L_acts : KS yL_acts "ThumpEarsLaw" cL_acts 12 (some .boolean) 5 := ⟨tq_513, tq_8, tq_514, by decide +kernel⟩
