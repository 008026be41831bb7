abbrev rm_X7_found : Room := { frames := 6, cells := 0, slots := 0, locals := 143 }
set_option maxHeartbeats 4000000 in
set_option maxRecDepth 100000 in
theorem c_X7_found {l : Launch} {D : va_G} {cA : Nat → ClassId} {ad : Nat → Nat} {E : Nat → va_E} {s0 s1 s2 s3 s4 s5 : Int32} {lo mo : Int64} {r rd er th : Nat → Int32} {ne nt nk : Nat} {rt : Nat → Int64} {kn what : Int32} (h233 : E 233 = .inr (7, [.ref (ad 234), .ref (ad 235), .ref (ad 236), .ref (ad 237), .int s0, .int s1, .ref (ad 238), .int s2, .int s3, .int s4, .int s5, .ref (ad 239), .ref (ad 240), .ref (ad 241), .long lo, .long mo, .ref (ad 242)])) (h234 : E 234 = .inl (cA 0, 346, .inl r)) (h239 : E 239 = .inl (cA 0, 10, .inl rd)) (h240 : E 240 = .inl (cA 0, 10, .inl er)) (h241 : E 241 = .inl (cA 0, 10, .inl th)) (h242 : E 242 = .inl (cA 1, 10, .inr (.inl rt)))  (hV : Inv r ne nt nk) : CtL l D cA yX7_found cX7_found 9 rm_X7_found 243 ad E [.ref (ad 233), .int kn, .int what] (fun x E' => ∃ (m2 : Int32) (l2 : Int64) (mo2 : Int64) (rd1 : Nat → Int32) (er1 : Nat → Int32) (th1 : Nat → Int32) (rt1 : Nat → Int64), (sFound r ne nt nk kn what) = x ∧ E' 233 = .inr (7, [.ref (ad 234), .ref (ad 235), .ref (ad 236), .ref (ad 237), .int s0, .int s1, .ref (ad 238), .int s2, .int s3, .int s4, .int m2, .ref (ad 239), .ref (ad 240), .ref (ad 241), .long l2, .long mo2, .ref (ad 242)]) ∧ E' 239 = .inl (cA 0, 10, .inl rd1) ∧ E' 240 = .inl (cA 0, 10, .inl er1) ∧ E' 241 = .inl (cA 0, 10, .inl th1) ∧ E' 242 = .inl (cA 1, 10, .inr (.inl rt1)) ∧ ∀ j, (j ≠ 233 ∧ j ≠ 239 ∧ j ≠ 240 ∧ j ≠ 241 ∧ j ≠ 242) → E' j = E j) := by
  refine CtL.of (by decide +kernel) (Nat.le_of_ble_eq_true rfl) (fun X F hret => ?_)
  have F : Fr "ThumpEarsModel" cX7_found 9 D cA X := F
  refine (show GG rm_X7_found 9 l D X 0 0 243 ad E 0 [(0, .ref (ad 233)), (1, .int kn), (2, .int what)] [] from ?_)
  have hnk := hV.e2
  have hne := hV.e0
  have hnt := hV.e1
  refine g_aload_n F (q := 1) (dk dX7_found 0 rfl) rfl rfl 0 rfl ?_
  refine g_iconst F (q := 2) (v := 1) (dk dX7_found 1 rfl) rfl (by decide) ?_
  refine g_iload_n F (q := 3) (dk dX7_found 2 rfl) rfl rfl 1 rfl ?_
  refine g_callVI F (q := 6) (av := [.int 1, .int kn]) (st := []) (c_X7_none (k := 1) (a := kn) h233 h234 (by first | assumption | decide | omega) hV.h2 hV.e2) kv_X7_none tq_766 h233 rfl (by omega) ⟨rfl, rfl⟩ (by decide) ⟨Nat.le_refl _, Nat.le_refl _⟩ rfl rfl (Nat.le_of_ble_eq_true rfl) (dk dX7_found 3 rfl) rfl (fun r3 E3 hp3 => ?_)
  rcases hp3 with ⟨rfl, rfl, b3⟩ | ⟨rfl, rfl, b3⟩
  · refine g_if_eq F (q := 9) (tgt := 14) (dk dX7_found 4 rfl) (by decide) rfl (fun h => absurd h (by decide)) (fun _ => ?_)
    refine g_iconst F (q := 10) (v := (-1)) (dk dX7_found 5 rfl) rfl (by decide) ?_
    refine g_callSL F (q := 13) (av := [.int (-1)]) (st := []) (c_X7_toldAs (a := (-1))) ks_X7_toldAs tq_843 ⟨rfl, rfl⟩ (by decide) ⟨Nat.le_refl _, Nat.le_refl _⟩ rfl rfl (Nat.le_of_ble_eq_true rfl) (dk dX7_found 6 rfl) rfl (fun r10 E10 hp10 => ?_)
    obtain ⟨rfl, rfl⟩ := hp10
    refine hret (toldAs (-1)) E _ _ (dk dX7_found 7 rfl) ?_
    exact ⟨_, _, _, _, _, _, _, (by unfold sFound; rw [if_pos b3]), h233, h239, h240, h241, h242, (fun j _ => rfl)⟩
  · obtain ⟨m, hm, rfl⟩ := b3
    refine g_if_eq F (q := 9) (tgt := 14) (dk dX7_found 4 rfl) (by decide) rfl (fun _ => ?_) (fun h => absurd h (by decide))
    refine g_iload_n F (q := 15) (dk dX7_found 8 rfl) rfl rfl 2 rfl ?_
    refine g_iconst F (q := 16) (v := 0) (dk dX7_found 9 rfl) rfl (by decide) ?_
    refine g_iconst F (q := 17) (v := 5) (dk dX7_found 10 rfl) rfl (by decide) ?_
    refine g_callSI F (q := 20) (av := [.int what, .int 0, .int 5]) (st := []) (c_X7_in (v := what) (a := 0) (b := 5)) ks_X7_in tq_707 ⟨rfl, rfl⟩ (by decide) ⟨Nat.le_refl _, Nat.le_refl _⟩ rfl rfl (Nat.le_of_ble_eq_true rfl) (dk dX7_found 11 rfl) rfl (fun r17 E17 hp17 => ?_)
    rcases hp17 with ⟨rfl, rfl, b17⟩ | ⟨rfl, rfl, b17⟩
    · refine g_if_ne F (q := 23) (tgt := 29) (dk dX7_found 12 rfl) (by decide) rfl (fun _ => ?_) (fun h => absurd h (by decide))
      refine g_aload_n F (q := 30) (dk dX7_found 16 rfl) rfl rfl 0 rfl ?_
      refine g_iload_n F (q := 31) (dk dX7_found 17 rfl) rfl rfl 1 rfl ?_
      refine g_callVI F (q := 34) (av := [.int (nI m)]) (st := []) (c_X7_hearers (kn := m) h233 h234 (by first | assumption | decide | omega) hV) kv_X7_hearers tq_873 h233 rfl (by omega) ⟨rfl, rfl⟩ (by decide) ⟨Nat.le_refl _, Nat.le_refl _⟩ rfl rfl (Nat.le_of_ble_eq_true rfl) (dk dX7_found 18 rfl) rfl (fun r31 E31 hp31 => ?_)
      obtain ⟨rfl, rfl⟩ := hp31
      refine g_istore_n F (q := 35) (lv' := [(3, .int (nI ((hC r m ne)))), (0, .ref (ad 233)), (1, .int (nI m)), (2, .int what)]) (dk dX7_found 19 rfl) rfl rfl (Nat.le_of_ble_eq_true rfl) rfl ?_
      have hcl := hC_le (r := r) (kn := m) ne
      refine g_iload_n F (q := 36) (dk dX7_found 20 rfl) rfl rfl 3 rfl ?_
      refine g_iconst F (q := 37) (v := 3) (dk dX7_found 21 rfl) rfl (by decide) ?_
      refine g_icmp_ne F (q := 40) (tgt := 43) (dk dX7_found 22 rfl) (by decide) rfl (fun c37 => ?_) (fun c37 => ?_)
      · refine g_iload_n F (q := 44) (dk dX7_found 26 rfl) rfl rfl 0 rfl ?_
        refine g_iconst F (q := 45) (v := 2) (dk dX7_found 27 rfl) rfl (by decide) ?_
        refine g_icmp_ge F (q := 48) (tgt := 54) (dk dX7_found 28 rfl) (by decide) rfl (fun c45 => ?_) (fun c45 => ?_)
        · have nc45 : 2 ≤ (hC r m ne) := (nI_leI (a := 2) (b := (hC r m ne)) (by omega) (by omega)).mp c45
          have hc0 : 0 < hC r m ne := by omega
          refine g_aload_n F (q := 55) (dk dX7_found 32 rfl) rfl rfl 1 rfl ?_
          refine g_iload_n F (q := 56) (dk dX7_found 33 rfl) rfl rfl 2 rfl ?_
          refine g_callVI F (q := 59) (av := [.int (nI m)]) (st := []) (c_X7_placeOf (kn := m) h233 h234 h239 h240 h241 h242 (by first | assumption | decide | omega) hV (by first | assumption | decide | omega)) kv_X7_placeOf tq_877 h233 rfl (by omega) ⟨rfl, rfl⟩ (by decide) ⟨Nat.le_refl _, Nat.le_refl _⟩ rfl rfl (Nat.le_of_ble_eq_true rfl) (dk dX7_found 34 rfl) rfl (fun r56 E56 hp56 => ?_)
          obtain ⟨m2_56, l2_56, mo2_56, rd1_56, er1_56, th1_56, rt1_56, rfl, hK233_56, hK239_56, hK240_56, hK241_56, hK242_56, hR_56, hF56⟩ := hp56
          refine g_istore F (q := 61) (lv' := [(4, .int (nI ((plc r ne nt m)))), (3, .int (nI ((hC r m ne)))), (0, .ref (ad 233)), (1, .int (nI m)), (2, .int what)]) (dk dX7_found 35 rfl) rfl (Nat.le_of_ble_eq_true rfl) rfl ?_
          refine g_aload_n F (q := 62) (dk dX7_found 36 rfl) rfl rfl 2 rfl ?_
          refine g_iload_n F (q := 63) (dk dX7_found 37 rfl) rfl rfl 3 rfl ?_
          refine g_iload F (q := 65) (dk dX7_found 38 rfl) rfl 0 rfl ?_
          have hc1 := (hF56 234 (by omega)).trans h234
          refine g_callVL F (q := 68) (av := [.int (nI m), .int (nI ((plc r ne nt m)))]) (st := []) (c_X7_spreadAt (kn := m) (xx := (nI ((plc r ne nt m)))) hK233_56 hc1 hK242_56 (by first | assumption | decide | omega) hV hR_56) kv_X7_spreadAt tq_885 hK233_56 rfl (by omega) ⟨rfl, rfl⟩ (by decide) ⟨Nat.le_refl _, Nat.le_refl _⟩ rfl rfl (Nat.le_of_ble_eq_true rfl) (dk dX7_found 39 rfl) rfl (fun r65 E65 hp65 => ?_)
          obtain ⟨l2_65, m2_65, rfl, hK233_65, hl_65, hF65⟩ := hp65
          refine g_stl (y := (spW r ne nt m (nI (plc r ne nt m)))) (by rw [(hl_65 hc0).1, (hl_65 hc0).2]; rfl) ?_
          refine g_lstore F (q := 70) (lv' := [(5, .long (spW r ne nt m (nI (plc r ne nt m)))), (4, .int (nI ((plc r ne nt m)))), (3, .int (nI ((hC r m ne)))), (0, .ref (ad 233)), (1, .int (nI m)), (2, .int what)]) (dk dX7_found 40 rfl) rfl (Nat.le_of_ble_eq_true rfl) rfl ?_
          refine g_aload_n F (q := 71) (dk dX7_found 41 rfl) rfl rfl 3 rfl ?_
          refine g_getf F (q := 74) hK233_65 rfl inX7 (by omega) (j := 14) (by decide) tq_637 rfl rfl (dk dX7_found 42 rfl) rfl ?_
          refine g_aload_n F (q := 75) (dk dX7_found 43 rfl) rfl rfl 3 rfl ?_
          refine g_getf F (q := 78) hK233_65 rfl inX7 (by omega) (j := 15) (by decide) tq_638 rfl rfl (dk dX7_found 44 rfl) rfl ?_
          refine g_ladd F (q := 79) (dk dX7_found 45 rfl) rfl ?_
          refine g_ldc2 F (q := 82) (v := 2) (dk dX7_found 46 rfl) rfl tq_893 ?_
          refine g_callSL F (q := 85) (av := [.long (l2_65 + m2_65), .long 2]) (st := []) (c_X7_down (a := (l2_65 + m2_65)) (b := 2) (by first | assumption | decide | omega)) ks_X7_down tq_755 ⟨rfl, rfl⟩ (by decide) ⟨Nat.le_refl _, Nat.le_refl _⟩ rfl rfl (Nat.le_of_ble_eq_true rfl) (dk dX7_found 47 rfl) rfl (fun r82 E82 hp82 => ?_)
          obtain ⟨rfl, rfl⟩ := hp82
          refine g_stl (y := (tmK r ne nt m (nI (plc r ne nt m)))) (by rw [(hl_65 hc0).1, (hl_65 hc0).2]; rfl) ?_
          refine g_lstore F (q := 87) (lv' := [(7, .long (tmK r ne nt m (nI (plc r ne nt m)))), (5, .long (spW r ne nt m (nI (plc r ne nt m)))), (4, .int (nI ((plc r ne nt m)))), (3, .int (nI ((hC r m ne)))), (0, .ref (ad 233)), (1, .int (nI m)), (2, .int what)]) (dk dX7_found 48 rfl) rfl (Nat.le_of_ble_eq_true rfl) rfl ?_
          refine g_iload_n F (q := 88) (dk dX7_found 49 rfl) rfl rfl 6 rfl ?_
          rcases sw_split what (0) 4 with hsw | ⟨jsw, hlt, hsw⟩
          · refine g_tabOut F (tgt := 157) (dk dX7_found 50 rfl) (by omega) (by decide) ?_
            have hq0 : ¬ what = 0 := fun h => by rw [h] at hsw; revert hsw; decide
            have hq1 : ¬ what = 1 := fun h => by rw [h] at hsw; revert hsw; decide
            have hq2 : ¬ what = 2 := fun h => by rw [h] at hsw; revert hsw; decide
            have hq4 : ¬ what = 4 := fun h => by rw [h] at hsw; revert hsw; decide
            refine g_aload_n F (q := 158) (dk dX7_found 72 rfl) rfl rfl 4 rfl ?_
            refine g_iload_n F (q := 159) (dk dX7_found 73 rfl) rfl rfl 5 rfl ?_
            refine g_iload F (q := 161) (dk dX7_found 74 rfl) rfl 2 rfl ?_
            refine g_lload F (q := 163) (dk dX7_found 75 rfl) rfl 0 rfl ?_
            have hc2 := (hF65 234 (by omega)).trans hc1
            have hc3 := (hF65 242 (by omega)).trans hK242_56
            refine g_callVI F (q := 166) (av := [.int (nI m), .int (nI ((plc r ne nt m))), .long (tmK r ne nt m (nI (plc r ne nt m)))]) (st := []) (c_X7_worst (kn := m) (xx := (nI ((plc r ne nt m)))) (t := (tmK r ne nt m (nI (plc r ne nt m)))) hK233_65 hc2 hc3 (by first | assumption | decide | omega) hV hR_56 hc0 (fun e h1 h2 => ab_nn hV hm hc0 plc_i h1 h2)) kv_X7_worst tq_894 hK233_65 rfl (by omega) ⟨rfl, rfl⟩ (by decide) ⟨Nat.le_refl _, Nat.le_refl _⟩ rfl rfl (Nat.le_of_ble_eq_true rfl) (dk dX7_found 76 rfl) rfl (fun r163 E163 hp163 => ?_)
            obtain ⟨rfl, rfl⟩ := hp163
            refine g_i2l F (q := 167) (dk dX7_found 77 rfl) rfl ?_
            have hc4 := (hF65 239 (by omega)).trans hK239_56
            have hc5 := (hF65 240 (by omega)).trans hK240_56
            have hc6 := (hF65 241 (by omega)).trans hK241_56
            refine hret (nI ((wrE r ne nt m (nI ((plc r ne nt m))) (tmK r ne nt m (nI (plc r ne nt m)))))).toInt64 E65 _ _ (dk dX7_found 78 rfl) ?_
            exact ⟨_, _, _, _, _, _, _, (by unfold sFound; rw [if_neg (ixN hm (by omega)), nI_c (by omega), if_neg (fun h => h b17), if_neg c37, if_neg (by omega), if_neg hq0, if_neg hq1, if_neg hq2, if_neg hq4]), hK233_65, hc4, hc5, hc6, hc3, (fun j hj => ((hF65 j (by omega)).trans (hF56 j (by omega))))⟩
          · rcases (show jsw = 0 ∨ jsw = 1 ∨ jsw = 2 ∨ jsw = 3 ∨ jsw = 4 by omega) with rfl | rfl | rfl | rfl | rfl
            · have hx : what = 0 := by rw [hsw]; decide
              refine g_tabIn F (tgt := 124) (off := 36) (dk dX7_found 50 rfl) (by rw [hx]; decide) (by rw [hx]; decide) (by rw [hx]; decide) (by decide) ?_
              refine g_iload F (q := 126) (dk dX7_found 51 rfl) rfl 2 rfl ?_
              refine g_i2l F (q := 127) (dk dX7_found 52 rfl) rfl ?_
              have hc7 := (hF65 239 (by omega)).trans hK239_56
              have hc8 := (hF65 240 (by omega)).trans hK240_56
              have hc9 := (hF65 241 (by omega)).trans hK241_56
              have hc10 := (hF65 242 (by omega)).trans hK242_56
              refine hret (nI ((plc r ne nt m))).toInt64 E65 _ _ (dk dX7_found 53 rfl) ?_
              exact ⟨_, _, _, _, _, _, _, (by unfold sFound; rw [hx, if_neg (ixN hm (by omega)), nI_c (by omega), if_neg (by decide), if_neg (by decide), if_neg (by omega), if_pos rfl]), hK233_65, hc7, hc8, hc9, hc10, (fun j hj => ((hF65 j (by omega)).trans (hF56 j (by omega))))⟩
            · have hx : what = 1 := by rw [hsw]; decide
              refine g_tabIn F (tgt := 128) (off := 40) (dk dX7_found 50 rfl) (by rw [hx]; decide) (by rw [hx]; decide) (by rw [hx]; decide) (by decide) ?_
              refine g_lload F (q := 130) (dk dX7_found 54 rfl) rfl 0 rfl ?_
              have hc11 := (hF65 239 (by omega)).trans hK239_56
              have hc12 := (hF65 240 (by omega)).trans hK240_56
              have hc13 := (hF65 241 (by omega)).trans hK241_56
              have hc14 := (hF65 242 (by omega)).trans hK242_56
              refine hret (tmK r ne nt m (nI (plc r ne nt m))) E65 _ _ (dk dX7_found 55 rfl) ?_
              exact ⟨_, _, _, _, _, _, _, (by unfold sFound; rw [hx, if_neg (ixN hm (by omega)), nI_c (by omega), if_neg (by decide), if_neg (by decide), if_neg (by omega), if_neg (by decide), if_pos rfl]), hK233_65, hc11, hc12, hc13, hc14, (fun j hj => ((hF65 j (by omega)).trans (hF56 j (by omega))))⟩
            · have hx : what = 2 := by rw [hsw]; decide
              refine g_tabIn F (tgt := 131) (off := 43) (dk dX7_found 50 rfl) (by rw [hx]; decide) (by rw [hx]; decide) (by rw [hx]; decide) (by decide) ?_
              refine g_lload F (q := 133) (dk dX7_found 56 rfl) rfl 1 rfl ?_
              have hc15 := (hF65 239 (by omega)).trans hK239_56
              have hc16 := (hF65 240 (by omega)).trans hK240_56
              have hc17 := (hF65 241 (by omega)).trans hK241_56
              have hc18 := (hF65 242 (by omega)).trans hK242_56
              refine hret (spW r ne nt m (nI (plc r ne nt m))) E65 _ _ (dk dX7_found 57 rfl) ?_
              exact ⟨_, _, _, _, _, _, _, (by unfold sFound; rw [hx, if_neg (ixN hm (by omega)), nI_c (by omega), if_neg (by decide), if_neg (by decide), if_neg (by omega), if_neg (by decide), if_neg (by decide), if_pos rfl]), hK233_65, hc15, hc16, hc17, hc18, (fun j hj => ((hF65 j (by omega)).trans (hF56 j (by omega))))⟩
            · have hx : what = 3 := by rw [hsw]; decide
              refine g_tabIn F (tgt := 157) (off := 69) (dk dX7_found 50 rfl) (by rw [hx]; decide) (by rw [hx]; decide) (by rw [hx]; decide) (by decide) ?_
              exact absurd hx c37
            · have hx : what = 4 := by rw [hsw]; decide
              refine g_tabIn F (tgt := 134) (off := 46) (dk dX7_found 50 rfl) (by rw [hx]; decide) (by rw [hx]; decide) (by rw [hx]; decide) (by decide) ?_
              refine g_lload F (q := 136) (dk dX7_found 58 rfl) rfl 1 rfl ?_
              refine g_ldc2 F (q := 139) (v := 1000) (dk dX7_found 59 rfl) rfl tq_852 ?_
              refine g_aload_n F (q := 140) (dk dX7_found 60 rfl) rfl rfl 4 rfl ?_
              refine g_getf F (q := 143) hK233_65 rfl inX7 (by omega) (j := 0) (by decide) tq_623 rfl rfl (dk dX7_found 61 rfl) rfl ?_
              refine g_iconst F (q := 144) (v := 4) (dk dX7_found 62 rfl) rfl (by decide) ?_
              have hc19 := (hF65 234 (by omega)).trans hc1
              refine g_iald F (q := 145) 4 hc19 (by omega) rfl (by omega) (by decide) (dk dX7_found 63 rfl) rfl ?_
              refine g_i2l F (q := 146) (dk dX7_found 64 rfl) rfl ?_
              refine g_lmul F (q := 147) (dk dX7_found 65 rfl) rfl ?_
              refine g_lcmp_gt F (q := 151) (tgt := 155) (dk dX7_found 66 rfl) (dk dX7_found 67 rfl) (by decide) rfl (fun c147 => ?_) (fun c147 => ?_)
              · refine g_lconst F (q := 156) (v := 0) (dk dX7_found 70 rfl) rfl (by decide) ?_
                have hc20 := (hF65 239 (by omega)).trans hK239_56
                have hc21 := (hF65 240 (by omega)).trans hK240_56
                have hc22 := (hF65 241 (by omega)).trans hK241_56
                have hc23 := (hF65 242 (by omega)).trans hK242_56
                refine hret 0 E65 _ _ (dk dX7_found 71 rfl) ?_
                exact ⟨_, _, _, _, _, _, _, (by unfold sFound; rw [hx, if_neg (ixN hm (by omega)), nI_c (by omega), if_neg (by decide), if_neg (by decide), if_neg (by omega), if_neg (by decide), if_neg (by decide), if_neg (by decide), if_pos rfl, if_neg (Int64.not_le.mpr c147)]), hK233_65, hc20, hc21, hc22, hc23, (fun j hj => ((hF65 j (by omega)).trans (hF56 j (by omega))))⟩
              · refine g_lconst F (q := 152) (v := 1) (dk dX7_found 68 rfl) rfl (by decide) ?_
                refine g_goto F (tgt := 156) (dk dX7_found 69 rfl) (by decide) ?_
                have hc24 := (hF65 239 (by omega)).trans hK239_56
                have hc25 := (hF65 240 (by omega)).trans hK240_56
                have hc26 := (hF65 241 (by omega)).trans hK241_56
                have hc27 := (hF65 242 (by omega)).trans hK242_56
                refine hret 1 E65 _ _ (dk dX7_found 71 rfl) ?_
                exact ⟨_, _, _, _, _, _, _, (by unfold sFound; rw [hx, if_neg (ixN hm (by omega)), nI_c (by omega), if_neg (by decide), if_neg (by decide), if_neg (by omega), if_neg (by decide), if_neg (by decide), if_neg (by decide), if_pos rfl, if_pos (Int64.not_lt.mp c147)]), hK233_65, hc24, hc25, hc26, hc27, (fun j hj => ((hF65 j (by omega)).trans (hF56 j (by omega))))⟩
        · have nc45 : ¬ 2 ≤ (hC r m ne) := fun h => c45 ((nI_leI (a := 2) (b := (hC r m ne)) (by omega) (by omega)).mpr h)
          refine g_bipush F (q := 50) (v := (-4)) (dk dX7_found 29 rfl) rfl (by decide) ?_
          refine g_callSL F (q := 53) (av := [.int (-4)]) (st := []) (c_X7_toldAs (a := (-4))) ks_X7_toldAs tq_843 ⟨rfl, rfl⟩ (by decide) ⟨Nat.le_refl _, Nat.le_refl _⟩ rfl rfl (Nat.le_of_ble_eq_true rfl) (dk dX7_found 30 rfl) rfl (fun r50 E50 hp50 => ?_)
          obtain ⟨rfl, rfl⟩ := hp50
          refine hret (toldAs (-4)) E _ _ (dk dX7_found 31 rfl) ?_
          exact ⟨_, _, _, _, _, _, _, (by unfold sFound; rw [if_neg (ixN hm (by omega)), nI_c (by omega), if_neg (fun h => h b17), if_neg c37, if_pos (by omega)]), h233, h239, h240, h241, h242, (fun j _ => rfl)⟩
      · refine g_iload_n F (q := 41) (dk dX7_found 23 rfl) rfl rfl 0 rfl ?_
        refine g_i2l F (q := 42) (dk dX7_found 24 rfl) rfl ?_
        refine hret (nI ((hC r m ne))).toInt64 E _ _ (dk dX7_found 25 rfl) ?_
        exact ⟨_, _, _, _, _, _, _, (by unfold sFound; rw [if_neg (ixN hm (by omega)), nI_c (by omega), if_neg (fun h => h b17), if_pos c37]), h233, h239, h240, h241, h242, (fun j _ => rfl)⟩
    · refine g_if_ne F (q := 23) (tgt := 29) (dk dX7_found 12 rfl) (by decide) rfl (fun h => absurd h (by decide)) (fun _ => ?_)
      refine g_bipush F (q := 25) (v := (-2)) (dk dX7_found 13 rfl) rfl (by decide) ?_
      refine g_callSL F (q := 28) (av := [.int (-2)]) (st := []) (c_X7_toldAs (a := (-2))) ks_X7_toldAs tq_843 ⟨rfl, rfl⟩ (by decide) ⟨Nat.le_refl _, Nat.le_refl _⟩ rfl rfl (Nat.le_of_ble_eq_true rfl) (dk dX7_found 14 rfl) rfl (fun r25 E25 hp25 => ?_)
      obtain ⟨rfl, rfl⟩ := hp25
      refine hret (toldAs (-2)) E _ _ (dk dX7_found 15 rfl) ?_
      exact ⟨_, _, _, _, _, _, _, (by unfold sFound; rw [if_neg (ixN hm (by omega)), nI_c (by omega), if_pos b17]), h233, h239, h240, h241, h242, (fun j _ => rfl)⟩
theorem kv_X7_found : KV yX7_found "ThumpEarsModel" cX7_found 9 (some .long) 2 := ⟨tq_870, tq_871, tq_47, tq_872, by decide +kernel⟩
abbrev rm_X7_spread : Room := { frames := 5, cells := 0, slots := 0, locals := 116 }
set_option maxHeartbeats 4000000 in
set_option maxRecDepth 100000 in
theorem c_X7_spread {l : Launch} {D : va_G} {cA : Nat → ClassId} {ad : Nat → Nat} {E : Nat → va_E} {s0 s1 s2 s3 s4 s5 : Int32} {lo mo : Int64} {r rd er th : Nat → Int32} {ne nt nk : Nat} {rt : Nat → Int64} {kn pl : Int32} (h233 : E 233 = .inr (7, [.ref (ad 234), .ref (ad 235), .ref (ad 236), .ref (ad 237), .int s0, .int s1, .ref (ad 238), .int s2, .int s3, .int s4, .int s5, .ref (ad 239), .ref (ad 240), .ref (ad 241), .long lo, .long mo, .ref (ad 242)])) (h234 : E 234 = .inl (cA 0, 346, .inl r)) (h239 : E 239 = .inl (cA 0, 10, .inl rd)) (h240 : E 240 = .inl (cA 0, 10, .inl er)) (h241 : E 241 = .inl (cA 0, 10, .inl th)) (h242 : E 242 = .inl (cA 1, 10, .inr (.inl rt)))  (hV : Inv r ne nt nk) : CtL l D cA yX7_spread cX7_spread 3 rm_X7_spread 243 ad E [.ref (ad 233), .int kn, .int pl] (fun x E' => ∃ (m2 : Int32) (l2 : Int64) (mo2 : Int64) (rd1 : Nat → Int32) (er1 : Nat → Int32) (th1 : Nat → Int32) (rt1 : Nat → Int64), (sSpread r ne nt nk kn pl) = x ∧ E' 233 = .inr (7, [.ref (ad 234), .ref (ad 235), .ref (ad 236), .ref (ad 237), .int s0, .int s1, .ref (ad 238), .int s2, .int s3, .int s4, .int m2, .ref (ad 239), .ref (ad 240), .ref (ad 241), .long l2, .long mo2, .ref (ad 242)]) ∧ E' 239 = .inl (cA 0, 10, .inl rd1) ∧ E' 240 = .inl (cA 0, 10, .inl er1) ∧ E' 241 = .inl (cA 0, 10, .inl th1) ∧ E' 242 = .inl (cA 1, 10, .inr (.inl rt1)) ∧ ∀ j, (j ≠ 233 ∧ j ≠ 239 ∧ j ≠ 240 ∧ j ≠ 241 ∧ j ≠ 242) → E' j = E j) := by
  refine CtL.of (by decide +kernel) (Nat.le_of_ble_eq_true rfl) (fun X F hret => ?_)
  have F : Fr "ThumpEarsModel" cX7_spread 3 D cA X := F
  refine (show GG rm_X7_spread 3 l D X 0 0 243 ad E 0 [(0, .ref (ad 233)), (1, .int kn), (2, .int pl)] [] from ?_)
  have hnk := hV.e2
  have hne := hV.e0
  have hnt := hV.e1
  refine g_aload_n F (q := 1) (dk dX7_spread 0 rfl) rfl rfl 0 rfl ?_
  refine g_iconst F (q := 2) (v := 1) (dk dX7_spread 1 rfl) rfl (by decide) ?_
  refine g_iload_n F (q := 3) (dk dX7_spread 2 rfl) rfl rfl 1 rfl ?_
  refine g_callVI F (q := 6) (av := [.int 1, .int kn]) (st := []) (c_X7_none (k := 1) (a := kn) h233 h234 (by first | assumption | decide | omega) hV.h2 hV.e2) kv_X7_none tq_766 h233 rfl (by omega) ⟨rfl, rfl⟩ (by decide) ⟨Nat.le_refl _, Nat.le_refl _⟩ rfl rfl (Nat.le_of_ble_eq_true rfl) (dk dX7_spread 3 rfl) rfl (fun r3 E3 hp3 => ?_)
  rcases hp3 with ⟨rfl, rfl, b3⟩ | ⟨rfl, rfl, b3⟩
  · refine g_if_eq F (q := 9) (tgt := 14) (dk dX7_spread 4 rfl) (by decide) rfl (fun h => absurd h (by decide)) (fun _ => ?_)
    refine g_iconst F (q := 10) (v := (-1)) (dk dX7_spread 5 rfl) rfl (by decide) ?_
    refine g_callSL F (q := 13) (av := [.int (-1)]) (st := []) (c_X7_toldAs (a := (-1))) ks_X7_toldAs tq_843 ⟨rfl, rfl⟩ (by decide) ⟨Nat.le_refl _, Nat.le_refl _⟩ rfl rfl (Nat.le_of_ble_eq_true rfl) (dk dX7_spread 6 rfl) rfl (fun r10 E10 hp10 => ?_)
    obtain ⟨rfl, rfl⟩ := hp10
    refine hret (toldAs (-1)) E _ _ (dk dX7_spread 7 rfl) ?_
    exact ⟨_, _, _, _, _, _, _, (by unfold sSpread; rw [if_pos b3]), h233, h239, h240, h241, h242, (fun j _ => rfl)⟩
  · obtain ⟨m, hm, rfl⟩ := b3
    refine g_if_eq F (q := 9) (tgt := 14) (dk dX7_spread 4 rfl) (by decide) rfl (fun _ => ?_) (fun h => absurd h (by decide))
    refine g_iload_n F (q := 15) (dk dX7_spread 8 rfl) rfl rfl 2 rfl ?_
    refine g_iconst F (q := 16) (v := 0) (dk dX7_spread 9 rfl) rfl (by decide) ?_
    refine g_sipush F (q := 19) (v := 1000) (dk dX7_spread 10 rfl) rfl (by decide) ?_
    refine g_callSI F (q := 22) (av := [.int pl, .int 0, .int 1000]) (st := []) (c_X7_in (v := pl) (a := 0) (b := 1000)) ks_X7_in tq_707 ⟨rfl, rfl⟩ (by decide) ⟨Nat.le_refl _, Nat.le_refl _⟩ rfl rfl (Nat.le_of_ble_eq_true rfl) (dk dX7_spread 11 rfl) rfl (fun r19 E19 hp19 => ?_)
    rcases hp19 with ⟨rfl, rfl, b19⟩ | ⟨rfl, rfl, b19⟩
    · refine g_if_ne F (q := 25) (tgt := 31) (dk dX7_spread 12 rfl) (by decide) rfl (fun _ => ?_) (fun h => absurd h (by decide))
      refine g_aload_n F (q := 32) (dk dX7_spread 16 rfl) rfl rfl 0 rfl ?_
      refine g_iload_n F (q := 33) (dk dX7_spread 17 rfl) rfl rfl 1 rfl ?_
      refine g_callVI F (q := 36) (av := [.int (nI m)]) (st := []) (c_X7_hearers (kn := m) h233 h234 (by first | assumption | decide | omega) hV) kv_X7_hearers tq_873 h233 rfl (by omega) ⟨rfl, rfl⟩ (by decide) ⟨Nat.le_refl _, Nat.le_refl _⟩ rfl rfl (Nat.le_of_ble_eq_true rfl) (dk dX7_spread 18 rfl) rfl (fun r33 E33 hp33 => ?_)
      obtain ⟨rfl, rfl⟩ := hp33
      have hcl := hC_le (r := r) (kn := m) ne
      refine g_iconst F (q := 37) (v := 2) (dk dX7_spread 19 rfl) rfl (by decide) ?_
      refine g_icmp_ge F (q := 40) (tgt := 46) (dk dX7_spread 20 rfl) (by decide) rfl (fun c37 => ?_) (fun c37 => ?_)
      · have nc37 : 2 ≤ (hC r m ne) := (nI_leI (a := 2) (b := (hC r m ne)) (by omega) (by omega)).mp c37
        have hc0 : 0 < hC r m ne := by omega
        refine g_aload_n F (q := 47) (dk dX7_spread 24 rfl) rfl rfl 0 rfl ?_
        refine g_iload_n F (q := 48) (dk dX7_spread 25 rfl) rfl rfl 1 rfl ?_
        refine g_callVV F (q := 51) (av := [.int (nI m)]) (st := []) (c_X7_findRight (kn := m) h233 h234 h239 h240 h241 h242 (by first | assumption | decide | omega) hV) kv_X7_findRight tq_881 h233 rfl (by omega) ⟨rfl, rfl⟩ (by decide) ⟨Nat.le_refl _, Nat.le_refl _⟩ rfl rfl (Nat.le_of_ble_eq_true rfl) (dk dX7_spread 26 rfl) rfl (fun E48 hp48 => ?_)
        obtain ⟨m2_48, rd1_48, er1_48, th1_48, rt1_48, hK233_48, hK239_48, hK240_48, hK241_48, hK242_48, hR_48, hF48⟩ := hp48
        refine g_aload_n F (q := 52) (dk dX7_spread 27 rfl) rfl rfl 0 rfl ?_
        refine g_iload_n F (q := 53) (dk dX7_spread 28 rfl) rfl rfl 1 rfl ?_
        refine g_iload_n F (q := 54) (dk dX7_spread 29 rfl) rfl rfl 2 rfl ?_
        have hc1 := (hF48 234 (by omega)).trans h234
        refine g_callVL F (q := 57) (av := [.int (nI m), .int pl]) (st := []) (c_X7_spreadAt (kn := m) (xx := pl) hK233_48 hc1 hK242_48 (by first | assumption | decide | omega) hV hR_48) kv_X7_spreadAt tq_885 hK233_48 rfl (by omega) ⟨rfl, rfl⟩ (by decide) ⟨Nat.le_refl _, Nat.le_refl _⟩ rfl rfl (Nat.le_of_ble_eq_true rfl) (dk dX7_spread 30 rfl) rfl (fun r54 E54 hp54 => ?_)
        obtain ⟨l2_54, m2_54, rfl, hK233_54, hl_54, hF54⟩ := hp54
        refine g_stl (y := (spW r ne nt m pl)) (by rw [(hl_54 hc0).1, (hl_54 hc0).2]; rfl) ?_
        have hc2 := (hF54 239 (by omega)).trans hK239_48
        have hc3 := (hF54 240 (by omega)).trans hK240_48
        have hc4 := (hF54 241 (by omega)).trans hK241_48
        have hc5 := (hF54 242 (by omega)).trans hK242_48
        refine hret (spW r ne nt m pl) E54 _ _ (dk dX7_spread 31 rfl) ?_
        exact ⟨_, _, _, _, _, _, _, (by unfold sSpread; rw [if_neg (ixN hm (by omega)), nI_c (by omega), if_neg (fun h => h b19), if_neg (by omega)]), hK233_54, hc2, hc3, hc4, hc5, (fun j hj => ((hF54 j (by omega)).trans (hF48 j (by omega))))⟩
      · have nc37 : ¬ 2 ≤ (hC r m ne) := fun h => c37 ((nI_leI (a := 2) (b := (hC r m ne)) (by omega) (by omega)).mpr h)
        refine g_bipush F (q := 42) (v := (-4)) (dk dX7_spread 21 rfl) rfl (by decide) ?_
        refine g_callSL F (q := 45) (av := [.int (-4)]) (st := []) (c_X7_toldAs (a := (-4))) ks_X7_toldAs tq_843 ⟨rfl, rfl⟩ (by decide) ⟨Nat.le_refl _, Nat.le_refl _⟩ rfl rfl (Nat.le_of_ble_eq_true rfl) (dk dX7_spread 22 rfl) rfl (fun r42 E42 hp42 => ?_)
        obtain ⟨rfl, rfl⟩ := hp42
        refine hret (toldAs (-4)) E _ _ (dk dX7_spread 23 rfl) ?_
        exact ⟨_, _, _, _, _, _, _, (by unfold sSpread; rw [if_neg (ixN hm (by omega)), nI_c (by omega), if_neg (fun h => h b19), if_pos (by omega)]), h233, h239, h240, h241, h242, (fun j _ => rfl)⟩
    · refine g_if_ne F (q := 25) (tgt := 31) (dk dX7_spread 12 rfl) (by decide) rfl (fun h => absurd h (by decide)) (fun _ => ?_)
      refine g_bipush F (q := 27) (v := (-2)) (dk dX7_spread 13 rfl) rfl (by decide) ?_
      refine g_callSL F (q := 30) (av := [.int (-2)]) (st := []) (c_X7_toldAs (a := (-2))) ks_X7_toldAs tq_843 ⟨rfl, rfl⟩ (by decide) ⟨Nat.le_refl _, Nat.le_refl _⟩ rfl rfl (Nat.le_of_ble_eq_true rfl) (dk dX7_spread 14 rfl) rfl (fun r27 E27 hp27 => ?_)
      obtain ⟨rfl, rfl⟩ := hp27
      refine hret (toldAs (-2)) E _ _ (dk dX7_spread 15 rfl) ?_
      exact ⟨_, _, _, _, _, _, _, (by unfold sSpread; rw [if_neg (ixN hm (by omega)), nI_c (by omega), if_pos b19]), h233, h239, h240, h241, h242, (fun j _ => rfl)⟩
theorem kv_X7_spread : KV yX7_spread "ThumpEarsModel" cX7_spread 3 (some .long) 2 := ⟨tq_900, tq_901, tq_47, tq_902, by decide +kernel⟩
abbrev rm_X7_truth : Room := { frames := 6, cells := 0, slots := 0, locals := 143 }
set_option maxHeartbeats 4000000 in
set_option maxRecDepth 100000 in
theorem c_X7_truth {l : Launch} {D : va_G} {cA : Nat → ClassId} {ad : Nat → Nat} {E : Nat → va_E} {s0 s1 s2 s3 s4 s5 : Int32} {lo mo : Int64} {r rd er th : Nat → Int32} {ne nt nk : Nat} {rt : Nat → Int64} {kn what : Int32} (h233 : E 233 = .inr (7, [.ref (ad 234), .ref (ad 235), .ref (ad 236), .ref (ad 237), .int s0, .int s1, .ref (ad 238), .int s2, .int s3, .int s4, .int s5, .ref (ad 239), .ref (ad 240), .ref (ad 241), .long lo, .long mo, .ref (ad 242)])) (h234 : E 234 = .inl (cA 0, 346, .inl r)) (h239 : E 239 = .inl (cA 0, 10, .inl rd)) (h240 : E 240 = .inl (cA 0, 10, .inl er)) (h241 : E 241 = .inl (cA 0, 10, .inl th)) (h242 : E 242 = .inl (cA 1, 10, .inr (.inl rt)))  (hV : Inv r ne nt nk) : CtI l D cA yX7_truth cX7_truth 3 .int rm_X7_truth 243 ad E [.ref (ad 233), .int kn, .int what] (fun x E' => ∃ (m2 : Int32) (l2 : Int64) (mo2 : Int64) (rd1 : Nat → Int32) (er1 : Nat → Int32) (th1 : Nat → Int32) (rt1 : Nat → Int64), (sTruth r ne nt nk kn what) = x ∧ E' 233 = .inr (7, [.ref (ad 234), .ref (ad 235), .ref (ad 236), .ref (ad 237), .int s0, .int s1, .ref (ad 238), .int s2, .int s3, .int s4, .int m2, .ref (ad 239), .ref (ad 240), .ref (ad 241), .long l2, .long mo2, .ref (ad 242)]) ∧ E' 239 = .inl (cA 0, 10, .inl rd1) ∧ E' 240 = .inl (cA 0, 10, .inl er1) ∧ E' 241 = .inl (cA 0, 10, .inl th1) ∧ E' 242 = .inl (cA 1, 10, .inr (.inl rt1)) ∧ ∀ j, (j ≠ 233 ∧ j ≠ 239 ∧ j ≠ 240 ∧ j ≠ 241 ∧ j ≠ 242) → E' j = E j) := by
  refine CtI.of (by decide +kernel) (Nat.le_of_ble_eq_true rfl) (fun X F hret => ?_)
  have F : Fr "ThumpEarsModel" cX7_truth 3 D cA X := F
  refine (show GG rm_X7_truth 3 l D X 0 0 243 ad E 0 [(0, .ref (ad 233)), (1, .int kn), (2, .int what)] [] from ?_)
  have hnk := hV.e2
  have hne := hV.e0
  have hnt := hV.e1
  refine g_aload_n F (q := 1) (dk dX7_truth 0 rfl) rfl rfl 0 rfl ?_
  refine g_iconst F (q := 2) (v := 1) (dk dX7_truth 1 rfl) rfl (by decide) ?_
  refine g_iload_n F (q := 3) (dk dX7_truth 2 rfl) rfl rfl 1 rfl ?_
  refine g_callVI F (q := 6) (av := [.int 1, .int kn]) (st := []) (c_X7_none (k := 1) (a := kn) h233 h234 (by first | assumption | decide | omega) hV.h2 hV.e2) kv_X7_none tq_766 h233 rfl (by omega) ⟨rfl, rfl⟩ (by decide) ⟨Nat.le_refl _, Nat.le_refl _⟩ rfl rfl (Nat.le_of_ble_eq_true rfl) (dk dX7_truth 3 rfl) rfl (fun r3 E3 hp3 => ?_)
  rcases hp3 with ⟨rfl, rfl, b3⟩ | ⟨rfl, rfl, b3⟩
  · refine g_if_eq F (q := 9) (tgt := 11) (dk dX7_truth 4 rfl) (by decide) rfl (fun h => absurd h (by decide)) (fun _ => ?_)
    refine g_iconst F (q := 10) (v := (-1)) (dk dX7_truth 5 rfl) rfl (by decide) ?_
    refine hret (-1) E _ _ (dk dX7_truth 6 rfl) (nint _) ?_
    exact ⟨_, _, _, _, _, _, _, (by unfold sTruth; rw [if_pos b3]), h233, h239, h240, h241, h242, (fun j _ => rfl)⟩
  · obtain ⟨m, hm, rfl⟩ := b3
    refine g_if_eq F (q := 9) (tgt := 11) (dk dX7_truth 4 rfl) (by decide) rfl (fun _ => ?_) (fun h => absurd h (by decide))
    refine g_iload_n F (q := 12) (dk dX7_truth 7 rfl) rfl rfl 2 rfl ?_
    refine g_iconst F (q := 13) (v := 0) (dk dX7_truth 8 rfl) rfl (by decide) ?_
    refine g_iconst F (q := 14) (v := 2) (dk dX7_truth 9 rfl) rfl (by decide) ?_
    refine g_callSI F (q := 17) (av := [.int what, .int 0, .int 2]) (st := []) (c_X7_in (v := what) (a := 0) (b := 2)) ks_X7_in tq_707 ⟨rfl, rfl⟩ (by decide) ⟨Nat.le_refl _, Nat.le_refl _⟩ rfl rfl (Nat.le_of_ble_eq_true rfl) (dk dX7_truth 10 rfl) rfl (fun r14 E14 hp14 => ?_)
    rcases hp14 with ⟨rfl, rfl, b14⟩ | ⟨rfl, rfl, b14⟩
    · rcases in02 b14 with rfl | rfl | rfl
      · refine g_if_ne F (q := 20) (tgt := 23) (dk dX7_truth 11 rfl) (by decide) rfl (fun _ => ?_) (fun h => absurd h (by decide))
        refine g_iload_n F (q := 24) (dk dX7_truth 14 rfl) rfl rfl 2 rfl ?_
        refine g_iconst F (q := 25) (v := 2) (dk dX7_truth 15 rfl) rfl (by decide) ?_
        refine g_icmp_ge F (q := 28) (tgt := 36) (dk dX7_truth 16 rfl) (by decide) rfl (fun h => absurd h (by decide)) (fun _ => ?_)
        refine g_aload_n F (q := 29) (dk dX7_truth 17 rfl) rfl rfl 0 rfl ?_
        refine g_iconst F (q := 30) (v := 1) (dk dX7_truth 18 rfl) rfl (by decide) ?_
        refine g_iload_n F (q := 31) (dk dX7_truth 19 rfl) rfl rfl 1 rfl ?_
        refine g_iload_n F (q := 32) (dk dX7_truth 20 rfl) rfl rfl 2 rfl ?_
        refine g_callVI F (q := 35) (av := [.int 1, .int (nI m), .int 0]) (st := []) (c_X7_come (k := 1) (m := m) (w := 0) h233 h234 (by first | assumption | decide | omega)) kv_X7_come tq_770 h233 rfl (by omega) ⟨rfl, rfl⟩ (by decide) ⟨Nat.le_refl _, Nat.le_refl _⟩ rfl rfl (Nat.le_of_ble_eq_true rfl) (dk dX7_truth 21 rfl) rfl (fun r32 E32 hp32 => ?_)
        obtain ⟨rfl, rfl⟩ := hp32
        refine hret (r (46 + 50 * 1 + 5 * m + 0)) E _ _ (dk dX7_truth 22 rfl) (nint _) ?_
        exact ⟨_, _, _, _, _, _, _, (by unfold sTruth; rw [if_neg (ixN hm (by omega)), nI_c (by omega), if_neg (by decide), if_pos rfl]), h233, h239, h240, h241, h242, (fun j _ => rfl)⟩
      · refine g_if_ne F (q := 20) (tgt := 23) (dk dX7_truth 11 rfl) (by decide) rfl (fun _ => ?_) (fun h => absurd h (by decide))
        refine g_iload_n F (q := 24) (dk dX7_truth 14 rfl) rfl rfl 2 rfl ?_
        refine g_iconst F (q := 25) (v := 2) (dk dX7_truth 15 rfl) rfl (by decide) ?_
        refine g_icmp_ge F (q := 28) (tgt := 36) (dk dX7_truth 16 rfl) (by decide) rfl (fun h => absurd h (by decide)) (fun _ => ?_)
        refine g_aload_n F (q := 29) (dk dX7_truth 17 rfl) rfl rfl 0 rfl ?_
        refine g_iconst F (q := 30) (v := 1) (dk dX7_truth 18 rfl) rfl (by decide) ?_
        refine g_iload_n F (q := 31) (dk dX7_truth 19 rfl) rfl rfl 1 rfl ?_
        refine g_iload_n F (q := 32) (dk dX7_truth 20 rfl) rfl rfl 2 rfl ?_
        refine g_callVI F (q := 35) (av := [.int 1, .int (nI m), .int 1]) (st := []) (c_X7_come (k := 1) (m := m) (w := 1) h233 h234 (by first | assumption | decide | omega)) kv_X7_come tq_770 h233 rfl (by omega) ⟨rfl, rfl⟩ (by decide) ⟨Nat.le_refl _, Nat.le_refl _⟩ rfl rfl (Nat.le_of_ble_eq_true rfl) (dk dX7_truth 21 rfl) rfl (fun r32 E32 hp32 => ?_)
        obtain ⟨rfl, rfl⟩ := hp32
        refine hret (r (46 + 50 * 1 + 5 * m + 1)) E _ _ (dk dX7_truth 22 rfl) (nint _) ?_
        exact ⟨_, _, _, _, _, _, _, (by unfold sTruth; rw [if_neg (ixN hm (by omega)), nI_c (by omega), if_neg (by decide), if_neg (by decide), if_pos rfl]), h233, h239, h240, h241, h242, (fun j _ => rfl)⟩
      · refine g_if_ne F (q := 20) (tgt := 23) (dk dX7_truth 11 rfl) (by decide) rfl (fun _ => ?_) (fun h => absurd h (by decide))
        refine g_iload_n F (q := 24) (dk dX7_truth 14 rfl) rfl rfl 2 rfl ?_
        refine g_iconst F (q := 25) (v := 2) (dk dX7_truth 15 rfl) rfl (by decide) ?_
        refine g_icmp_ge F (q := 28) (tgt := 36) (dk dX7_truth 16 rfl) (by decide) rfl (fun _ => ?_) (fun h => absurd h (by decide))
        refine g_aload_n F (q := 37) (dk dX7_truth 23 rfl) rfl rfl 0 rfl ?_
        refine g_iload_n F (q := 38) (dk dX7_truth 24 rfl) rfl rfl 1 rfl ?_
        refine g_callVI F (q := 41) (av := [.int (nI m)]) (st := []) (c_X7_hearers (kn := m) h233 h234 (by first | assumption | decide | omega) hV) kv_X7_hearers tq_873 h233 rfl (by omega) ⟨rfl, rfl⟩ (by decide) ⟨Nat.le_refl _, Nat.le_refl _⟩ rfl rfl (Nat.le_of_ble_eq_true rfl) (dk dX7_truth 25 rfl) rfl (fun r38 E38 hp38 => ?_)
        obtain ⟨rfl, rfl⟩ := hp38
        have hcl := hC_le (r := r) (kn := m) ne
        refine g_iconst F (q := 42) (v := 2) (dk dX7_truth 26 rfl) rfl (by decide) ?_
        refine g_icmp_ge F (q := 45) (tgt := 50) (dk dX7_truth 27 rfl) (by decide) rfl (fun c42 => ?_) (fun c42 => ?_)
        · have nc42 : 2 ≤ (hC r m ne) := (nI_leI (a := 2) (b := (hC r m ne)) (by omega) (by omega)).mp c42
          have hc0 : 0 < hC r m ne := by omega
          refine g_aload_n F (q := 51) (dk dX7_truth 30 rfl) rfl rfl 0 rfl ?_
          refine g_iload_n F (q := 52) (dk dX7_truth 31 rfl) rfl rfl 1 rfl ?_
          refine g_callVI F (q := 55) (av := [.int (nI m)]) (st := []) (c_X7_placeOf (kn := m) h233 h234 h239 h240 h241 h242 (by first | assumption | decide | omega) hV (by first | assumption | decide | omega)) kv_X7_placeOf tq_877 h233 rfl (by omega) ⟨rfl, rfl⟩ (by decide) ⟨Nat.le_refl _, Nat.le_refl _⟩ rfl rfl (Nat.le_of_ble_eq_true rfl) (dk dX7_truth 32 rfl) rfl (fun r52 E52 hp52 => ?_)
          obtain ⟨m2_52, l2_52, mo2_52, rd1_52, er1_52, th1_52, rt1_52, rfl, hK233_52, hK239_52, hK240_52, hK241_52, hK242_52, hR_52, hF52⟩ := hp52
          refine g_aload_n F (q := 56) (dk dX7_truth 33 rfl) rfl rfl 0 rfl ?_
          refine g_iconst F (q := 57) (v := 1) (dk dX7_truth 34 rfl) rfl (by decide) ?_
          refine g_iload_n F (q := 58) (dk dX7_truth 35 rfl) rfl rfl 1 rfl ?_
          refine g_iconst F (q := 59) (v := 0) (dk dX7_truth 36 rfl) rfl (by decide) ?_
          have hc1 := (hF52 234 (by omega)).trans h234
          refine g_callVI F (q := 62) (av := [.int 1, .int (nI m), .int 0]) (st := [.int (nI ((plc r ne nt m)))]) (c_X7_come (k := 1) (m := m) (w := 0) hK233_52 hc1 (by first | assumption | decide | omega)) kv_X7_come tq_770 hK233_52 rfl (by omega) ⟨rfl, rfl⟩ (by decide) ⟨Nat.le_refl _, Nat.le_refl _⟩ rfl rfl (Nat.le_of_ble_eq_true rfl) (dk dX7_truth 37 rfl) rfl (fun r59 E59 hp59 => ?_)
          obtain ⟨rfl, rfl⟩ := hp59
          refine g_callSI F (q := 65) (av := [.int (nI ((plc r ne nt m))), .int (r (46 + 50 * 1 + 5 * m + 0))]) (st := []) (c_X7_far (a := (nI ((plc r ne nt m)))) (b := (r (46 + 50 * 1 + 5 * m + 0)))) ks_X7_far tq_747 ⟨rfl, rfl⟩ (by decide) ⟨Nat.le_refl _, Nat.le_refl _⟩ rfl rfl (Nat.le_of_ble_eq_true rfl) (dk dX7_truth 38 rfl) rfl (fun r62 E62 hp62 => ?_)
          obtain ⟨rfl, rfl⟩ := hp62
          refine hret (far (nI ((plc r ne nt m))) (r (46 + 50 * 1 + 5 * m + 0))) E52 _ _ (dk dX7_truth 39 rfl) (nint _) ?_
          exact ⟨_, _, _, _, _, _, _, (by unfold sTruth; rw [if_neg (ixN hm (by omega)), nI_c (by omega), if_neg (by decide), if_neg (by decide), if_neg (by decide), if_neg (by omega)]), hK233_52, hK239_52, hK240_52, hK241_52, hK242_52, (fun j hj => (hF52 j (by omega)))⟩
        · have nc42 : ¬ 2 ≤ (hC r m ne) := fun h => c42 ((nI_leI (a := 2) (b := (hC r m ne)) (by omega) (by omega)).mpr h)
          refine g_bipush F (q := 47) (v := (-4)) (dk dX7_truth 28 rfl) rfl (by decide) ?_
          refine g_goto F (tgt := 65) (dk dX7_truth 29 rfl) (by decide) ?_
          refine hret (-4) E _ _ (dk dX7_truth 39 rfl) (nint _) ?_
          exact ⟨_, _, _, _, _, _, _, (by unfold sTruth; rw [if_neg (ixN hm (by omega)), nI_c (by omega), if_neg (by decide), if_neg (by decide), if_neg (by decide), if_pos (by omega)]), h233, h239, h240, h241, h242, (fun j _ => rfl)⟩
    · refine g_if_ne F (q := 20) (tgt := 23) (dk dX7_truth 11 rfl) (by decide) rfl (fun h => absurd h (by decide)) (fun _ => ?_)
      refine g_bipush F (q := 22) (v := (-2)) (dk dX7_truth 12 rfl) rfl (by decide) ?_
      refine hret (-2) E _ _ (dk dX7_truth 13 rfl) (nint _) ?_
      exact ⟨_, _, _, _, _, _, _, (by unfold sTruth; rw [if_neg (ixN hm (by omega)), nI_c (by omega), if_pos b14]), h233, h239, h240, h241, h242, (fun j _ => rfl)⟩
theorem kv_X7_truth : KV yX7_truth "ThumpEarsModel" cX7_truth 3 (some .int) 2 := ⟨tq_904, tq_905, tq_47, tq_906, by decide +kernel⟩
abbrev rm_X7_fitting : Room := { frames := 7, cells := 0, slots := 0, locals := 171 }
set_option maxHeartbeats 4000000 in
set_option maxRecDepth 100000 in
theorem c_X7_fitting {l : Launch} {D : va_G} {cA : Nat → ClassId} {ad : Nat → Nat} {E : Nat → va_E} {s0 s1 s2 s3 s4 s5 : Int32} {lo mo : Int64} {r rd er th : Nat → Int32} {ne nt nk : Nat} {rt : Nat → Int64}  (h233 : E 233 = .inr (7, [.ref (ad 234), .ref (ad 235), .ref (ad 236), .ref (ad 237), .int s0, .int s1, .ref (ad 238), .int s2, .int s3, .int s4, .int s5, .ref (ad 239), .ref (ad 240), .ref (ad 241), .long lo, .long mo, .ref (ad 242)])) (h234 : E 234 = .inl (cA 0, 346, .inl r)) (h239 : E 239 = .inl (cA 0, 10, .inl rd)) (h240 : E 240 = .inl (cA 0, 10, .inl er)) (h241 : E 241 = .inl (cA 0, 10, .inl th)) (h242 : E 242 = .inl (cA 1, 10, .inr (.inl rt)))  (hV : Inv r ne nt nk) : CtI l D cA yX7_fitting cX7_fitting 3 .int rm_X7_fitting 243 ad E [.ref (ad 233)] (fun x E' => ∃ (m2 : Int32) (l2 : Int64) (mo2 : Int64) (rd1 : Nat → Int32) (er1 : Nat → Int32) (th1 : Nat → Int32) (rt1 : Nat → Int64), (nI ((fitN r ne nt nk))) = x ∧ E' 233 = .inr (7, [.ref (ad 234), .ref (ad 235), .ref (ad 236), .ref (ad 237), .int s0, .int s1, .ref (ad 238), .int s2, .int s3, .int s4, .int m2, .ref (ad 239), .ref (ad 240), .ref (ad 241), .long l2, .long mo2, .ref (ad 242)]) ∧ E' 239 = .inl (cA 0, 10, .inl rd1) ∧ E' 240 = .inl (cA 0, 10, .inl er1) ∧ E' 241 = .inl (cA 0, 10, .inl th1) ∧ E' 242 = .inl (cA 1, 10, .inr (.inl rt1)) ∧ ∀ j, (j ≠ 233 ∧ j ≠ 239 ∧ j ≠ 240 ∧ j ≠ 241 ∧ j ≠ 242) → E' j = E j) := by
  refine CtI.of (by decide +kernel) (Nat.le_of_ble_eq_true rfl) (fun X F hret => ?_)
  have F : Fr "ThumpEarsModel" cX7_fitting 3 D cA X := F
  refine (show GG rm_X7_fitting 3 l D X 0 0 243 ad E 0 [(0, .ref (ad 233))] [] from ?_)
  have hnk := hV.e2
  have hne := hV.e0
  have hnt := hV.e1
  refine g_iconst F (q := 1) (v := 0) (dk dX7_fitting 0 rfl) rfl (by decide) ?_
  refine g_istore_n F (q := 2) (lv' := [(1, .int 0), (0, .ref (ad 233))]) (dk dX7_fitting 1 rfl) rfl rfl (Nat.le_of_ble_eq_true rfl) rfl ?_
  refine g_iconst F (q := 3) (v := 0) (dk dX7_fitting 2 rfl) rfl (by decide) ?_
  refine g_istore_n F (q := 4) (lv' := [(2, .int 0), (1, .int 0), (0, .ref (ad 233))]) (dk dX7_fitting 3 rfl) rfl rfl (Nat.le_of_ble_eq_true rfl) rfl ?_
  have K4 : ∀ (fu : Nat) (i : Nat) (m3 : Int32) (l3 : Int64) (mo3 : Int64) (rd2 : Nat → Int32) (er2 : Nat → Int32) (th2 : Nat → Int32) (rt2 : Nat → Int64) (E1 : Nat → va_E), nk - i < fu → (h3 : E1 233 = .inr (7, [.ref (ad 234), .ref (ad 235), .ref (ad 236), .ref (ad 237), .int s0, .int s1, .ref (ad 238), .int s2, .int s3, .int s4, .int m3, .ref (ad 239), .ref (ad 240), .ref (ad 241), .long l3, .long mo3, .ref (ad 242)])) → (h9 : E1 239 = .inl (cA 0, 10, .inl rd2)) → (h40 : E1 240 = .inl (cA 0, 10, .inl er2)) → (h41 : E1 241 = .inl (cA 0, 10, .inl th2)) → (h42 : E1 242 = .inl (cA 1, 10, .inr (.inl rt2))) → (hfr4 : ∀ j, (j ≠ 233 ∧ j ≠ 239 ∧ j ≠ 240 ∧ j ≠ 241 ∧ j ≠ 242) → E1 j = E j) → (hi : i ≤ nk) → GG rm_X7_fitting 3 l D X 0 0 243 ad E1 4 [(0, .ref (ad 233)), (1, .int (nI ((fitN r ne nt i)))), (2, .int (nI i))] [] := by
    intro fu
    induction fu with
    | zero => intro i m3 l3 mo3 rd2 er2 th2 rt2 E1 hfu_; exact absurd hfu_ (Nat.not_lt_zero _)
    | succ fu ih =>
      intro i m3 l3 mo3 rd2 er2 th2 rt2 E1 hfu_ h3 h9 h40 h41 h42 hfr4 hi
      refine g_iload_n F (q := 5) (dk dX7_fitting 4 rfl) rfl rfl 2 rfl ?_
      refine g_aload_n F (q := 6) (dk dX7_fitting 5 rfl) rfl rfl 0 rfl ?_
      refine g_getf F (q := 9) h3 rfl inX7 (by omega) (j := 0) (by decide) tq_623 rfl rfl (dk dX7_fitting 6 rfl) rfl ?_
      refine g_iconst F (q := 10) (v := 2) (dk dX7_fitting 7 rfl) rfl (by decide) ?_
      have hc1 := (hfr4 234 (by omega)).trans h234
      refine g_iald F (q := 11) 2 hc1 (by omega) rfl (by omega) (by decide) (dk dX7_fitting 8 rfl) rfl ?_
      refine g_sti (y := (nI nk)) hV.h2 ?_
      refine g_icmp_ge F (q := 14) (tgt := 48) (dk dX7_fitting 9 rfl) (by decide) rfl (fun c11 => ?_) (fun c11 => ?_)
      · have nc11 : nk ≤ i := (nI_leI (a := nk) (b := i) (by omega) (by omega)).mp c11
        refine g_iload_n F (q := 49) (dk dX7_fitting 30 rfl) rfl rfl 1 rfl ?_
        refine hret (nI ((fitN r ne nt i))) E1 _ _ (dk dX7_fitting 31 rfl) (nint _) ?_
        exact ⟨_, _, _, _, _, _, _, (by rw [show nk = i by omega]), h3, h9, h40, h41, h42, (fun j hj => (hfr4 j (by omega)))⟩
      · have nc11 : ¬ nk ≤ i := fun h => c11 ((nI_leI (a := nk) (b := i) (by omega) (by omega)).mpr h)
        refine g_iload_n F (q := 15) (dk dX7_fitting 10 rfl) rfl rfl 1 rfl ?_
        refine g_aload_n F (q := 16) (dk dX7_fitting 11 rfl) rfl rfl 0 rfl ?_
        refine g_iload_n F (q := 17) (dk dX7_fitting 12 rfl) rfl rfl 2 rfl ?_
        refine g_callVI F (q := 20) (av := [.int (nI i)]) (st := [.int (nI ((fitN r ne nt i)))]) (c_X7_hearers (kn := i) h3 hc1 (by first | assumption | decide | omega) hV) kv_X7_hearers tq_873 h3 rfl (by omega) ⟨rfl, rfl⟩ (by decide) ⟨Nat.le_refl _, Nat.le_refl _⟩ rfl rfl (Nat.le_of_ble_eq_true rfl) (dk dX7_fitting 13 rfl) rfl (fun r17 E17 hp17 => ?_)
        obtain ⟨rfl, rfl⟩ := hp17
        have hcl := hC_le (r := r) (kn := i) ne
        have hki : i < nk := by omega
        refine g_iconst F (q := 21) (v := 1) (dk dX7_fitting 14 rfl) rfl (by decide) ?_
        refine g_icmp_le F (q := 24) (tgt := 39) (dk dX7_fitting 15 rfl) (by decide) rfl (fun c21 => ?_) (fun c21 => ?_)
        · have nc21 : (hC r i ne) ≤ 1 := (nI_leI (a := (hC r i ne)) (b := 1) (by omega) (by omega)).mp c21
          refine g_iconst F (q := 40) (v := 0) (dk dX7_fitting 25 rfl) rfl (by decide) ?_
          refine g_iadd F (q := 41) (dk dX7_fitting 26 rfl) rfl ?_
          refine g_sti (y := (nI ((fitN r ne nt (i + 1))))) (fitN_f hki hnk (Or.inl nc21)) ?_
          refine g_istore_n F (q := 42) (lv' := [(1, .int (nI ((fitN r ne nt (i + 1))))), (0, .ref (ad 233)), (2, .int (nI i))]) (dk dX7_fitting 27 rfl) rfl rfl (Nat.le_of_ble_eq_true rfl) rfl ?_
          refine g_iinc F (q := 45) (v := (nI ((i + 1)))) (lv' := [(2, .int (nI ((i + 1)))), (1, .int (nI ((fitN r ne nt (i + 1))))), (0, .ref (ad 233))]) (dk dX7_fitting 28 rfl) rfl 2 rfl (nI_1 _) (Nat.le_of_ble_eq_true rfl) rfl ?_
          refine g_goto F (tgt := 4) (dk dX7_fitting 29 rfl) (by decide) ?_
          refine g_lv (lv' := [(0, .ref (ad 233)), (1, .int (nI ((fitN r ne nt (i + 1))))), (2, .int (nI ((i + 1))))]) [2, 1, 0] rfl ?_
          exact ih (i + 1) m3 l3 mo3 rd2 er2 th2 rt2 E1 (by omega) h3 h9 h40 h41 h42 (fun j hj => (hfr4 j (by omega))) (by omega)
        · have nc21 : ¬ (hC r i ne) ≤ 1 := fun h => c21 ((nI_leI (a := (hC r i ne)) (b := 1) (by omega) (by omega)).mpr h)
          refine g_aload_n F (q := 25) (dk dX7_fitting 16 rfl) rfl rfl 0 rfl ?_
          refine g_iload_n F (q := 26) (dk dX7_fitting 17 rfl) rfl rfl 2 rfl ?_
          refine g_iconst F (q := 27) (v := 4) (dk dX7_fitting 18 rfl) rfl (by decide) ?_
          refine g_callVL F (q := 30) (av := [.int (nI i), .int 4]) (st := [.int (nI ((fitN r ne nt i)))]) (c_X7_found (kn := (nI i)) (what := 4) h3 hc1 h9 h40 h41 h42 hV) kv_X7_found tq_915 h3 rfl (by omega) ⟨rfl, rfl⟩ (by decide) ⟨Nat.le_refl _, Nat.le_refl _⟩ rfl rfl (Nat.le_of_ble_eq_true rfl) (dk dX7_fitting 19 rfl) rfl (fun r27 E27 hp27 => ?_)
          obtain ⟨m2_27, l2_27, mo2_27, rd1_27, er1_27, th1_27, rt1_27, rfl, hK233_27, hK239_27, hK240_27, hK241_27, hK242_27, hF27⟩ := hp27
          refine g_lconst F (q := 31) (v := 1) (dk dX7_fitting 20 rfl) rfl (by decide) ?_
          refine g_lcmp_ne F (q := 35) (tgt := 39) (dk dX7_fitting 21 rfl) (dk dX7_fitting 22 rfl) (by decide) rfl (fun c31 => ?_) (fun c31 => ?_)
          · refine g_iconst F (q := 40) (v := 0) (dk dX7_fitting 25 rfl) rfl (by decide) ?_
            refine g_iadd F (q := 41) (dk dX7_fitting 26 rfl) rfl ?_
            refine g_sti (y := (nI ((fitN r ne nt (i + 1))))) (fitN_f hki hnk (Or.inr c31)) ?_
            refine g_istore_n F (q := 42) (lv' := [(1, .int (nI ((fitN r ne nt (i + 1))))), (0, .ref (ad 233)), (2, .int (nI i))]) (dk dX7_fitting 27 rfl) rfl rfl (Nat.le_of_ble_eq_true rfl) rfl ?_
            refine g_iinc F (q := 45) (v := (nI ((i + 1)))) (lv' := [(2, .int (nI ((i + 1)))), (1, .int (nI ((fitN r ne nt (i + 1))))), (0, .ref (ad 233))]) (dk dX7_fitting 28 rfl) rfl 2 rfl (nI_1 _) (Nat.le_of_ble_eq_true rfl) rfl ?_
            refine g_goto F (tgt := 4) (dk dX7_fitting 29 rfl) (by decide) ?_
            refine g_lv (lv' := [(0, .ref (ad 233)), (1, .int (nI ((fitN r ne nt (i + 1))))), (2, .int (nI ((i + 1))))]) [2, 1, 0] rfl ?_
            exact ih (i + 1) m2_27 l2_27 mo2_27 rd1_27 er1_27 th1_27 rt1_27 E27 (by omega) hK233_27 hK239_27 hK240_27 hK241_27 hK242_27 (fun j hj => ((hF27 j (by omega)).trans (hfr4 j (by omega)))) (by omega)
          · refine g_iconst F (q := 36) (v := 1) (dk dX7_fitting 23 rfl) rfl (by decide) ?_
            refine g_goto F (tgt := 40) (dk dX7_fitting 24 rfl) (by decide) ?_
            refine g_iadd F (q := 41) (dk dX7_fitting 26 rfl) rfl ?_
            refine g_sti (y := (nI ((fitN r ne nt (i + 1))))) (fitN_t hki hnk nc21 c31) ?_
            refine g_istore_n F (q := 42) (lv' := [(1, .int (nI ((fitN r ne nt (i + 1))))), (0, .ref (ad 233)), (2, .int (nI i))]) (dk dX7_fitting 27 rfl) rfl rfl (Nat.le_of_ble_eq_true rfl) rfl ?_
            refine g_iinc F (q := 45) (v := (nI ((i + 1)))) (lv' := [(2, .int (nI ((i + 1)))), (1, .int (nI ((fitN r ne nt (i + 1))))), (0, .ref (ad 233))]) (dk dX7_fitting 28 rfl) rfl 2 rfl (nI_1 _) (Nat.le_of_ble_eq_true rfl) rfl ?_
            refine g_goto F (tgt := 4) (dk dX7_fitting 29 rfl) (by decide) ?_
            refine g_lv (lv' := [(0, .ref (ad 233)), (1, .int (nI ((fitN r ne nt (i + 1))))), (2, .int (nI ((i + 1))))]) [2, 1, 0] rfl ?_
            exact ih (i + 1) m2_27 l2_27 mo2_27 rd1_27 er1_27 th1_27 rt1_27 E27 (by omega) hK233_27 hK239_27 hK240_27 hK241_27 hK242_27 (fun j hj => ((hF27 j (by omega)).trans (hfr4 j (by omega)))) (by omega)
  refine g_lv (lv' := [(0, .ref (ad 233)), (1, .int 0), (2, .int 0)]) [2, 1, 0] rfl ?_
  exact K4 _ 0 s5 lo mo rd er th rt E (Nat.lt_succ_self _) h233 h239 h240 h241 h242 (fun j _ => rfl) (by omega)
theorem kv_X7_fitting : KV yX7_fitting "ThumpEarsModel" cX7_fitting 3 (some .int) 0 := ⟨tq_913, tq_38, tq_47, tq_914, by decide +kernel⟩
abbrev rm_X7_ear : Room := { frames := 2, cells := 0, slots := 0, locals := 46 }
set_option maxHeartbeats 4000000 in
set_option maxRecDepth 100000 in
theorem c_X7_ear {l : Launch} {D : va_G} {cA : Nat → ClassId} {ad : Nat → Nat} {E : Nat → va_E} {s0 s1 s2 s3 s4 s5 : Int32} {lo mo : Int64} {r rd er th : Nat → Int32} {ne nt nk : Nat} {ear what : Int32} (h233 : E 233 = .inr (7, [.ref (ad 234), .ref (ad 235), .ref (ad 236), .ref (ad 237), .int s0, .int s1, .ref (ad 238), .int s2, .int s3, .int s4, .int s5, .ref (ad 239), .ref (ad 240), .ref (ad 241), .long lo, .long mo, .ref (ad 242)])) (h234 : E 234 = .inl (cA 0, 346, .inl r)) (h239 : E 239 = .inl (cA 0, 10, .inl rd)) (h240 : E 240 = .inl (cA 0, 10, .inl er)) (h241 : E 241 = .inl (cA 0, 10, .inl th))  (hV : Inv r ne nt nk) : CtI l D cA yX7_ear cX7_ear 3 .int rm_X7_ear 243 ad E [.ref (ad 233), .int ear, .int what] (fun x E' => ∃ (m2 : Int32) (rd1 : Nat → Int32) (er1 : Nat → Int32) (th1 : Nat → Int32), (sEar r ne nt nk ear what) = x ∧ E' 233 = .inr (7, [.ref (ad 234), .ref (ad 235), .ref (ad 236), .ref (ad 237), .int s0, .int s1, .ref (ad 238), .int s2, .int s3, .int s4, .int m2, .ref (ad 239), .ref (ad 240), .ref (ad 241), .long lo, .long mo, .ref (ad 242)]) ∧ E' 239 = .inl (cA 0, 10, .inl rd1) ∧ E' 240 = .inl (cA 0, 10, .inl er1) ∧ E' 241 = .inl (cA 0, 10, .inl th1) ∧ ∀ j, (j ≠ 233 ∧ j ≠ 239 ∧ j ≠ 240 ∧ j ≠ 241) → E' j = E j) := by
  refine CtI.of (by decide +kernel) (Nat.le_of_ble_eq_true rfl) (fun X F hret => ?_)
  have F : Fr "ThumpEarsModel" cX7_ear 3 D cA X := F
  refine (show GG rm_X7_ear 3 l D X 0 0 243 ad E 0 [(0, .ref (ad 233)), (1, .int ear), (2, .int what)] [] from ?_)
  have hnk := hV.e2
  have hne := hV.e0
  have hnt := hV.e1
  refine g_aload_n F (q := 1) (dk dX7_ear 0 rfl) rfl rfl 0 rfl ?_
  refine g_iload_n F (q := 2) (dk dX7_ear 1 rfl) rfl rfl 1 rfl ?_
  refine g_callVI F (q := 5) (av := [.int ear]) (st := []) (c_X7_noEar (ear := ear) h233 h234 hV.h0 hV.e0) kv_X7_noEar tq_714 h233 rfl (by omega) ⟨rfl, rfl⟩ (by decide) ⟨Nat.le_refl _, Nat.le_refl _⟩ rfl rfl (Nat.le_of_ble_eq_true rfl) (dk dX7_ear 2 rfl) rfl (fun r2 E2 hp2 => ?_)
  rcases hp2 with ⟨rfl, rfl, b2⟩ | ⟨rfl, rfl, b2⟩
  · refine g_if_eq F (q := 8) (tgt := 10) (dk dX7_ear 3 rfl) (by decide) rfl (fun h => absurd h (by decide)) (fun _ => ?_)
    refine g_iconst F (q := 9) (v := (-1)) (dk dX7_ear 4 rfl) rfl (by decide) ?_
    refine hret (-1) E _ _ (dk dX7_ear 5 rfl) (nint _) ?_
    exact ⟨_, _, _, _, (by unfold sEar; rw [if_pos b2]), h233, h239, h240, h241, (fun j _ => rfl)⟩
  · obtain ⟨e, he, rfl⟩ := b2
    refine g_if_eq F (q := 8) (tgt := 10) (dk dX7_ear 3 rfl) (by decide) rfl (fun _ => ?_) (fun h => absurd h (by decide))
    refine g_aload_n F (q := 11) (dk dX7_ear 6 rfl) rfl rfl 0 rfl ?_
    refine g_iload_n F (q := 12) (dk dX7_ear 7 rfl) rfl rfl 1 rfl ?_
    refine g_callVV F (q := 15) (av := [.int (nI e)]) (st := []) (c_X7_findMarks (e := e) h233 h234 h239 h240 h241 (by first | assumption | decide | omega) hV.h1 hV.e1) kv_X7_findMarks tq_818 h233 rfl (by omega) ⟨rfl, rfl⟩ (by decide) ⟨Nat.le_refl _, Nat.le_refl _⟩ rfl rfl (Nat.le_of_ble_eq_true rfl) (dk dX7_ear 8 rfl) rfl (fun E12 hp12 => ?_)
    obtain ⟨rd1_12, er1_12, th1_12, hK233_12, hK239_12, hK240_12, hK241_12, hH_12, hF12⟩ := hp12
    have hml := mC_le (r := r) (e := e) nt
    refine g_iload_n F (q := 16) (dk dX7_ear 9 rfl) rfl rfl 2 rfl ?_
    rcases sw_split what (0) 6 with hsw | ⟨jsw, hlt, hsw⟩
    · refine g_tabOut F (tgt := 135) (dk dX7_ear 10 rfl) (by omega) (by decide) ?_
      have hq0 : ¬ what = 0 := fun h => by rw [h] at hsw; revert hsw; decide
      have hq1 : ¬ what = 1 := fun h => by rw [h] at hsw; revert hsw; decide
      have hq2 : ¬ what = 2 := fun h => by rw [h] at hsw; revert hsw; decide
      have hq3 : ¬ what = 3 := fun h => by rw [h] at hsw; revert hsw; decide
      have hq4 : ¬ what = 4 := fun h => by rw [h] at hsw; revert hsw; decide
      have hq5 : ¬ what = 5 := fun h => by rw [h] at hsw; revert hsw; decide
      have hq6 : ¬ what = 6 := fun h => by rw [h] at hsw; revert hsw; decide
      refine g_bipush F (q := 137) (v := (-2)) (dk dX7_ear 57 rfl) rfl (by decide) ?_
      refine hret (-2) E12 _ _ (dk dX7_ear 58 rfl) (nint _) ?_
      exact ⟨_, _, _, _, (by unfold sEar; rw [if_neg (ixN he (by omega)), nI_c (by omega), if_neg hq0, if_neg hq1, if_neg hq2, if_neg hq3, if_neg hq4, if_neg hq5, if_neg hq6]), hK233_12, hK239_12, hK240_12, hK241_12, (fun j hj => (hF12 j (by omega)))⟩
    · rcases (show jsw = 0 ∨ jsw = 1 ∨ jsw = 2 ∨ jsw = 3 ∨ jsw = 4 ∨ jsw = 5 ∨ jsw = 6 by omega) with rfl | rfl | rfl | rfl | rfl | rfl | rfl
      · have hx : what = 0 := by rw [hsw]; decide
        refine g_tabIn F (tgt := 60) (off := 44) (dk dX7_ear 10 rfl) (by rw [hx]; decide) (by rw [hx]; decide) (by rw [hx]; decide) (by decide) ?_
        refine g_aload_n F (q := 61) (dk dX7_ear 11 rfl) rfl rfl 0 rfl ?_
        refine g_iload_n F (q := 62) (dk dX7_ear 12 rfl) rfl rfl 1 rfl ?_
        refine g_iconst F (q := 63) (v := 0) (dk dX7_ear 13 rfl) rfl (by decide) ?_
        have hc1 := (hF12 234 (by omega)).trans h234
        refine g_callVI F (q := 66) (av := [.int (nI e), .int 0]) (st := []) (c_X7_of (e := e) (w := 0) hK233_12 hc1 (by first | assumption | decide | omega)) kv_X7_of tq_718 hK233_12 rfl (by omega) ⟨rfl, rfl⟩ (by decide) ⟨Nat.le_refl _, Nat.le_refl _⟩ rfl rfl (Nat.le_of_ble_eq_true rfl) (dk dX7_ear 14 rfl) rfl (fun r63 E63 hp63 => ?_)
        obtain ⟨rfl, rfl⟩ := hp63
        refine hret (r (6 + 4 * e + 0)) E12 _ _ (dk dX7_ear 15 rfl) (nint _) ?_
        exact ⟨_, _, _, _, (by unfold sEar; rw [hx, if_neg (ixN he (by omega)), nI_c (by omega), if_pos rfl]), hK233_12, hK239_12, hK240_12, hK241_12, (fun j hj => (hF12 j (by omega)))⟩
      · have hx : what = 1 := by rw [hsw]; decide
        refine g_tabIn F (tgt := 67) (off := 51) (dk dX7_ear 10 rfl) (by rw [hx]; decide) (by rw [hx]; decide) (by rw [hx]; decide) (by decide) ?_
        refine g_aload_n F (q := 68) (dk dX7_ear 16 rfl) rfl rfl 0 rfl ?_
        refine g_iload_n F (q := 69) (dk dX7_ear 17 rfl) rfl rfl 1 rfl ?_
        refine g_iconst F (q := 70) (v := 1) (dk dX7_ear 18 rfl) rfl (by decide) ?_
        have hc2 := (hF12 234 (by omega)).trans h234
        refine g_callVI F (q := 73) (av := [.int (nI e), .int 1]) (st := []) (c_X7_of (e := e) (w := 1) hK233_12 hc2 (by first | assumption | decide | omega)) kv_X7_of tq_718 hK233_12 rfl (by omega) ⟨rfl, rfl⟩ (by decide) ⟨Nat.le_refl _, Nat.le_refl _⟩ rfl rfl (Nat.le_of_ble_eq_true rfl) (dk dX7_ear 19 rfl) rfl (fun r70 E70 hp70 => ?_)
        obtain ⟨rfl, rfl⟩ := hp70
        refine hret (r (6 + 4 * e + 1)) E12 _ _ (dk dX7_ear 20 rfl) (nint _) ?_
        exact ⟨_, _, _, _, (by unfold sEar; rw [hx, if_neg (ixN he (by omega)), nI_c (by omega), if_neg (by decide), if_pos rfl]), hK233_12, hK239_12, hK240_12, hK241_12, (fun j hj => (hF12 j (by omega)))⟩
      · have hx : what = 2 := by rw [hsw]; decide
        refine g_tabIn F (tgt := 74) (off := 58) (dk dX7_ear 10 rfl) (by rw [hx]; decide) (by rw [hx]; decide) (by rw [hx]; decide) (by decide) ?_
        refine g_aload_n F (q := 75) (dk dX7_ear 21 rfl) rfl rfl 0 rfl ?_
        refine g_iload_n F (q := 76) (dk dX7_ear 22 rfl) rfl rfl 1 rfl ?_
        refine g_iconst F (q := 77) (v := 2) (dk dX7_ear 23 rfl) rfl (by decide) ?_
        have hc3 := (hF12 234 (by omega)).trans h234
        refine g_callVI F (q := 80) (av := [.int (nI e), .int 2]) (st := []) (c_X7_of (e := e) (w := 2) hK233_12 hc3 (by first | assumption | decide | omega)) kv_X7_of tq_718 hK233_12 rfl (by omega) ⟨rfl, rfl⟩ (by decide) ⟨Nat.le_refl _, Nat.le_refl _⟩ rfl rfl (Nat.le_of_ble_eq_true rfl) (dk dX7_ear 24 rfl) rfl (fun r77 E77 hp77 => ?_)
        obtain ⟨rfl, rfl⟩ := hp77
        refine g_sipush F (q := 83) (v := 1000) (dk dX7_ear 25 rfl) rfl (by decide) ?_
        refine g_iadd F (q := 84) (dk dX7_ear 26 rfl) rfl ?_
        refine hret ((r (6 + 4 * e + 2)) + 1000) E12 _ _ (dk dX7_ear 27 rfl) (nint _) ?_
        exact ⟨_, _, _, _, (by unfold sEar; rw [hx, if_neg (ixN he (by omega)), nI_c (by omega), if_neg (by decide), if_neg (by decide), if_pos rfl]), hK233_12, hK239_12, hK240_12, hK241_12, (fun j hj => (hF12 j (by omega)))⟩
      · have hx : what = 3 := by rw [hsw]; decide
        refine g_tabIn F (tgt := 85) (off := 69) (dk dX7_ear 10 rfl) (by rw [hx]; decide) (by rw [hx]; decide) (by rw [hx]; decide) (by decide) ?_
        refine g_aload_n F (q := 86) (dk dX7_ear 28 rfl) rfl rfl 0 rfl ?_
        refine g_iload_n F (q := 87) (dk dX7_ear 29 rfl) rfl rfl 1 rfl ?_
        refine g_iconst F (q := 88) (v := 3) (dk dX7_ear 30 rfl) rfl (by decide) ?_
        have hc4 := (hF12 234 (by omega)).trans h234
        refine g_callVI F (q := 91) (av := [.int (nI e), .int 3]) (st := []) (c_X7_of (e := e) (w := 3) hK233_12 hc4 (by first | assumption | decide | omega)) kv_X7_of tq_718 hK233_12 rfl (by omega) ⟨rfl, rfl⟩ (by decide) ⟨Nat.le_refl _, Nat.le_refl _⟩ rfl rfl (Nat.le_of_ble_eq_true rfl) (dk dX7_ear 31 rfl) rfl (fun r88 E88 hp88 => ?_)
        obtain ⟨rfl, rfl⟩ := hp88
        refine g_sipush F (q := 94) (v := 1000) (dk dX7_ear 32 rfl) rfl (by decide) ?_
        refine g_iadd F (q := 95) (dk dX7_ear 33 rfl) rfl ?_
        refine hret ((r (6 + 4 * e + 3)) + 1000) E12 _ _ (dk dX7_ear 34 rfl) (nint _) ?_
        exact ⟨_, _, _, _, (by unfold sEar; rw [hx, if_neg (ixN he (by omega)), nI_c (by omega), if_neg (by decide), if_neg (by decide), if_neg (by decide), if_pos rfl]), hK233_12, hK239_12, hK240_12, hK241_12, (fun j hj => (hF12 j (by omega)))⟩
      · have hx : what = 4 := by rw [hsw]; decide
        refine g_tabIn F (tgt := 96) (off := 80) (dk dX7_ear 10 rfl) (by rw [hx]; decide) (by rw [hx]; decide) (by rw [hx]; decide) (by decide) ?_
        refine g_aload_n F (q := 97) (dk dX7_ear 35 rfl) rfl rfl 0 rfl ?_
        refine g_getf F (q := 100) hK233_12 rfl inX7 (by omega) (j := 10) (by decide) tq_633 rfl rfl (dk dX7_ear 36 rfl) rfl ?_
        refine hret (nI ((mC r e nt))) E12 _ _ (dk dX7_ear 37 rfl) (nint _) ?_
        exact ⟨_, _, _, _, (by unfold sEar; rw [hx, if_neg (ixN he (by omega)), nI_c (by omega), if_neg (by decide), if_neg (by decide), if_neg (by decide), if_neg (by decide), if_pos rfl]), hK233_12, hK239_12, hK240_12, hK241_12, (fun j hj => (hF12 j (by omega)))⟩
      · have hx : what = 5 := by rw [hsw]; decide
        refine g_tabIn F (tgt := 101) (off := 85) (dk dX7_ear 10 rfl) (by rw [hx]; decide) (by rw [hx]; decide) (by rw [hx]; decide) (by decide) ?_
        refine g_aload_n F (q := 102) (dk dX7_ear 38 rfl) rfl rfl 0 rfl ?_
        refine g_getf F (q := 105) hK233_12 rfl inX7 (by omega) (j := 10) (by decide) tq_633 rfl rfl (dk dX7_ear 39 rfl) rfl ?_
        refine g_if_ne F (q := 108) (tgt := 113) (dk dX7_ear 40 rfl) (by decide) rfl (fun c105 => ?_) (fun c105 => ?_)
        · have nc105 : ¬ (mC r e nt) = 0 := fun h => c105 ((nI_eq (a := (mC r e nt)) (b := 0) (by omega) (by omega)).mpr h)
          refine g_aload_n F (q := 114) (dk dX7_ear 43 rfl) rfl rfl 0 rfl ?_
          refine g_getf F (q := 117) hK233_12 rfl inX7 (by omega) (j := 11) (by decide) tq_634 rfl rfl (dk dX7_ear 44 rfl) rfl ?_
          refine g_aload_n F (q := 118) (dk dX7_ear 45 rfl) rfl rfl 0 rfl ?_
          refine g_getf F (q := 121) hK233_12 rfl inX7 (by omega) (j := 10) (by decide) tq_633 rfl rfl (dk dX7_ear 46 rfl) rfl ?_
          refine g_iconst F (q := 122) (v := 1) (dk dX7_ear 47 rfl) rfl (by decide) ?_
          refine g_isub F (q := 123) (dk dX7_ear 48 rfl) rfl ?_
          refine g_sti (y := (nI ((mC r e nt - 1)))) (nI_sub1 (by omega)) ?_
          refine g_iald F (q := 124) ((mC r e nt - 1)) hK239_12 (by omega) rfl (by omega) (by decide) (dk dX7_ear 49 rfl) rfl ?_
          refine g_sti (y := (mRd r e nt (mC r e nt - 1))) (hH_12 _ (by omega)).1 ?_
          refine g_sipush F (q := 127) (v := 10000) (dk dX7_ear 50 rfl) rfl (by decide) ?_
          refine g_iadd F (q := 128) (dk dX7_ear 51 rfl) rfl ?_
          refine hret ((mRd r e nt (mC r e nt - 1)) + 10000) E12 _ _ (dk dX7_ear 52 rfl) (nint _) ?_
          exact ⟨_, _, _, _, (by unfold sEar; rw [hx, if_neg (ixN he (by omega)), nI_c (by omega), if_neg (by decide), if_neg (by decide), if_neg (by decide), if_neg (by decide), if_neg (by decide), if_pos rfl, if_neg nc105]), hK233_12, hK239_12, hK240_12, hK241_12, (fun j hj => (hF12 j (by omega)))⟩
        · have nc105 : (mC r e nt) = 0 := (nI_eq (a := (mC r e nt)) (b := 0) (by omega) (by omega)).mp c105
          refine g_bipush F (q := 110) (v := (-5)) (dk dX7_ear 41 rfl) rfl (by decide) ?_
          refine g_goto F (tgt := 128) (dk dX7_ear 42 rfl) (by decide) ?_
          refine hret (-5) E12 _ _ (dk dX7_ear 52 rfl) (nint _) ?_
          exact ⟨_, _, _, _, (by unfold sEar; rw [hx, if_neg (ixN he (by omega)), nI_c (by omega), if_neg (by decide), if_neg (by decide), if_neg (by decide), if_neg (by decide), if_neg (by decide), if_pos rfl, if_pos nc105]), hK233_12, hK239_12, hK240_12, hK241_12, (fun j hj => (hF12 j (by omega)))⟩
      · have hx : what = 6 := by rw [hsw]; decide
        refine g_tabIn F (tgt := 129) (off := 113) (dk dX7_ear 10 rfl) (by rw [hx]; decide) (by rw [hx]; decide) (by rw [hx]; decide) (by decide) ?_
        refine g_aload_n F (q := 130) (dk dX7_ear 53 rfl) rfl rfl 0 rfl ?_
        refine g_iload_n F (q := 131) (dk dX7_ear 54 rfl) rfl rfl 1 rfl ?_
        have hc5 := (hF12 234 (by omega)).trans h234
        refine g_callVI F (q := 134) (av := [.int (nI e)]) (st := []) (c_X7_knocksHeard (e := e) hK233_12 hc5 (by first | assumption | decide | omega) hV) kv_X7_knocksHeard tq_826 hK233_12 rfl (by omega) ⟨rfl, rfl⟩ (by decide) ⟨Nat.le_refl _, Nat.le_refl _⟩ rfl rfl (Nat.le_of_ble_eq_true rfl) (dk dX7_ear 55 rfl) rfl (fun r131 E131 hp131 => ?_)
        obtain ⟨rfl, rfl⟩ := hp131
        refine hret (nI ((kC r e nk))) E12 _ _ (dk dX7_ear 56 rfl) (nint _) ?_
        exact ⟨_, _, _, _, (by unfold sEar; rw [hx, if_neg (ixN he (by omega)), nI_c (by omega), if_neg (by decide), if_neg (by decide), if_neg (by decide), if_neg (by decide), if_neg (by decide), if_neg (by decide), if_pos rfl]), hK233_12, hK239_12, hK240_12, hK241_12, (fun j hj => (hF12 j (by omega)))⟩
theorem kv_X7_ear : KV yX7_ear "ThumpEarsModel" cX7_ear 3 (some .int) 2 := ⟨tq_815, tq_816, tq_47, tq_817, by decide +kernel⟩
abbrev rm_X7_count : Room := { frames := 8, cells := 0, slots := 0, locals := 193 }
set_option maxHeartbeats 4000000 in
set_option maxRecDepth 100000 in
theorem c_X7_count {l : Launch} {D : va_G} {cA : Nat → ClassId} {ad : Nat → Nat} {E : Nat → va_E} {s1 s3 s4 s5 : Int32} {lo mo : Int64} {nh ln : Nat} {r rd er th : Nat → Int32} {ne nt nk : Nat} {rt : Nat → Int64} {what : Int32} (h233 : E 233 = .inr (7, [.ref (ad 234), .ref (ad 235), .ref (ad 236), .ref (ad 237), .int (nI nh), .int s1, .ref (ad 238), .int (nI ln), .int s3, .int s4, .int s5, .ref (ad 239), .ref (ad 240), .ref (ad 241), .long lo, .long mo, .ref (ad 242)])) (h234 : E 234 = .inl (cA 0, 346, .inl r)) (h239 : E 239 = .inl (cA 0, 10, .inl rd)) (h240 : E 240 = .inl (cA 0, 10, .inl er)) (h241 : E 241 = .inl (cA 0, 10, .inl th)) (h242 : E 242 = .inl (cA 1, 10, .inr (.inl rt)))  (hV : Inv r ne nt nk) : CtI l D cA yX7_count cX7_count 2 .int rm_X7_count 243 ad E [.ref (ad 233), .int what] (fun x E' => ∃ (m2 : Int32) (l2 : Int64) (mo2 : Int64) (rd1 : Nat → Int32) (er1 : Nat → Int32) (th1 : Nat → Int32) (rt1 : Nat → Int64), (sCount r ne nt nk nh ln what) = x ∧ E' 233 = .inr (7, [.ref (ad 234), .ref (ad 235), .ref (ad 236), .ref (ad 237), .int (nI nh), .int s1, .ref (ad 238), .int (nI ln), .int s3, .int s4, .int m2, .ref (ad 239), .ref (ad 240), .ref (ad 241), .long l2, .long mo2, .ref (ad 242)]) ∧ E' 239 = .inl (cA 0, 10, .inl rd1) ∧ E' 240 = .inl (cA 0, 10, .inl er1) ∧ E' 241 = .inl (cA 0, 10, .inl th1) ∧ E' 242 = .inl (cA 1, 10, .inr (.inl rt1)) ∧ ∀ j, (j ≠ 233 ∧ j ≠ 239 ∧ j ≠ 240 ∧ j ≠ 241 ∧ j ≠ 242) → E' j = E j) := by
  refine CtI.of (by decide +kernel) (Nat.le_of_ble_eq_true rfl) (fun X F hret => ?_)
  have F : Fr "ThumpEarsModel" cX7_count 2 D cA X := F
  refine (show GG rm_X7_count 2 l D X 0 0 243 ad E 0 [(0, .ref (ad 233)), (1, .int what)] [] from ?_)
  have hnk := hV.e2
  have hne := hV.e0
  have hnt := hV.e1
  refine g_iload_n F (q := 1) (dk dX7_count 0 rfl) rfl rfl 1 rfl ?_
  rcases sw_split what (0) 10 with hsw | ⟨jsw, hlt, hsw⟩
  · refine g_tabOut F (tgt := 92) (dk dX7_count 1 rfl) (by omega) (by decide) ?_
    have hq0 : ¬ what = 0 := fun h => by rw [h] at hsw; revert hsw; decide
    have hq1 : ¬ what = 1 := fun h => by rw [h] at hsw; revert hsw; decide
    have hq2 : ¬ what = 2 := fun h => by rw [h] at hsw; revert hsw; decide
    have hq3 : ¬ what = 3 := fun h => by rw [h] at hsw; revert hsw; decide
    have hq4 : ¬ what = 4 := fun h => by rw [h] at hsw; revert hsw; decide
    have hq5 : ¬ what = 5 := fun h => by rw [h] at hsw; revert hsw; decide
    have hq6 : ¬ what = 6 := fun h => by rw [h] at hsw; revert hsw; decide
    have hq7 : ¬ what = 7 := fun h => by rw [h] at hsw; revert hsw; decide
    have hq8 : ¬ what = 8 := fun h => by rw [h] at hsw; revert hsw; decide
    have hq9 : ¬ what = 9 := fun h => by rw [h] at hsw; revert hsw; decide
    have hq10 : ¬ what = 10 := fun h => by rw [h] at hsw; revert hsw; decide
    refine g_bipush F (q := 94) (v := (-2)) (dk dX7_count 22 rfl) rfl (by decide) ?_
    refine hret (-2) E _ _ (dk dX7_count 23 rfl) (nint _) ?_
    exact ⟨_, _, _, _, _, _, _, (by unfold sCount; rw [if_neg hq0, if_neg hq1, if_neg hq2, if_neg hq3, if_neg hq4, if_neg hq5, if_neg hq6, if_neg hq7, if_neg hq8, if_neg hq9, if_neg hq10]), h233, h239, h240, h241, h242, (fun j _ => rfl)⟩
  · rcases (show jsw = 0 ∨ jsw = 1 ∨ jsw = 2 ∨ jsw = 3 ∨ jsw = 4 ∨ jsw = 5 ∨ jsw = 6 ∨ jsw = 7 ∨ jsw = 8 ∨ jsw = 9 ∨ jsw = 10 by omega) with rfl | rfl | rfl | rfl | rfl | rfl | rfl | rfl | rfl | rfl | rfl
    · have hx : what = 0 := by rw [hsw]; decide
      refine g_tabIn F (tgt := 60) (off := 59) (dk dX7_count 1 rfl) (by rw [hx]; decide) (by rw [hx]; decide) (by rw [hx]; decide) (by decide) ?_
      refine g_aload_n F (q := 61) (dk dX7_count 2 rfl) rfl rfl 0 rfl ?_
      refine g_getf F (q := 64) h233 rfl inX7 (by omega) (j := 0) (by decide) tq_623 rfl rfl (dk dX7_count 3 rfl) rfl ?_
      refine g_iload_n F (q := 65) (dk dX7_count 4 rfl) rfl rfl 1 rfl ?_
      refine g_iald F (q := 66) 0 h234 (by omega) hx (by omega) (by decide) (dk dX7_count 5 rfl) rfl ?_
      refine hret (r 0) E _ _ (dk dX7_count 6 rfl) (nint _) ?_
      exact ⟨_, _, _, _, _, _, _, (by unfold sCount; rw [hx, if_pos rfl]), h233, h239, h240, h241, h242, (fun j _ => rfl)⟩
    · have hx : what = 1 := by rw [hsw]; decide
      refine g_tabIn F (tgt := 60) (off := 59) (dk dX7_count 1 rfl) (by rw [hx]; decide) (by rw [hx]; decide) (by rw [hx]; decide) (by decide) ?_
      refine g_aload_n F (q := 61) (dk dX7_count 2 rfl) rfl rfl 0 rfl ?_
      refine g_getf F (q := 64) h233 rfl inX7 (by omega) (j := 0) (by decide) tq_623 rfl rfl (dk dX7_count 3 rfl) rfl ?_
      refine g_iload_n F (q := 65) (dk dX7_count 4 rfl) rfl rfl 1 rfl ?_
      refine g_iald F (q := 66) 1 h234 (by omega) hx (by omega) (by decide) (dk dX7_count 5 rfl) rfl ?_
      refine hret (r 1) E _ _ (dk dX7_count 6 rfl) (nint _) ?_
      exact ⟨_, _, _, _, _, _, _, (by unfold sCount; rw [hx, if_neg (by decide), if_pos rfl]), h233, h239, h240, h241, h242, (fun j _ => rfl)⟩
    · have hx : what = 2 := by rw [hsw]; decide
      refine g_tabIn F (tgt := 60) (off := 59) (dk dX7_count 1 rfl) (by rw [hx]; decide) (by rw [hx]; decide) (by rw [hx]; decide) (by decide) ?_
      refine g_aload_n F (q := 61) (dk dX7_count 2 rfl) rfl rfl 0 rfl ?_
      refine g_getf F (q := 64) h233 rfl inX7 (by omega) (j := 0) (by decide) tq_623 rfl rfl (dk dX7_count 3 rfl) rfl ?_
      refine g_iload_n F (q := 65) (dk dX7_count 4 rfl) rfl rfl 1 rfl ?_
      refine g_iald F (q := 66) 2 h234 (by omega) hx (by omega) (by decide) (dk dX7_count 5 rfl) rfl ?_
      refine hret (r 2) E _ _ (dk dX7_count 6 rfl) (nint _) ?_
      exact ⟨_, _, _, _, _, _, _, (by unfold sCount; rw [hx, if_neg (by decide), if_neg (by decide), if_pos rfl]), h233, h239, h240, h241, h242, (fun j _ => rfl)⟩
    · have hx : what = 3 := by rw [hsw]; decide
      refine g_tabIn F (tgt := 60) (off := 59) (dk dX7_count 1 rfl) (by rw [hx]; decide) (by rw [hx]; decide) (by rw [hx]; decide) (by decide) ?_
      refine g_aload_n F (q := 61) (dk dX7_count 2 rfl) rfl rfl 0 rfl ?_
      refine g_getf F (q := 64) h233 rfl inX7 (by omega) (j := 0) (by decide) tq_623 rfl rfl (dk dX7_count 3 rfl) rfl ?_
      refine g_iload_n F (q := 65) (dk dX7_count 4 rfl) rfl rfl 1 rfl ?_
      refine g_iald F (q := 66) 3 h234 (by omega) hx (by omega) (by decide) (dk dX7_count 5 rfl) rfl ?_
      refine hret (r 3) E _ _ (dk dX7_count 6 rfl) (nint _) ?_
      exact ⟨_, _, _, _, _, _, _, (by unfold sCount; rw [hx, if_neg (by decide), if_neg (by decide), if_neg (by decide), if_pos rfl]), h233, h239, h240, h241, h242, (fun j _ => rfl)⟩
    · have hx : what = 4 := by rw [hsw]; decide
      refine g_tabIn F (tgt := 60) (off := 59) (dk dX7_count 1 rfl) (by rw [hx]; decide) (by rw [hx]; decide) (by rw [hx]; decide) (by decide) ?_
      refine g_aload_n F (q := 61) (dk dX7_count 2 rfl) rfl rfl 0 rfl ?_
      refine g_getf F (q := 64) h233 rfl inX7 (by omega) (j := 0) (by decide) tq_623 rfl rfl (dk dX7_count 3 rfl) rfl ?_
      refine g_iload_n F (q := 65) (dk dX7_count 4 rfl) rfl rfl 1 rfl ?_
      refine g_iald F (q := 66) 4 h234 (by omega) hx (by omega) (by decide) (dk dX7_count 5 rfl) rfl ?_
      refine hret (r 4) E _ _ (dk dX7_count 6 rfl) (nint _) ?_
      exact ⟨_, _, _, _, _, _, _, (by unfold sCount; rw [hx, if_neg (by decide), if_neg (by decide), if_neg (by decide), if_neg (by decide), if_pos rfl]), h233, h239, h240, h241, h242, (fun j _ => rfl)⟩
    · have hx : what = 5 := by rw [hsw]; decide
      refine g_tabIn F (tgt := 60) (off := 59) (dk dX7_count 1 rfl) (by rw [hx]; decide) (by rw [hx]; decide) (by rw [hx]; decide) (by decide) ?_
      refine g_aload_n F (q := 61) (dk dX7_count 2 rfl) rfl rfl 0 rfl ?_
      refine g_getf F (q := 64) h233 rfl inX7 (by omega) (j := 0) (by decide) tq_623 rfl rfl (dk dX7_count 3 rfl) rfl ?_
      refine g_iload_n F (q := 65) (dk dX7_count 4 rfl) rfl rfl 1 rfl ?_
      refine g_iald F (q := 66) 5 h234 (by omega) hx (by omega) (by decide) (dk dX7_count 5 rfl) rfl ?_
      refine hret (r 5) E _ _ (dk dX7_count 6 rfl) (nint _) ?_
      exact ⟨_, _, _, _, _, _, _, (by unfold sCount; rw [hx, if_neg (by decide), if_neg (by decide), if_neg (by decide), if_neg (by decide), if_neg (by decide), if_pos rfl]), h233, h239, h240, h241, h242, (fun j _ => rfl)⟩
    · have hx : what = 6 := by rw [hsw]; decide
      refine g_tabIn F (tgt := 67) (off := 66) (dk dX7_count 1 rfl) (by rw [hx]; decide) (by rw [hx]; decide) (by rw [hx]; decide) (by decide) ?_
      refine g_aload_n F (q := 68) (dk dX7_count 7 rfl) rfl rfl 0 rfl ?_
      refine g_callVI F (q := 71) (av := []) (st := []) (c_X7_mutes h233 h234 hV.h0 hV.e0) kv_X7_mutes tq_726 h233 rfl (by omega) ⟨rfl, rfl⟩ (by decide) ⟨Nat.le_refl _, Nat.le_refl _⟩ rfl rfl (Nat.le_of_ble_eq_true rfl) (dk dX7_count 8 rfl) rfl (fun r68 E68 hp68 => ?_)
      obtain ⟨rfl, rfl⟩ := hp68
      refine hret (sumN (fun ee => r (6 + 4 * ee + 1)) ne) E _ _ (dk dX7_count 9 rfl) (nint _) ?_
      exact ⟨_, _, _, _, _, _, _, (by unfold sCount; rw [hx, if_neg (by decide), if_neg (by decide), if_neg (by decide), if_neg (by decide), if_neg (by decide), if_neg (by decide), if_pos rfl]), h233, h239, h240, h241, h242, (fun j _ => rfl)⟩
    · have hx : what = 7 := by rw [hsw]; decide
      refine g_tabIn F (tgt := 72) (off := 71) (dk dX7_count 1 rfl) (by rw [hx]; decide) (by rw [hx]; decide) (by rw [hx]; decide) (by decide) ?_
      refine g_aload_n F (q := 73) (dk dX7_count 10 rfl) rfl rfl 0 rfl ?_
      refine g_callVI F (q := 76) (av := []) (st := []) (c_X7_outs h233 h234 hV.h1 hV.e1) kv_X7_outs tq_774 h233 rfl (by omega) ⟨rfl, rfl⟩ (by decide) ⟨Nat.le_refl _, Nat.le_refl _⟩ rfl rfl (Nat.le_of_ble_eq_true rfl) (dk dX7_count 11 rfl) rfl (fun r73 E73 hp73 => ?_)
      obtain ⟨rfl, rfl⟩ := hp73
      refine hret (sumN (fun ee => r (46 + 5 * ee + 4)) nt) E _ _ (dk dX7_count 12 rfl) (nint _) ?_
      exact ⟨_, _, _, _, _, _, _, (by unfold sCount; rw [hx, if_neg (by decide), if_neg (by decide), if_neg (by decide), if_neg (by decide), if_neg (by decide), if_neg (by decide), if_neg (by decide), if_pos rfl]), h233, h239, h240, h241, h242, (fun j _ => rfl)⟩
    · have hx : what = 8 := by rw [hsw]; decide
      refine g_tabIn F (tgt := 77) (off := 76) (dk dX7_count 1 rfl) (by rw [hx]; decide) (by rw [hx]; decide) (by rw [hx]; decide) (by decide) ?_
      refine g_aload_n F (q := 78) (dk dX7_count 13 rfl) rfl rfl 0 rfl ?_
      refine g_callVI F (q := 81) (av := []) (st := []) (c_X7_fitting h233 h234 h239 h240 h241 h242 (by first | assumption | decide | omega)) kv_X7_fitting tq_911 h233 rfl (by omega) ⟨rfl, rfl⟩ (by decide) ⟨Nat.le_refl _, Nat.le_refl _⟩ rfl rfl (Nat.le_of_ble_eq_true rfl) (dk dX7_count 14 rfl) rfl (fun r78 E78 hp78 => ?_)
      obtain ⟨m2_78, l2_78, mo2_78, rd1_78, er1_78, th1_78, rt1_78, rfl, hK233_78, hK239_78, hK240_78, hK241_78, hK242_78, hF78⟩ := hp78
      refine hret (nI ((fitN r ne nt nk))) E78 _ _ (dk dX7_count 15 rfl) (nint _) ?_
      exact ⟨_, _, _, _, _, _, _, (by unfold sCount; rw [hx, if_neg (by decide), if_neg (by decide), if_neg (by decide), if_neg (by decide), if_neg (by decide), if_neg (by decide), if_neg (by decide), if_neg (by decide), if_pos rfl]), hK233_78, hK239_78, hK240_78, hK241_78, hK242_78, (fun j hj => (hF78 j (by omega)))⟩
    · have hx : what = 9 := by rw [hsw]; decide
      refine g_tabIn F (tgt := 82) (off := 81) (dk dX7_count 1 rfl) (by rw [hx]; decide) (by rw [hx]; decide) (by rw [hx]; decide) (by decide) ?_
      refine g_aload_n F (q := 83) (dk dX7_count 16 rfl) rfl rfl 0 rfl ?_
      refine g_getf F (q := 86) h233 rfl inX7 (by omega) (j := 4) (by decide) tq_627 rfl rfl (dk dX7_count 17 rfl) rfl ?_
      refine hret (nI nh) E _ _ (dk dX7_count 18 rfl) (nint _) ?_
      exact ⟨_, _, _, _, _, _, _, (by unfold sCount; rw [hx, if_neg (by decide), if_neg (by decide), if_neg (by decide), if_neg (by decide), if_neg (by decide), if_neg (by decide), if_neg (by decide), if_neg (by decide), if_neg (by decide), if_pos rfl]), h233, h239, h240, h241, h242, (fun j _ => rfl)⟩
    · have hx : what = 10 := by rw [hsw]; decide
      refine g_tabIn F (tgt := 87) (off := 86) (dk dX7_count 1 rfl) (by rw [hx]; decide) (by rw [hx]; decide) (by rw [hx]; decide) (by decide) ?_
      refine g_aload_n F (q := 88) (dk dX7_count 19 rfl) rfl rfl 0 rfl ?_
      refine g_getf F (q := 91) h233 rfl inX7 (by omega) (j := 7) (by decide) tq_630 rfl rfl (dk dX7_count 20 rfl) rfl ?_
      refine hret (nI ln) E _ _ (dk dX7_count 21 rfl) (nint _) ?_
      exact ⟨_, _, _, _, _, _, _, (by unfold sCount; rw [hx, if_neg (by decide), if_neg (by decide), if_neg (by decide), if_neg (by decide), if_neg (by decide), if_neg (by decide), if_neg (by decide), if_neg (by decide), if_neg (by decide), if_neg (by decide), if_pos rfl]), h233, h239, h240, h241, h242, (fun j _ => rfl)⟩
theorem kv_X7_count : KV yX7_count "ThumpEarsModel" cX7_count 2 (some .int) 1 := ⟨tq_908, tq_909, tq_47, tq_910, by decide +kernel⟩
