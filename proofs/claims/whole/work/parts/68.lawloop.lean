theorem loop_in {L i : Nat} (hL : L ≤ 2048) (hi : i ≤ L) (h : ¬ (Int32.ofNat L - 4 < nI i)) : i + 4 ≤ L := by
  rcases (show L = 0 ∨ L = 1 ∨ L = 2 ∨ L = 3 ∨ 4 ≤ L by omega) with rfl | rfl | rfl | rfl | h4
  · obtain rfl : i = 0 := by omega
    exact absurd (by decide) h
  · rcases (show i = 0 ∨ i = 1 by omega) with rfl | rfl <;> exact absurd (by decide) h
  · rcases (show i = 0 ∨ i = 1 ∨ i = 2 by omega) with rfl | rfl | rfl <;> exact absurd (by decide) h
  · rcases (show i = 0 ∨ i = 1 ∨ i = 2 ∨ i = 3 by omega) with rfl | rfl | rfl | rfl <;> exact absurd (by decide) h
  · have e0 : Int32.ofNat L = nI (L - 4) + nI 4 := by
      rw [nA rfl rfl, Nat.sub_add_cancel h4]
      rfl
    have e : Int32.ofNat L - 4 = nI (L - 4) := by
      rw [e0]
      exact Int32.add_sub_cancel _ _
    rw [e] at h
    have h2 : ¬ L - 4 < i := fun q => h ((nI_ltI (a := L - 4) (b := i) (by omega) (by omega)).mpr q)
    omega
set_option maxHeartbeats 4000000 in
set_option maxRecDepth 100000 in
theorem law_loop {l : Launch} {D : va_G} {cA : Nat → ClassId} {ad : Nat → Nat} {X : GX} {b L : Nat} {xs : Nat → Int32} (F : Fr "ThumpEarsLaw" cL_law 4 D cA X) (S : Sc X b L xs) (hL : L ≤ 2048) (hend : ∀ (E : Nat → va_E) (i : Nat), GG room_1 4 l D X 243 5039 243 ad E 896 (LV ad b i) []) :
    ∀ (fu i : Nat) (E : Nat → va_E), L - i < fu → i ≤ L → LI cA ad E → GG room_1 4 l D X 243 5039 243 ad E 18 (LV ad b i) [] := by
  intro fu
  induction fu with
  | zero => intro i E h; exact absurd h (Nat.not_lt_zero _)
  | succ fu ih =>
    intro i E hfu hi hLI
    refine g_iload_n F (q := 19) (dk dL_law_0 10 rfl) rfl rfl 0 rfl ?_
    refine g_aload_n F (q := 20) (dk dL_law_0 11 rfl) rfl rfl 3 rfl ?_
    refine g_slen F S (q := 21) (dk dL_law_0 12 rfl) rfl ?_
    refine g_iconst F (q := 22) (v := 4) (dk dL_law_0 13 rfl) rfl (by decide) ?_
    refine g_isub F (q := 23) (dk dL_law_0 14 rfl) rfl ?_
    refine g_icmp_gt F (q := 26) (tgt := 896) (dk dL_law_0 15 rfl) (by decide) rfl (fun _ => hend E i) (fun h => ?_)
    have hi4 : i + 4 ≤ L := loop_in hL hi h
    have hinc : ∀ E2 : Nat → va_E, LI cA ad E2 → GG room_1 4 l D X 243 5039 243 ad E2 890 (LV ad b i) [] := by
      intro E2 h2
      refine g_iinc F (q := 893) (v := nI (i + 4)) (lv' := LV ad b (i + 4)) (dk dL_law_15 0 rfl) rfl 0 rfl (nA rfl (by decide)) (Nat.le_of_ble_eq_true rfl) rfl ?_
      refine g_goto F (tgt := 18) (dk dL_law_15 1 rfl) (by decide) ?_
      exact ih (i + 4) E2 (by omega) (by omega) h2
    refine g_aload_n F (q := 27) (dk dL_law_0 16 rfl) rfl rfl 3 rfl ?_
    refine g_iload_n F (q := 28) (dk dL_law_0 17 rfl) rfl rfl 0 rfl ?_
    refine g_sld F S (q := 29) (k := i) (by omega) hL rfl (dk dL_law_0 18 rfl) rfl ?_
    refine g_bipush F (q := 31) (v := 31) (dk dL_law_0 19 rfl) rfl (by decide) ?_
    refine g_iand F (q := 32) (dk dL_law_0 20 rfl) rfl ?_
    rcases sw_split (xs i &&& 31) 0 23 with hsw | ⟨j, hj, hsw⟩
    · refine g_tabOut F (tgt := 890) (dk dL_law_0 21 rfl) (by omega) (by decide) ?_
      exact hinc E hLI
    · rcases (show j = 0 ∨ j = 1 ∨ j = 2 ∨ j = 3 ∨ j = 4 ∨ j = 5 ∨ j = 6 ∨ j = 7 ∨ j = 8 ∨ j = 9 ∨ j = 10 ∨ j = 11 ∨ j = 12 ∨ j = 13 ∨ j = 14 ∨ j = 15 ∨ j = 16 ∨ j = 17 ∨ j = 18 ∨ j = 19 ∨ j = 20 ∨ j = 21 ∨ j = 22 ∨ j = 23 by omega) with rfl | rfl | rfl | rfl | rfl | rfl | rfl | rfl | rfl | rfl | rfl | rfl | rfl | rfl | rfl | rfl | rfl | rfl | rfl | rfl | rfl | rfl | rfl | rfl
      · have hx : xs i &&& 31 = 0 := by rw [hsw]; decide
        refine g_tabIn F (tgt := 144) (off := 112) (dk dL_law_0 21 rfl) (by rw [hx]; decide) (by rw [hx]; decide) (by rw [hx]; decide) (by decide) ?_
        exact lc_0 F S hi4 hL hLI hinc
      · have hx : xs i &&& 31 = 1 := by rw [hsw]; decide
        refine g_tabIn F (tgt := 167) (off := 135) (dk dL_law_0 21 rfl) (by rw [hx]; decide) (by rw [hx]; decide) (by rw [hx]; decide) (by decide) ?_
        exact lc_1 F S hi4 hL hLI hinc
      · have hx : xs i &&& 31 = 2 := by rw [hsw]; decide
        refine g_tabIn F (tgt := 210) (off := 178) (dk dL_law_0 21 rfl) (by rw [hx]; decide) (by rw [hx]; decide) (by rw [hx]; decide) (by decide) ?_
        exact lc_2 F S hi4 hL hLI hinc
      · have hx : xs i &&& 31 = 3 := by rw [hsw]; decide
        refine g_tabIn F (tgt := 259) (off := 227) (dk dL_law_0 21 rfl) (by rw [hx]; decide) (by rw [hx]; decide) (by rw [hx]; decide) (by decide) ?_
        exact lc_3 F S hi4 hL hLI hinc
      · have hx : xs i &&& 31 = 4 := by rw [hsw]; decide
        refine g_tabIn F (tgt := 292) (off := 260) (dk dL_law_0 21 rfl) (by rw [hx]; decide) (by rw [hx]; decide) (by rw [hx]; decide) (by decide) ?_
        exact lc_4 F S hi4 hL hLI hinc
      · have hx : xs i &&& 31 = 5 := by rw [hsw]; decide
        refine g_tabIn F (tgt := 335) (off := 303) (dk dL_law_0 21 rfl) (by rw [hx]; decide) (by rw [hx]; decide) (by rw [hx]; decide) (by decide) ?_
        exact lc_5 F S hi4 hL hLI hinc
      · have hx : xs i &&& 31 = 6 := by rw [hsw]; decide
        refine g_tabIn F (tgt := 378) (off := 346) (dk dL_law_0 21 rfl) (by rw [hx]; decide) (by rw [hx]; decide) (by rw [hx]; decide) (by decide) ?_
        exact lc_6 F S hi4 hL hLI hinc
      · have hx : xs i &&& 31 = 7 := by rw [hsw]; decide
        refine g_tabIn F (tgt := 427) (off := 395) (dk dL_law_0 21 rfl) (by rw [hx]; decide) (by rw [hx]; decide) (by rw [hx]; decide) (by decide) ?_
        exact lc_7 F S hi4 hL hLI hinc
      · have hx : xs i &&& 31 = 8 := by rw [hsw]; decide
        refine g_tabIn F (tgt := 440) (off := 408) (dk dL_law_0 21 rfl) (by rw [hx]; decide) (by rw [hx]; decide) (by rw [hx]; decide) (by decide) ?_
        exact lc_8 F S hi4 hL hLI hinc
      · have hx : xs i &&& 31 = 9 := by rw [hsw]; decide
        refine g_tabIn F (tgt := 465) (off := 433) (dk dL_law_0 21 rfl) (by rw [hx]; decide) (by rw [hx]; decide) (by rw [hx]; decide) (by decide) ?_
        exact lc_9 F S hi4 hL hLI hinc
      · have hx : xs i &&& 31 = 10 := by rw [hsw]; decide
        refine g_tabIn F (tgt := 478) (off := 446) (dk dL_law_0 21 rfl) (by rw [hx]; decide) (by rw [hx]; decide) (by rw [hx]; decide) (by decide) ?_
        exact lc_10 F S hi4 hL hLI hinc
      · have hx : xs i &&& 31 = 11 := by rw [hsw]; decide
        refine g_tabIn F (tgt := 491) (off := 459) (dk dL_law_0 21 rfl) (by rw [hx]; decide) (by rw [hx]; decide) (by rw [hx]; decide) (by decide) ?_
        exact lc_11 F S hi4 hL hLI hinc
      · have hx : xs i &&& 31 = 12 := by rw [hsw]; decide
        refine g_tabIn F (tgt := 504) (off := 472) (dk dL_law_0 21 rfl) (by rw [hx]; decide) (by rw [hx]; decide) (by rw [hx]; decide) (by decide) ?_
        exact lc_12 F S hi4 hL hLI hinc
      · have hx : xs i &&& 31 = 13 := by rw [hsw]; decide
        refine g_tabIn F (tgt := 517) (off := 485) (dk dL_law_0 21 rfl) (by rw [hx]; decide) (by rw [hx]; decide) (by rw [hx]; decide) (by decide) ?_
        exact lc_13 F S hi4 hL hLI hinc
      · have hx : xs i &&& 31 = 14 := by rw [hsw]; decide
        refine g_tabIn F (tgt := 550) (off := 518) (dk dL_law_0 21 rfl) (by rw [hx]; decide) (by rw [hx]; decide) (by rw [hx]; decide) (by decide) ?_
        exact lc_14 F S hi4 hL hLI hinc
      · have hx : xs i &&& 31 = 15 := by rw [hsw]; decide
        refine g_tabIn F (tgt := 583) (off := 551) (dk dL_law_0 21 rfl) (by rw [hx]; decide) (by rw [hx]; decide) (by rw [hx]; decide) (by decide) ?_
        exact lc_15 F S hi4 hL hLI hinc
      · have hx : xs i &&& 31 = 16 := by rw [hsw]; decide
        refine g_tabIn F (tgt := 626) (off := 594) (dk dL_law_0 21 rfl) (by rw [hx]; decide) (by rw [hx]; decide) (by rw [hx]; decide) (by decide) ?_
        exact lc_16 F S hi4 hL hLI hinc
      · have hx : xs i &&& 31 = 17 := by rw [hsw]; decide
        refine g_tabIn F (tgt := 660) (off := 628) (dk dL_law_0 21 rfl) (by rw [hx]; decide) (by rw [hx]; decide) (by rw [hx]; decide) (by decide) ?_
        exact lc_17 F S hi4 hL hLI hinc
      · have hx : xs i &&& 31 = 18 := by rw [hsw]; decide
        refine g_tabIn F (tgt := 673) (off := 641) (dk dL_law_0 21 rfl) (by rw [hx]; decide) (by rw [hx]; decide) (by rw [hx]; decide) (by decide) ?_
        exact lc_18 F S hi4 hL hLI hinc
      · have hx : xs i &&& 31 = 19 := by rw [hsw]; decide
        refine g_tabIn F (tgt := 732) (off := 700) (dk dL_law_0 21 rfl) (by rw [hx]; decide) (by rw [hx]; decide) (by rw [hx]; decide) (by decide) ?_
        exact lc_19 F S hi4 hL hLI hinc
      · have hx : xs i &&& 31 = 20 := by rw [hsw]; decide
        refine g_tabIn F (tgt := 766) (off := 734) (dk dL_law_0 21 rfl) (by rw [hx]; decide) (by rw [hx]; decide) (by rw [hx]; decide) (by decide) ?_
        exact lc_20 F S hi4 hL hLI hinc
      · have hx : xs i &&& 31 = 21 := by rw [hsw]; decide
        refine g_tabIn F (tgt := 800) (off := 768) (dk dL_law_0 21 rfl) (by rw [hx]; decide) (by rw [hx]; decide) (by rw [hx]; decide) (by decide) ?_
        exact lc_21 F S hi4 hL hLI hinc
      · have hx : xs i &&& 31 = 22 := by rw [hsw]; decide
        refine g_tabIn F (tgt := 834) (off := 802) (dk dL_law_0 21 rfl) (by rw [hx]; decide) (by rw [hx]; decide) (by rw [hx]; decide) (by decide) ?_
        exact lc_22 F S hi4 hL hLI hinc
      · have hx : xs i &&& 31 = 23 := by rw [hsw]; decide
        refine g_tabIn F (tgt := 867) (off := 835) (dk dL_law_0 21 rfl) (by rw [hx]; decide) (by rw [hx]; decide) (by rw [hx]; decide) (by decide) ?_
        exact lc_23 F S hi4 hL hLI hinc
set_option maxHeartbeats 4000000 in
set_option maxRecDepth 100000 in
theorem law_run {l : Launch} {D : va_G} {cA : Nat → ClassId} {ad : Nat → Nat} {E : Nat → va_E} {X : GX} {b L : Nat} {xs : Nat → Int32} (F : Fr "ThumpEarsLaw" cL_law 4 D cA X) (S : Sc X b L xs) (hL : L ≤ 2048) (hNW : NW X.2.2.1) (hend : ∀ (ad : Nat → Nat) (E : Nat → va_E) (i : Nat), GG room_1 4 l D X 243 5039 243 ad E 896 (LV ad b i) []) : GG room_1 4 l D X 0 0 0 ad E 0 [(0, .ref b)] [] := by
  refine g_new F (q := 3) (ci := 6) (fs := [.null, .null, .int 0, .null, .null, .null, .null]) (C := RX6) (T := TX6) (N := 7) inX6 tyX6 tyX6_ok tq_50 tq_51 tq_40 rfl (fun j hj => by rcases (show j = 0 ∨ j = 1 ∨ j = 2 ∨ j = 3 ∨ j = 4 ∨ j = 5 ∨ j = 6 by omega) with rfl | rfl | rfl | rfl | rfl | rfl | rfl <;> rfl) (Nat.le_of_ble_eq_true rfl) (Nat.le_of_ble_eq_true rfl) (dk dL_law_0 0 rfl) rfl (fun ad1 E1 hA1 hB1 hN1 => ?_)
  refine (show GG room_1 4 l D X 1 7 1 ad1 E1 3 [(0, .ref b)] [.ref (ad1 0)] from ?_)
  refine g_dup F (q := 4) (dk dL_law_0 1 rfl) rfl rfl ?_
  refine g_callO F (q := 7) (n2 := 233) (mc := 232) (ms := 2493) (c_X6_init hN1) kn_X6_init hNW tq_52 ⟨rfl, rfl⟩ (by decide) ⟨(Nat.le_of_ble_eq_true rfl), (Nat.le_of_ble_eq_true rfl)⟩ (Nat.le_of_ble_eq_true rfl) (dk dL_law_0 2 rfl) rfl (fun ad2 E2 hp2 => ?_)
  obtain ⟨hA2, hB2, hT⟩ := hp2
  rw [← hA2 0 (by omega)]
  refine (show GG room_1 4 l D X 233 2500 233 ad2 E2 7 [(0, .ref b)] [.ref (ad2 0)] from ?_)
  refine g_astore_n F (q := 8) (lv' := [(1, .ref (ad2 0)), (0, .ref b)]) (dk dL_law_0 3 rfl) rfl rfl (Nat.le_of_ble_eq_true rfl) rfl ?_
  refine g_new F (q := 11) (ci := 7) (fs := [.null, .null, .null, .null, .int 0, .int 0, .null, .int 0, .int 0, .int 0, .int 0, .null, .null, .null, .long 0, .long 0, .null]) (C := RX7) (T := TX7) (N := 17) inX7 tyX7 tyX7_ok tq_616 tq_617 tq_47 rfl (fun j hj => by rcases (show j = 0 ∨ j = 1 ∨ j = 2 ∨ j = 3 ∨ j = 4 ∨ j = 5 ∨ j = 6 ∨ j = 7 ∨ j = 8 ∨ j = 9 ∨ j = 10 ∨ j = 11 ∨ j = 12 ∨ j = 13 ∨ j = 14 ∨ j = 15 ∨ j = 16 by omega) with rfl | rfl | rfl | rfl | rfl | rfl | rfl | rfl | rfl | rfl | rfl | rfl | rfl | rfl | rfl | rfl | rfl <;> rfl) (Nat.le_of_ble_eq_true rfl) (Nat.le_of_ble_eq_true rfl) (dk dL_law_0 4 rfl) rfl (fun ad3 E3 hA3 hB3 hN3 => ?_)
  rw [← hA3 0 (by omega)]
  refine (show GG room_1 4 l D X 234 2517 234 ad3 E3 11 [(1, .ref (ad3 0)), (0, .ref b)] [.ref (ad3 233)] from ?_)
  have hT := hT.mv (fun j hj => hB3 j (by omega)) (fun j hj => hA3 j (by omega))
  refine g_dup F (q := 12) (dk dL_law_0 5 rfl) rfl rfl ?_
  refine g_callO F (q := 15) (n2 := 243) (mc := 9) (ms := 2522) (c_X7_init hN3) kn_X7_init hNW tq_618 ⟨rfl, rfl⟩ (by decide) ⟨(Nat.le_of_ble_eq_true rfl), (Nat.le_of_ble_eq_true rfl)⟩ (Nat.le_of_ble_eq_true rfl) (dk dL_law_0 6 rfl) rfl (fun ad4 E4 hp4 => ?_)
  obtain ⟨hA4, hB4, hM⟩ := hp4
  rw [← hA4 0 (by omega), ← hA4 233 (by omega)]
  refine (show GG room_1 4 l D X 243 5039 243 ad4 E4 15 [(1, .ref (ad4 0)), (0, .ref b)] [.ref (ad4 233)] from ?_)
  have hT := hT.mv (fun j hj => hB4 j (by omega)) (fun j hj => hA4 j (by omega))
  refine g_astore_n F (q := 16) (lv' := [(2, .ref (ad4 233)), (1, .ref (ad4 0)), (0, .ref b)]) (dk dL_law_0 7 rfl) rfl rfl (Nat.le_of_ble_eq_true rfl) rfl ?_
  refine g_iconst F (q := 17) (v := nI 0) (dk dL_law_0 8 rfl) rfl (by decide) ?_
  refine g_istore_n F (q := 18) (lv' := LV ad4 b 0) (dk dL_law_0 9 rfl) rfl rfl (Nat.le_of_ble_eq_true rfl) rfl ?_
  refine g_same (fun k _ => fixE_sm hT k) ?_
  exact law_loop F S hL (hend ad4) (L + 1) 0 _ (by omega) (by omega) (LI_start hT hM)
