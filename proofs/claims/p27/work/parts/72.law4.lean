theorem l2i_i2l (x : Int32) : x.toInt64.toInt32 = x := by
  have := i32r x
  rw [← Int32.toInt_inj, Int64.toInt_toInt32, Int32.toInt_toInt64]
  apply Int.bmod_eq_of_le <;> omega
abbrev rm_L_knock : Room := { frames := 6, cells := 0, slots := 0, locals := 146 }
set_option maxHeartbeats 4000000 in
set_option maxRecDepth 100000 in
theorem c_L_knock {l : Launch} {D : va_G} {cA : Nat → ClassId} {ad : Nat → Nat} {E : Nat → va_E} {r : Nat → Int32} {ne nt nk nh ln : Nat} {txt d ps : Nat → Int32} {kn : Nat} {g : Int32}  (hQ : LQ cA ad E r ne nt nk nh ln txt d ps) (hk : kn < nk) : CtI l D cA yL_knock cL_knock 20 .boolean rm_L_knock 235 ad E [.ref (ad 0), .int (nI kn), .int (r (46 + 50 * 1 + 5 * kn + 3)), .int g] (fun x E' => 1 = x ∧ LQ cA ad E' r ne nt nk nh ln txt d ps) := by
  refine CtI.of (by decide +kernel) (Nat.le_of_ble_eq_true rfl) (fun X F hret => ?_)
  have F : Fr "ThumpEarsLaw" cL_knock 20 D cA X := F
  refine (show GG rm_L_knock 20 l D X 0 0 235 ad E 0 [(0, .ref (ad 0)), (1, .int (nI kn)), (2, .int (r (46 + 50 * 1 + 5 * kn + 3))), (3, .int g)] [] from ?_)
  have hV := hQ.i
  have h0 := hV.e0
  have h1 := hV.e1
  have h2 := hV.e2
  refine g_iconst F (q := 1) (v := 0) (dk dL_knock_0 0 rfl) rfl (by decide) ?_
  refine g_istore F (q := 3) (lv' := [(4, .int 0), (0, .ref (ad 0)), (1, .int (nI kn)), (2, .int (r (46 + 50 * 1 + 5 * kn + 3))), (3, .int g)]) (dk dL_knock_0 1 rfl) rfl (Nat.le_of_ble_eq_true rfl) rfl ?_
  refine g_iconst F (q := 4) (v := 0) (dk dL_knock_0 2 rfl) rfl (by decide) ?_
  refine g_istore F (q := 6) (lv' := [(5, .int 0), (4, .int 0), (0, .ref (ad 0)), (1, .int (nI kn)), (2, .int (r (46 + 50 * 1 + 5 * kn + 3))), (3, .int g)]) (dk dL_knock_0 3 rfl) rfl (Nat.le_of_ble_eq_true rfl) rfl ?_
  have K6 : ∀ (fu : Nat) (i : Nat) (E1 : Nat → va_E), ne - i < fu → (hQc : LQ cA ad E1 r ne nt nk nh ln txt d ps) → (hi : i ≤ ne) → GG rm_L_knock 20 l D X 0 0 235 ad E1 6 [(0, .ref (ad 0)), (1, .int (nI kn)), (2, .int (r (46 + 50 * 1 + 5 * kn + 3))), (3, .int g), (4, .int (nI ((hC r kn i)))), (5, .int (nI i))] [] := by
    intro fu
    induction fu with
    | zero => intro i E1 hfu_; exact absurd hfu_ (Nat.not_lt_zero _)
    | succ fu ih =>
      intro i E1 hfu_ hQc hi
      refine g_iload F (q := 8) (dk dL_knock_0 4 rfl) rfl 5 rfl ?_
      refine g_aload_n F (q := 9) (dk dL_knock_0 5 rfl) rfl rfl 0 rfl ?_
      refine g_iconst F (q := 10) (v := 0) (dk dL_knock_0 6 rfl) rfl (by decide) ?_
      refine h_VI F (av := [.int 0]) (st := [.int (nI i)]) (q_count hQc (vC0 hV)) kv_X6_count tq_293 hQc.e0 ⟨rfl, rfl⟩ (by decide) ⟨Nat.le_refl _, Nat.le_refl _⟩ rfl rfl (Nat.le_of_ble_eq_true rfl) (dk dL_knock_0 7 rfl) rfl (fun E10 hQ10 => ?_)
      refine g_icmp_ge F (q := 16) (tgt := 95) (dk dL_knock_0 8 rfl) (by decide) rfl (fun c13 => ?_) (fun c13 => ?_)
      · have nc13 : ne ≤ i := (nI_leI (a := ne) (b := i) (by omega) (by omega)).mp c13
        obtain rfl : ne = i := by omega
        have hcl := hC_le (r := r) (kn := kn) ne
        refine g_aload_n F (q := 96) (dk dL_knock_1 11 rfl) rfl rfl 0 rfl ?_
        refine g_iload_n F (q := 97) (dk dL_knock_1 12 rfl) rfl rfl 1 rfl ?_
        refine g_iconst F (q := 98) (v := 3) (dk dL_knock_1 13 rfl) rfl (by decide) ?_
        refine h_VL F (av := [.int (nI kn), .int 3]) (st := []) (q_found hQ10 (vF3 hV hk)) kv_X6_found tq_475 hQ10.e0 ⟨rfl, rfl⟩ (by decide) ⟨Nat.le_refl _, Nat.le_refl _⟩ rfl rfl (Nat.le_of_ble_eq_true rfl) (dk dL_knock_1 14 rfl) rfl (fun E98 hQ98 => ?_)
        refine g_iload F (q := 103) (dk dL_knock_1 15 rfl) rfl 4 rfl ?_
        refine g_i2l F (q := 104) (dk dL_knock_1 16 rfl) rfl ?_
        refine g_lcmp_ne F (q := 108) (tgt := 122) (dk dL_knock_1 17 rfl) (dk dL_knock_1 18 rfl) (by decide) rfl (fun c104 => absurd c104 (fun h => h rfl)) (fun c104 => ?_)
        refine g_aload_n F (q := 109) (dk dL_knock_1 19 rfl) rfl rfl 0 rfl ?_
        refine g_iload_n F (q := 110) (dk dL_knock_1 20 rfl) rfl rfl 1 rfl ?_
        refine g_bipush F (q := 112) (v := 6) (dk dL_knock_1 21 rfl) rfl (by decide) ?_
        refine h_VL F (av := [.int (nI kn), .int 6]) (st := []) (q_found hQ98 (vF6 hV hk)) kv_X6_found tq_475 hQ98.e0 ⟨rfl, rfl⟩ (by decide) ⟨Nat.le_refl _, Nat.le_refl _⟩ rfl rfl (Nat.le_of_ble_eq_true rfl) (dk dL_knock_1 22 rfl) rfl (fun E112 hQ112 => ?_)
        refine g_ldc2 F (q := 118) (v := (-9223372036854775806)) (dk dL_knock_1 23 rfl) rfl tq_465 ?_
        refine g_lcmp_eq F (q := 122) (tgt := 124) (dk dL_knock_1 24 rfl) (dk dL_knock_1 25 rfl) (by decide) rfl (fun _ => ?_) (fun h => absurd h (by decide))
        refine g_iload F (q := 126) (dk dL_knock_1 28 rfl) rfl 4 rfl ?_
        refine g_iconst F (q := 127) (v := 2) (dk dL_knock_1 29 rfl) rfl (by decide) ?_
        refine g_icmp_ge F (q := 130) (tgt := 173) (dk dL_knock_1 30 rfl) (by decide) rfl (fun c127 => ?_) (fun c127 => ?_)
        · have nc127 : 2 ≤ (hC r kn ne) := (nI_leI (a := 2) (b := (hC r kn ne)) (by omega) (by omega)).mp c127
          have hc2 : ¬ hC r kn ne < 2 := by omega
          refine g_aload_n F (q := 174) (dk dL_knock_2 15 rfl) rfl rfl 0 rfl ?_
          refine g_iload_n F (q := 175) (dk dL_knock_2 16 rfl) rfl rfl 1 rfl ?_
          refine g_iconst F (q := 176) (v := 0) (dk dL_knock_2 17 rfl) rfl (by decide) ?_
          refine h_VL F (av := [.int (nI kn), .int 0]) (st := []) (q_found hQ112 (vF0 hV hk hc2)) kv_X6_found tq_475 hQ112.e0 ⟨rfl, rfl⟩ (by decide) ⟨Nat.le_refl _, Nat.le_refl _⟩ rfl rfl (Nat.le_of_ble_eq_true rfl) (dk dL_knock_2 18 rfl) rfl (fun E176 hQ176 => ?_)
          refine g_l2i F (q := 180) (dk dL_knock_2 19 rfl) rfl ?_
          refine g_sti (y := (nI ((plc r ne nt kn)))) (l2i_i2l _) ?_
          refine g_istore F (q := 182) (lv' := [(5, .int (nI ((plc r ne nt kn)))), (0, .ref (ad 0)), (1, .int (nI kn)), (2, .int (r (46 + 50 * 1 + 5 * kn + 3))), (3, .int g), (4, .int (nI ((hC r kn ne))))]) (dk dL_knock_2 20 rfl) rfl (Nat.le_of_ble_eq_true rfl) rfl ?_
          refine g_aload_n F (q := 183) (dk dL_knock_2 21 rfl) rfl rfl 1 rfl ?_
          refine g_iload_n F (q := 184) (dk dL_knock_2 22 rfl) rfl rfl 2 rfl ?_
          refine g_iconst F (q := 185) (v := 2) (dk dL_knock_2 23 rfl) rfl (by decide) ?_
          refine h_VL F (av := [.int (nI kn), .int 2]) (st := []) (q_found hQ176 (vF2 hV hk hc2)) kv_X6_found tq_475 hQ176.e0 ⟨rfl, rfl⟩ (by decide) ⟨Nat.le_refl _, Nat.le_refl _⟩ rfl rfl (Nat.le_of_ble_eq_true rfl) (dk dL_knock_2 24 rfl) rfl (fun E185 hQ185 => ?_)
          refine g_lstore F (q := 190) (lv' := [(6, .long (spW r ne nt kn (nI (plc r ne nt kn)))), (5, .int (nI ((plc r ne nt kn)))), (0, .ref (ad 0)), (1, .int (nI kn)), (2, .int (r (46 + 50 * 1 + 5 * kn + 3))), (3, .int g), (4, .int (nI ((hC r kn ne))))]) (dk dL_knock_2 25 rfl) rfl (Nat.le_of_ble_eq_true rfl) rfl ?_
          refine g_iconst F (q := 191) (v := 0) (dk dL_knock_2 26 rfl) rfl (by decide) ?_
          refine g_istore F (q := 193) (lv' := [(8, .int 0), (6, .long (spW r ne nt kn (nI (plc r ne nt kn)))), (5, .int (nI ((plc r ne nt kn)))), (0, .ref (ad 0)), (1, .int (nI kn)), (2, .int (r (46 + 50 * 1 + 5 * kn + 3))), (3, .int g), (4, .int (nI ((hC r kn ne))))]) (dk dL_knock_2 27 rfl) rfl (Nat.le_of_ble_eq_true rfl) rfl ?_
          have K193 : ∀ (fu : Nat) (j : Nat) (E2 : Nat → va_E), 12 - j < fu → (hQd : LQ cA ad E2 r ne nt nk nh ln txt d ps) → (hj : j ≤ 12) → GG rm_L_knock 20 l D X 0 0 235 ad E2 193 [(0, .ref (ad 0)), (1, .int (nI kn)), (2, .int (r (46 + 50 * 1 + 5 * kn + 3))), (3, .int g), (5, .int (nI ((plc r ne nt kn)))), (6, .long (spW r ne nt kn (nI (plc r ne nt kn)))), (8, .int (nI j))] [] := by
            intro fu
            induction fu with
            | zero => intro j E2 hfu_; exact absurd hfu_ (Nat.not_lt_zero _)
            | succ fu ih =>
              intro j E2 hfu_ hQd hj
              refine g_iload F (q := 195) (dk dL_knock_2 28 rfl) rfl 6 rfl ?_
              refine g_bipush F (q := 197) (v := 12) (dk dL_knock_2 29 rfl) rfl (by decide) ?_
              refine g_icmp_ge F (q := 200) (tgt := 296) (dk dL_knock_2 30 rfl) (by decide) rfl (fun c197 => ?_) (fun c197 => ?_)
              · have nc197 : 12 ≤ j := (nI_leI (a := 12) (b := j) (by omega) (by omega)).mp c197
                refine g_ldc2 F (q := 299) (v := 9223372036854775807) (dk dL_knock_3 39 rfl) rfl tq_509 ?_
                refine g_lstore F (q := 301) (lv' := [(8, .long 9223372036854775807), (0, .ref (ad 0)), (1, .int (nI kn)), (2, .int (r (46 + 50 * 1 + 5 * kn + 3))), (3, .int g), (5, .int (nI ((plc r ne nt kn)))), (6, .long (spW r ne nt kn (nI (plc r ne nt kn))))]) (dk dL_knock_4 0 rfl) rfl (Nat.le_of_ble_eq_true rfl) rfl ?_
                refine g_ldc2 F (q := 304) (v := (-9223372036854775807)) (dk dL_knock_4 1 rfl) rfl tq_463 ?_
                refine g_lstore F (q := 306) (lv' := [(10, .long (-9223372036854775807)), (8, .long 9223372036854775807), (0, .ref (ad 0)), (1, .int (nI kn)), (2, .int (r (46 + 50 * 1 + 5 * kn + 3))), (3, .int g), (5, .int (nI ((plc r ne nt kn)))), (6, .long (spW r ne nt kn (nI (plc r ne nt kn))))]) (dk dL_knock_4 2 rfl) rfl (Nat.le_of_ble_eq_true rfl) rfl ?_
                refine g_iconst F (q := 307) (v := 0) (dk dL_knock_4 3 rfl) rfl (by decide) ?_
                refine g_istore F (q := 309) (lv' := [(12, .int 0), (10, .long (-9223372036854775807)), (8, .long 9223372036854775807), (0, .ref (ad 0)), (1, .int (nI kn)), (2, .int (r (46 + 50 * 1 + 5 * kn + 3))), (3, .int g), (5, .int (nI ((plc r ne nt kn)))), (6, .long (spW r ne nt kn (nI (plc r ne nt kn))))]) (dk dL_knock_4 4 rfl) rfl (Nat.le_of_ble_eq_true rfl) rfl ?_
                have K309 : ∀ (fu : Nat) (i : Nat) (lo : Int64) (mo : Int64) (E3 : Nat → va_E), ne - i < fu → (hQe : LQ cA ad E3 r ne nt nk nh ln txt d ps) → (hi : i ≤ ne) → (hq : lmQ r nt kn i (nI (plc r ne nt kn)) lo mo) → GG rm_L_knock 20 l D X 0 0 235 ad E3 309 [(0, .ref (ad 0)), (1, .int (nI kn)), (2, .int (r (46 + 50 * 1 + 5 * kn + 3))), (5, .int (nI ((plc r ne nt kn)))), (6, .long (spW r ne nt kn (nI (plc r ne nt kn)))), (8, .long lo), (10, .long mo), (12, .int (nI i))] [] := by
                  intro fu
                  induction fu with
                  | zero => intro i lo mo E3 hfu_; exact absurd hfu_ (Nat.not_lt_zero _)
                  | succ fu ih =>
                    intro i lo mo E3 hfu_ hQe hi hq
                    refine g_iload F (q := 311) (dk dL_knock_4 5 rfl) rfl 7 rfl ?_
                    refine g_aload_n F (q := 312) (dk dL_knock_4 6 rfl) rfl rfl 0 rfl ?_
                    refine g_iconst F (q := 313) (v := 0) (dk dL_knock_4 7 rfl) rfl (by decide) ?_
                    refine h_VI F (av := [.int 0]) (st := [.int (nI i)]) (q_count hQe (vC0 hV)) kv_X6_count tq_293 hQe.e0 ⟨rfl, rfl⟩ (by decide) ⟨Nat.le_refl _, Nat.le_refl _⟩ rfl rfl (Nat.le_of_ble_eq_true rfl) (dk dL_knock_4 8 rfl) rfl (fun E313 hQ313 => ?_)
                    refine g_icmp_ge F (q := 319) (tgt := 402) (dk dL_knock_4 9 rfl) (by decide) rfl (fun c316 => ?_) (fun c316 => ?_)
                    · have nc316 : ne ≤ i := (nI_leI (a := ne) (b := i) (by omega) (by omega)).mp c316
                      obtain rfl : ne = i := by omega
                      obtain ⟨-, rfl, rfl⟩ := hq.resolve_left (fun q => absurd q.1 (by omega))
                      refine g_lload F (q := 404) (dk dL_knock_5 13 rfl) rfl 5 rfl ?_
                      refine g_lload F (q := 406) (dk dL_knock_5 14 rfl) rfl 6 rfl ?_
                      refine g_ladd F (q := 407) (dk dL_knock_5 15 rfl) rfl ?_
                      refine g_ldc2 F (q := 410) (v := 2) (dk dL_knock_5 16 rfl) rfl tq_510 ?_
                      refine h_SL F (av := [.long ((lsB r nt kn (nI (plc r ne nt kn)) ne) + (msB r nt kn (nI (plc r ne nt kn)) ne)), .long 2]) (st := []) (q_down (by decide)) ks_L_down tq_435 ⟨rfl, rfl⟩ (by decide) ⟨Nat.le_refl _, Nat.le_refl _⟩ rfl rfl (Nat.le_of_ble_eq_true rfl) (dk dL_knock_5 17 rfl) rfl (fun E410 hE410 => ?_)
                      obtain rfl := hE410
                      refine g_stl (y := (tmK r ne nt kn (nI (plc r ne nt kn)))) rfl ?_
                      refine g_lstore F (q := 415) (lv' := [(12, .long (tmK r ne nt kn (nI (plc r ne nt kn)))), (0, .ref (ad 0)), (1, .int (nI kn)), (2, .int (r (46 + 50 * 1 + 5 * kn + 3))), (5, .int (nI ((plc r ne nt kn)))), (6, .long (spW r ne nt kn (nI (plc r ne nt kn)))), (8, .long (lsB r nt kn (nI (plc r ne nt kn)) ne)), (10, .long (msB r nt kn (nI (plc r ne nt kn)) ne))]) (dk dL_knock_5 18 rfl) rfl (Nat.le_of_ble_eq_true rfl) rfl ?_
                      refine g_iconst F (q := 416) (v := (-1)) (dk dL_knock_5 19 rfl) rfl (by decide) ?_
                      refine g_istore F (q := 418) (lv' := [(14, .int (-1)), (12, .long (tmK r ne nt kn (nI (plc r ne nt kn)))), (0, .ref (ad 0)), (1, .int (nI kn)), (2, .int (r (46 + 50 * 1 + 5 * kn + 3))), (5, .int (nI ((plc r ne nt kn)))), (6, .long (spW r ne nt kn (nI (plc r ne nt kn)))), (8, .long (lsB r nt kn (nI (plc r ne nt kn)) ne)), (10, .long (msB r nt kn (nI (plc r ne nt kn)) ne))]) (dk dL_knock_5 20 rfl) rfl (Nat.le_of_ble_eq_true rfl) rfl ?_
                      refine g_ldc2 F (q := 421) (v := (-1)) (dk dL_knock_5 21 rfl) rfl tq_511 ?_
                      refine g_lstore F (q := 423) (lv' := [(15, .long (-1)), (14, .int (-1)), (12, .long (tmK r ne nt kn (nI (plc r ne nt kn)))), (0, .ref (ad 0)), (1, .int (nI kn)), (2, .int (r (46 + 50 * 1 + 5 * kn + 3))), (5, .int (nI ((plc r ne nt kn)))), (6, .long (spW r ne nt kn (nI (plc r ne nt kn)))), (8, .long (lsB r nt kn (nI (plc r ne nt kn)) ne)), (10, .long (msB r nt kn (nI (plc r ne nt kn)) ne))]) (dk dL_knock_5 22 rfl) rfl (Nat.le_of_ble_eq_true rfl) rfl ?_
                      refine g_iconst F (q := 424) (v := 0) (dk dL_knock_5 23 rfl) rfl (by decide) ?_
                      refine g_istore F (q := 426) (lv' := [(17, .int 0), (15, .long (-1)), (14, .int (-1)), (12, .long (tmK r ne nt kn (nI (plc r ne nt kn)))), (0, .ref (ad 0)), (1, .int (nI kn)), (2, .int (r (46 + 50 * 1 + 5 * kn + 3))), (5, .int (nI ((plc r ne nt kn)))), (6, .long (spW r ne nt kn (nI (plc r ne nt kn)))), (8, .long (lsB r nt kn (nI (plc r ne nt kn)) ne)), (10, .long (msB r nt kn (nI (plc r ne nt kn)) ne))]) (dk dL_knock_5 24 rfl) rfl (Nat.le_of_ble_eq_true rfl) rfl ?_
                      have K426 : ∀ (fu : Nat) (i : Nat) (wv : Int32) (fv : Int64) (E4 : Nat → va_E), ne - i < fu → (hQf : LQ cA ad E4 r ne nt nk nh ln txt d ps) → (hi : i ≤ ne) → (hq : wsQ r nt kn i (nI (plc r ne nt kn)) (tmK r ne nt kn (nI (plc r ne nt kn))) wv fv) → GG rm_L_knock 20 l D X 0 0 235 ad E4 426 [(0, .ref (ad 0)), (1, .int (nI kn)), (2, .int (r (46 + 50 * 1 + 5 * kn + 3))), (5, .int (nI ((plc r ne nt kn)))), (6, .long (spW r ne nt kn (nI (plc r ne nt kn)))), (8, .long (lsB r nt kn (nI (plc r ne nt kn)) ne)), (10, .long (msB r nt kn (nI (plc r ne nt kn)) ne)), (12, .long (tmK r ne nt kn (nI (plc r ne nt kn)))), (14, .int wv), (15, .long fv), (17, .int (nI i))] [] := by
                        intro fu
                        induction fu with
                        | zero => intro i wv fv E4 hfu_; exact absurd hfu_ (Nat.not_lt_zero _)
                        | succ fu ih =>
                          intro i wv fv E4 hfu_ hQf hi hq
                          refine g_iload F (q := 428) (dk dL_knock_5 25 rfl) rfl 10 rfl ?_
                          refine g_aload_n F (q := 429) (dk dL_knock_5 26 rfl) rfl rfl 0 rfl ?_
                          refine g_iconst F (q := 430) (v := 0) (dk dL_knock_5 27 rfl) rfl (by decide) ?_
                          refine h_VI F (av := [.int 0]) (st := [.int (nI i)]) (q_count hQf (vC0 hV)) kv_X6_count tq_293 hQf.e0 ⟨rfl, rfl⟩ (by decide) ⟨Nat.le_refl _, Nat.le_refl _⟩ rfl rfl (Nat.le_of_ble_eq_true rfl) (dk dL_knock_5 28 rfl) rfl (fun E430 hQ430 => ?_)
                          refine g_icmp_ge F (q := 436) (tgt := 539) (dk dL_knock_5 29 rfl) (by decide) rfl (fun c433 => ?_) (fun c433 => ?_)
                          · have nc433 : ne ≤ i := (nI_leI (a := ne) (b := i) (by omega) (by omega)).mp c433
                            obtain rfl : ne = i := by omega
                            obtain ⟨-, rfl, rfl⟩ := hq.resolve_left (fun q => absurd q.1 (by omega))
                            refine g_lload F (q := 541) (dk dL_knock_7 4 rfl) rfl 6 rfl ?_
                            refine g_lload F (q := 543) (dk dL_knock_7 5 rfl) rfl 5 rfl ?_
                            refine g_lsub F (q := 544) (dk dL_knock_7 6 rfl) rfl ?_
                            refine g_lload F (q := 546) (dk dL_knock_7 7 rfl) rfl 4 rfl ?_
                            refine g_lcmp_ne F (q := 550) (tgt := 611) (dk dL_knock_7 8 rfl) (dk dL_knock_7 9 rfl) (by decide) rfl (fun c546 => absurd c546 (fun h => h rfl)) (fun c546 => ?_)
                            refine g_aload_n F (q := 551) (dk dL_knock_7 10 rfl) rfl rfl 0 rfl ?_
                            refine g_iload_n F (q := 552) (dk dL_knock_7 11 rfl) rfl rfl 1 rfl ?_
                            refine g_iconst F (q := 553) (v := 1) (dk dL_knock_7 12 rfl) rfl (by decide) ?_
                            refine h_VL F (av := [.int (nI kn), .int 1]) (st := []) (q_found hQ430 (vF1 hV hk hc2)) kv_X6_found tq_475 hQ430.e0 ⟨rfl, rfl⟩ (by decide) ⟨Nat.le_refl _, Nat.le_refl _⟩ rfl rfl (Nat.le_of_ble_eq_true rfl) (dk dL_knock_7 13 rfl) rfl (fun E553 hQ553 => ?_)
                            refine g_lload F (q := 558) (dk dL_knock_7 14 rfl) rfl 7 rfl ?_
                            refine g_lcmp_ne F (q := 562) (tgt := 611) (dk dL_knock_7 15 rfl) (dk dL_knock_7 16 rfl) (by decide) rfl (fun c558 => absurd c558 (fun h => h rfl)) (fun c558 => ?_)
                            refine g_aload_n F (q := 563) (dk dL_knock_7 17 rfl) rfl rfl 0 rfl ?_
                            refine g_iload_n F (q := 564) (dk dL_knock_7 18 rfl) rfl rfl 1 rfl ?_
                            refine g_iconst F (q := 565) (v := 4) (dk dL_knock_7 19 rfl) rfl (by decide) ?_
                            refine h_VL F (av := [.int (nI kn), .int 4]) (st := []) (q_found hQ553 (vF4 hV hk hc2)) kv_X6_found tq_475 hQ553.e0 ⟨rfl, rfl⟩ (by decide) ⟨Nat.le_refl _, Nat.le_refl _⟩ rfl rfl (Nat.le_of_ble_eq_true rfl) (dk dL_knock_7 20 rfl) rfl (fun E565 hQ565 => ?_)
                            refine g_lload F (q := 570) (dk dL_knock_7 21 rfl) rfl 4 rfl ?_
                            refine g_ldc2 F (q := 573) (v := 1000) (dk dL_knock_7 22 rfl) rfl tq_434 ?_
                            refine g_aload_n F (q := 574) (dk dL_knock_7 23 rfl) rfl rfl 0 rfl ?_
                            refine g_iconst F (q := 575) (v := 4) (dk dL_knock_7 24 rfl) rfl (by decide) ?_
                            refine h_VI F (av := [.int 4]) (st := [.long 1000, .long (spW r ne nt kn (nI (plc r ne nt kn))), .long (if (spW r ne nt kn (nI (plc r ne nt kn))) ≤ 1000 * (r 4).toInt64 then 1 else 0)]) (q_count hQ565 (vC4 hV)) kv_X6_count tq_293 hQ565.e0 ⟨rfl, rfl⟩ (by decide) ⟨Nat.le_refl _, Nat.le_refl _⟩ rfl rfl (Nat.le_of_ble_eq_true rfl) (dk dL_knock_7 25 rfl) rfl (fun E575 hQ575 => ?_)
                            refine g_i2l F (q := 579) (dk dL_knock_7 26 rfl) rfl ?_
                            refine g_lmul F (q := 580) (dk dL_knock_7 27 rfl) rfl ?_
                            refine g_lcmp_gt F (q := 584) (tgt := 588) (dk dL_knock_7 28 rfl) (dk dL_knock_7 29 rfl) (by decide) rfl (fun c580 => ?_) (fun c580 => ?_)
                            · refine g_iconst F (q := 589) (v := 0) (dk dL_knock_7 32 rfl) rfl (by decide) ?_
                              refine g_i2l F (q := 590) (dk dL_knock_7 33 rfl) rfl ?_
                              refine g_lcmp_ne F (q := 594) (tgt := 611) (dk dL_knock_7 34 rfl) (dk dL_knock_7 35 rfl) (by decide) rfl (fun c590 => absurd c590 (fun h => h (by rw [if_neg (Int64.not_le.mpr c580)]; decide))) (fun c590 => ?_)
                              refine g_aload_n F (q := 595) (dk dL_knock_7 36 rfl) rfl rfl 0 rfl ?_
                              refine g_iload_n F (q := 596) (dk dL_knock_7 37 rfl) rfl rfl 1 rfl ?_
                              refine g_iconst F (q := 597) (v := 5) (dk dL_knock_7 38 rfl) rfl (by decide) ?_
                              refine h_VL F (av := [.int (nI kn), .int 5]) (st := []) (q_found hQ575 (vF5 hV hk hc2)) kv_X6_found tq_475 hQ575.e0 ⟨rfl, rfl⟩ (by decide) ⟨Nat.le_refl _, Nat.le_refl _⟩ rfl rfl (Nat.le_of_ble_eq_true rfl) (dk dL_knock_7 39 rfl) rfl (fun E597 hQ597 => ?_)
                              refine g_iload F (q := 602) (dk dL_knock_8 0 rfl) rfl 8 rfl ?_
                              refine g_i2l F (q := 603) (dk dL_knock_8 1 rfl) rfl ?_
                              refine g_lcmp_ne F (q := 607) (tgt := 611) (dk dL_knock_8 2 rfl) (dk dL_knock_8 3 rfl) (by decide) rfl (fun c603 => absurd c603 (fun h => h rfl)) (fun c603 => ?_)
                              refine g_iconst F (q := 608) (v := 1) (dk dL_knock_8 4 rfl) rfl (by decide) ?_
                              refine g_goto F (tgt := 612) (dk dL_knock_8 5 rfl) (by decide) ?_
                              refine g_istore F (q := 614) (lv' := [(17, .int 1), (0, .ref (ad 0)), (1, .int (nI kn)), (2, .int (r (46 + 50 * 1 + 5 * kn + 3))), (5, .int (nI ((plc r ne nt kn)))), (6, .long (spW r ne nt kn (nI (plc r ne nt kn)))), (8, .long (lsB r nt kn (nI (plc r ne nt kn)) ne)), (10, .long (msB r nt kn (nI (plc r ne nt kn)) ne)), (12, .long (tmK r ne nt kn (nI (plc r ne nt kn)))), (14, .int (nI (hI r kn ne (wsA r nt kn (nI (plc r ne nt kn)) (tmK r ne nt kn (nI (plc r ne nt kn))) ne).1))), (15, .long ((wsA r nt kn (nI (plc r ne nt kn)) (tmK r ne nt kn (nI (plc r ne nt kn))) ne).2))]) (dk dL_knock_8 7 rfl) rfl (Nat.le_of_ble_eq_true rfl) rfl ?_
                              refine g_iload F (q := 616) (dk dL_knock_8 8 rfl) rfl 0 rfl ?_
                              refine g_if_eq F (q := 619) (tgt := 671) (dk dL_knock_8 9 rfl) (by decide) rfl (fun h => absurd h (by decide)) (fun _ => ?_)
                              refine g_aload_n F (q := 620) (dk dL_knock_8 10 rfl) rfl rfl 1 rfl ?_
                              refine g_iload_n F (q := 621) (dk dL_knock_8 11 rfl) rfl rfl 2 rfl ?_
                              refine g_iload F (q := 623) (dk dL_knock_8 12 rfl) rfl 4 rfl ?_
                              refine h_VL F (av := [.int (nI kn), .int (nI ((plc r ne nt kn)))]) (st := []) (q_spread hQ597 (vS hV hk hc2 plc_b)) kv_X6_spread tq_495 hQ597.e0 ⟨rfl, rfl⟩ (by decide) ⟨Nat.le_refl _, Nat.le_refl _⟩ rfl rfl (Nat.le_of_ble_eq_true rfl) (dk dL_knock_8 13 rfl) rfl (fun E623 hQ623 => ?_)
                              refine g_lload F (q := 628) (dk dL_knock_8 14 rfl) rfl 5 rfl ?_
                              refine g_lcmp_ne F (q := 632) (tgt := 671) (dk dL_knock_8 15 rfl) (dk dL_knock_8 16 rfl) (by decide) rfl (fun c628 => absurd c628 (fun h => h rfl)) (fun c628 => ?_)
                              refine g_aload_n F (q := 633) (dk dL_knock_8 17 rfl) rfl rfl 1 rfl ?_
                              refine g_iload_n F (q := 634) (dk dL_knock_8 18 rfl) rfl rfl 2 rfl ?_
                              refine g_iconst F (q := 635) (v := 2) (dk dL_knock_8 19 rfl) rfl (by decide) ?_
                              refine h_VI F (av := [.int (nI kn), .int 2]) (st := []) (q_truth hQ623 (vT2 hV hk hc2)) kv_X6_truth tq_500 hQ623.e0 ⟨rfl, rfl⟩ (by decide) ⟨Nat.le_refl _, Nat.le_refl _⟩ rfl rfl (Nat.le_of_ble_eq_true rfl) (dk dL_knock_8 20 rfl) rfl (fun E635 hQ635 => ?_)
                              refine g_iload F (q := 640) (dk dL_knock_8 21 rfl) rfl 4 rfl ?_
                              refine g_aload_n F (q := 641) (dk dL_knock_8 22 rfl) rfl rfl 1 rfl ?_
                              refine g_iload_n F (q := 642) (dk dL_knock_8 23 rfl) rfl rfl 2 rfl ?_
                              refine g_iconst F (q := 643) (v := 0) (dk dL_knock_8 24 rfl) rfl (by decide) ?_
                              refine h_VI F (av := [.int (nI kn), .int 0]) (st := [.int (nI ((plc r ne nt kn))), .int (far (nI (plc r ne nt kn)) (r (46 + 50 * 1 + 5 * kn + 0)))]) (q_truth hQ635 (vT0 hV hk)) kv_X6_truth tq_500 hQ635.e0 ⟨rfl, rfl⟩ (by decide) ⟨Nat.le_refl _, Nat.le_refl _⟩ rfl rfl (Nat.le_of_ble_eq_true rfl) (dk dL_knock_8 25 rfl) rfl (fun E643 hQ643 => ?_)
                              refine h_SI F (av := [.int (nI ((plc r ne nt kn))), .int (r (46 + 50 * 1 + 5 * kn + 0))]) (st := [.int (far (nI (plc r ne nt kn)) (r (46 + 50 * 1 + 5 * kn + 0)))]) q_far ks_L_far tq_413 ⟨rfl, rfl⟩ (by decide) ⟨Nat.le_refl _, Nat.le_refl _⟩ rfl rfl (Nat.le_of_ble_eq_true rfl) (dk dL_knock_8 26 rfl) rfl (fun E646 hE646 => ?_)
                              obtain rfl := hE646
                              refine g_icmp_ne F (q := 652) (tgt := 671) (dk dL_knock_8 27 rfl) (by decide) rfl (fun c649 => absurd c649 (fun h => h rfl)) (fun c649 => ?_)
                              refine g_aload_n F (q := 653) (dk dL_knock_8 28 rfl) rfl rfl 1 rfl ?_
                              refine g_iload_n F (q := 654) (dk dL_knock_8 29 rfl) rfl rfl 2 rfl ?_
                              refine g_sipush F (q := 657) (v := 1001) (dk dL_knock_8 30 rfl) rfl (by decide) ?_
                              refine h_VL F (av := [.int (nI kn), .int 1001]) (st := []) (q_spread hQ643 (vSb hV hk)) kv_X6_spread tq_495 hQ643.e0 ⟨rfl, rfl⟩ (by decide) ⟨Nat.le_refl _, Nat.le_refl _⟩ rfl rfl (Nat.le_of_ble_eq_true rfl) (dk dL_knock_8 31 rfl) rfl (fun E657 hQ657 => ?_)
                              refine g_ldc2 F (q := 663) (v := (-9223372036854775806)) (dk dL_knock_8 32 rfl) rfl tq_465 ?_
                              refine g_lcmp_ne F (q := 667) (tgt := 671) (dk dL_knock_8 33 rfl) (dk dL_knock_8 34 rfl) (by decide) rfl (fun h => absurd h (by decide)) (fun _ => ?_)
                              refine g_iconst F (q := 668) (v := 1) (dk dL_knock_8 35 rfl) rfl (by decide) ?_
                              refine g_goto F (tgt := 672) (dk dL_knock_8 36 rfl) (by decide) ?_
                              refine hret 1 E657 _ _ (dk dL_knock_8 38 rfl) rfl ?_
                              exact ⟨rfl, hQ657⟩
                            · refine g_iconst F (q := 585) (v := 1) (dk dL_knock_7 30 rfl) rfl (by decide) ?_
                              refine g_goto F (tgt := 589) (dk dL_knock_7 31 rfl) (by decide) ?_
                              refine g_i2l F (q := 590) (dk dL_knock_7 33 rfl) rfl ?_
                              refine g_lcmp_ne F (q := 594) (tgt := 611) (dk dL_knock_7 34 rfl) (dk dL_knock_7 35 rfl) (by decide) rfl (fun c590 => absurd c590 (fun h => h (by rw [if_pos (Int64.not_lt.mp c580)]; decide))) (fun c590 => ?_)
                              refine g_aload_n F (q := 595) (dk dL_knock_7 36 rfl) rfl rfl 0 rfl ?_
                              refine g_iload_n F (q := 596) (dk dL_knock_7 37 rfl) rfl rfl 1 rfl ?_
                              refine g_iconst F (q := 597) (v := 5) (dk dL_knock_7 38 rfl) rfl (by decide) ?_
                              refine h_VL F (av := [.int (nI kn), .int 5]) (st := []) (q_found hQ575 (vF5 hV hk hc2)) kv_X6_found tq_475 hQ575.e0 ⟨rfl, rfl⟩ (by decide) ⟨Nat.le_refl _, Nat.le_refl _⟩ rfl rfl (Nat.le_of_ble_eq_true rfl) (dk dL_knock_7 39 rfl) rfl (fun E597 hQ597 => ?_)
                              refine g_iload F (q := 602) (dk dL_knock_8 0 rfl) rfl 8 rfl ?_
                              refine g_i2l F (q := 603) (dk dL_knock_8 1 rfl) rfl ?_
                              refine g_lcmp_ne F (q := 607) (tgt := 611) (dk dL_knock_8 2 rfl) (dk dL_knock_8 3 rfl) (by decide) rfl (fun c603 => absurd c603 (fun h => h rfl)) (fun c603 => ?_)
                              refine g_iconst F (q := 608) (v := 1) (dk dL_knock_8 4 rfl) rfl (by decide) ?_
                              refine g_goto F (tgt := 612) (dk dL_knock_8 5 rfl) (by decide) ?_
                              refine g_istore F (q := 614) (lv' := [(17, .int 1), (0, .ref (ad 0)), (1, .int (nI kn)), (2, .int (r (46 + 50 * 1 + 5 * kn + 3))), (5, .int (nI ((plc r ne nt kn)))), (6, .long (spW r ne nt kn (nI (plc r ne nt kn)))), (8, .long (lsB r nt kn (nI (plc r ne nt kn)) ne)), (10, .long (msB r nt kn (nI (plc r ne nt kn)) ne)), (12, .long (tmK r ne nt kn (nI (plc r ne nt kn)))), (14, .int (nI (hI r kn ne (wsA r nt kn (nI (plc r ne nt kn)) (tmK r ne nt kn (nI (plc r ne nt kn))) ne).1))), (15, .long ((wsA r nt kn (nI (plc r ne nt kn)) (tmK r ne nt kn (nI (plc r ne nt kn))) ne).2))]) (dk dL_knock_8 7 rfl) rfl (Nat.le_of_ble_eq_true rfl) rfl ?_
                              refine g_iload F (q := 616) (dk dL_knock_8 8 rfl) rfl 0 rfl ?_
                              refine g_if_eq F (q := 619) (tgt := 671) (dk dL_knock_8 9 rfl) (by decide) rfl (fun h => absurd h (by decide)) (fun _ => ?_)
                              refine g_aload_n F (q := 620) (dk dL_knock_8 10 rfl) rfl rfl 1 rfl ?_
                              refine g_iload_n F (q := 621) (dk dL_knock_8 11 rfl) rfl rfl 2 rfl ?_
                              refine g_iload F (q := 623) (dk dL_knock_8 12 rfl) rfl 4 rfl ?_
                              refine h_VL F (av := [.int (nI kn), .int (nI ((plc r ne nt kn)))]) (st := []) (q_spread hQ597 (vS hV hk hc2 plc_b)) kv_X6_spread tq_495 hQ597.e0 ⟨rfl, rfl⟩ (by decide) ⟨Nat.le_refl _, Nat.le_refl _⟩ rfl rfl (Nat.le_of_ble_eq_true rfl) (dk dL_knock_8 13 rfl) rfl (fun E623 hQ623 => ?_)
                              refine g_lload F (q := 628) (dk dL_knock_8 14 rfl) rfl 5 rfl ?_
                              refine g_lcmp_ne F (q := 632) (tgt := 671) (dk dL_knock_8 15 rfl) (dk dL_knock_8 16 rfl) (by decide) rfl (fun c628 => absurd c628 (fun h => h rfl)) (fun c628 => ?_)
                              refine g_aload_n F (q := 633) (dk dL_knock_8 17 rfl) rfl rfl 1 rfl ?_
                              refine g_iload_n F (q := 634) (dk dL_knock_8 18 rfl) rfl rfl 2 rfl ?_
                              refine g_iconst F (q := 635) (v := 2) (dk dL_knock_8 19 rfl) rfl (by decide) ?_
                              refine h_VI F (av := [.int (nI kn), .int 2]) (st := []) (q_truth hQ623 (vT2 hV hk hc2)) kv_X6_truth tq_500 hQ623.e0 ⟨rfl, rfl⟩ (by decide) ⟨Nat.le_refl _, Nat.le_refl _⟩ rfl rfl (Nat.le_of_ble_eq_true rfl) (dk dL_knock_8 20 rfl) rfl (fun E635 hQ635 => ?_)
                              refine g_iload F (q := 640) (dk dL_knock_8 21 rfl) rfl 4 rfl ?_
                              refine g_aload_n F (q := 641) (dk dL_knock_8 22 rfl) rfl rfl 1 rfl ?_
                              refine g_iload_n F (q := 642) (dk dL_knock_8 23 rfl) rfl rfl 2 rfl ?_
                              refine g_iconst F (q := 643) (v := 0) (dk dL_knock_8 24 rfl) rfl (by decide) ?_
                              refine h_VI F (av := [.int (nI kn), .int 0]) (st := [.int (nI ((plc r ne nt kn))), .int (far (nI (plc r ne nt kn)) (r (46 + 50 * 1 + 5 * kn + 0)))]) (q_truth hQ635 (vT0 hV hk)) kv_X6_truth tq_500 hQ635.e0 ⟨rfl, rfl⟩ (by decide) ⟨Nat.le_refl _, Nat.le_refl _⟩ rfl rfl (Nat.le_of_ble_eq_true rfl) (dk dL_knock_8 25 rfl) rfl (fun E643 hQ643 => ?_)
                              refine h_SI F (av := [.int (nI ((plc r ne nt kn))), .int (r (46 + 50 * 1 + 5 * kn + 0))]) (st := [.int (far (nI (plc r ne nt kn)) (r (46 + 50 * 1 + 5 * kn + 0)))]) q_far ks_L_far tq_413 ⟨rfl, rfl⟩ (by decide) ⟨Nat.le_refl _, Nat.le_refl _⟩ rfl rfl (Nat.le_of_ble_eq_true rfl) (dk dL_knock_8 26 rfl) rfl (fun E646 hE646 => ?_)
                              obtain rfl := hE646
                              refine g_icmp_ne F (q := 652) (tgt := 671) (dk dL_knock_8 27 rfl) (by decide) rfl (fun c649 => absurd c649 (fun h => h rfl)) (fun c649 => ?_)
                              refine g_aload_n F (q := 653) (dk dL_knock_8 28 rfl) rfl rfl 1 rfl ?_
                              refine g_iload_n F (q := 654) (dk dL_knock_8 29 rfl) rfl rfl 2 rfl ?_
                              refine g_sipush F (q := 657) (v := 1001) (dk dL_knock_8 30 rfl) rfl (by decide) ?_
                              refine h_VL F (av := [.int (nI kn), .int 1001]) (st := []) (q_spread hQ643 (vSb hV hk)) kv_X6_spread tq_495 hQ643.e0 ⟨rfl, rfl⟩ (by decide) ⟨Nat.le_refl _, Nat.le_refl _⟩ rfl rfl (Nat.le_of_ble_eq_true rfl) (dk dL_knock_8 31 rfl) rfl (fun E657 hQ657 => ?_)
                              refine g_ldc2 F (q := 663) (v := (-9223372036854775806)) (dk dL_knock_8 32 rfl) rfl tq_465 ?_
                              refine g_lcmp_ne F (q := 667) (tgt := 671) (dk dL_knock_8 33 rfl) (dk dL_knock_8 34 rfl) (by decide) rfl (fun h => absurd h (by decide)) (fun _ => ?_)
                              refine g_iconst F (q := 668) (v := 1) (dk dL_knock_8 35 rfl) rfl (by decide) ?_
                              refine g_goto F (tgt := 672) (dk dL_knock_8 36 rfl) (by decide) ?_
                              refine hret 1 E657 _ _ (dk dL_knock_8 38 rfl) rfl ?_
                              exact ⟨rfl, hQ657⟩
                          · have nc433 : ¬ ne ≤ i := fun h => c433 ((nI_leI (a := ne) (b := i) (by omega) (by omega)).mpr h)
                            refine g_aload_n F (q := 437) (dk dL_knock_5 30 rfl) rfl rfl 0 rfl ?_
                            refine g_iconst F (q := 438) (v := 1) (dk dL_knock_5 31 rfl) rfl (by decide) ?_
                            refine g_iload_n F (q := 439) (dk dL_knock_5 32 rfl) rfl rfl 1 rfl ?_
                            refine g_iload F (q := 441) (dk dL_knock_5 33 rfl) rfl 10 rfl ?_
                            refine h_VI F (av := [.int 1, .int (nI kn), .int (nI i)]) (st := []) (q_heard hQ430 (vH1 hV (show kn < nk by omega) (show i < ne by omega))) kv_X6_heard tq_386 hQ430.e0 ⟨rfl, rfl⟩ (by decide) ⟨Nat.le_refl _, Nat.le_refl _⟩ rfl rfl (Nat.le_of_ble_eq_true rfl) (dk dL_knock_5 34 rfl) rfl (fun E441 hQ441 => ?_)
                            have hrb := rb_hd (k := 1) (hV.rb1 hk (show i < 10 by omega))
                            refine g_bipush F (q := 446) (v := (-5)) (dk dL_knock_5 35 rfl) rfl (by decide) ?_
                            refine g_icmp_eq F (q := 449) (tgt := 533) (dk dL_knock_5 36 rfl) (by decide) rfl (fun c446 => ?_) (fun c446 => ?_)
                            · have hms : (r (146 + 100 * 1 + 10 * kn + i)) = MISS := hrb.elim (fun q => q.1) (fun q => absurd c446 q.2.1)
                              refine g_iinc F (q := 536) (v := (nI ((i + 1)))) (lv' := [(17, .int (nI ((i + 1)))), (0, .ref (ad 0)), (1, .int (nI kn)), (2, .int (r (46 + 50 * 1 + 5 * kn + 3))), (5, .int (nI ((plc r ne nt kn)))), (6, .long (spW r ne nt kn (nI (plc r ne nt kn)))), (8, .long (lsB r nt kn (nI (plc r ne nt kn)) ne)), (10, .long (msB r nt kn (nI (plc r ne nt kn)) ne)), (12, .long (tmK r ne nt kn (nI (plc r ne nt kn)))), (14, .int wv), (15, .long fv)]) (dk dL_knock_7 2 rfl) rfl 10 rfl (nI_1 _) (Nat.le_of_ble_eq_true rfl) rfl ?_
                              refine g_goto F (tgt := 426) (dk dL_knock_7 3 rfl) (by decide) ?_
                              refine g_lv (lv' := [(0, .ref (ad 0)), (1, .int (nI kn)), (2, .int (r (46 + 50 * 1 + 5 * kn + 3))), (5, .int (nI ((plc r ne nt kn)))), (6, .long (spW r ne nt kn (nI (plc r ne nt kn)))), (8, .long (lsB r nt kn (nI (plc r ne nt kn)) ne)), (10, .long (msB r nt kn (nI (plc r ne nt kn)) ne)), (12, .long (tmK r ne nt kn (nI (plc r ne nt kn)))), (14, .int wv), (15, .long fv), (17, .int (nI ((i + 1))))]) [1, 2, 3, 4, 5, 6, 7, 8, 9, 10, 0] rfl ?_
                              exact ih (i + 1) wv fv E441 (by omega) hQ441 (by omega) (wsQ_f hms hq)
                            · have hh := hrb.resolve_left (fun q => c446 q.2)
                              refine g_aload_n F (q := 450) (dk dL_knock_5 37 rfl) rfl rfl 0 rfl ?_
                              refine g_iload_n F (q := 451) (dk dL_knock_5 38 rfl) rfl rfl 1 rfl ?_
                              refine g_iload F (q := 453) (dk dL_knock_5 39 rfl) rfl 10 rfl ?_
                              refine h_VL F (av := [.int (nI kn), .int (nI i)]) (st := []) (q_putRight hQ441 (vPr hV hk (show i < ne by omega) hh.1)) kv_X6_putRight tq_469 hQ441.e0 ⟨rfl, rfl⟩ (by decide) ⟨Nat.le_refl _, Nat.le_refl _⟩ rfl rfl (Nat.le_of_ble_eq_true rfl) (dk dL_knock_6 0 rfl) rfl (fun E453 hQ453 => ?_)
                              refine g_ldc2 F (q := 459) (v := 1000) (dk dL_knock_6 1 rfl) rfl tq_434 ?_
                              refine g_iload_n F (q := 460) (dk dL_knock_6 2 rfl) rfl rfl 2 rfl ?_
                              refine g_i2l F (q := 461) (dk dL_knock_6 3 rfl) rfl ?_
                              refine g_lmul F (q := 462) (dk dL_knock_6 4 rfl) rfl ?_
                              refine g_iload F (q := 464) (dk dL_knock_6 5 rfl) rfl 3 rfl ?_
                              refine g_aload_n F (q := 465) (dk dL_knock_6 6 rfl) rfl rfl 0 rfl ?_
                              refine g_iload F (q := 467) (dk dL_knock_6 7 rfl) rfl 10 rfl ?_
                              refine g_iconst F (q := 468) (v := 0) (dk dL_knock_6 8 rfl) rfl (by decide) ?_
                              refine h_VI F (av := [.int (nI i), .int 0]) (st := [.int (nI ((plc r ne nt kn))), .long (1000 * (r (46 + 50 * 1 + 5 * kn + 3)).toInt64), .long (rgt r nt kn i)]) (q_ear hQ453 (vE0 hV (show i < ne by omega))) kv_X6_ear tq_399 hQ453.e0 ⟨rfl, rfl⟩ (by decide) ⟨Nat.le_refl _, Nat.le_refl _⟩ rfl rfl (Nat.le_of_ble_eq_true rfl) (dk dL_knock_6 9 rfl) rfl (fun E468 hQ468 => ?_)
                              refine h_SI F (av := [.int (nI ((plc r ne nt kn))), .int (r (6 + 4 * i + 0))]) (st := [.long (1000 * (r (46 + 50 * 1 + 5 * kn + 3)).toInt64), .long (rgt r nt kn i)]) q_far ks_L_far tq_413 ⟨rfl, rfl⟩ (by decide) ⟨Nat.le_refl _, Nat.le_refl _⟩ rfl rfl (Nat.le_of_ble_eq_true rfl) (dk dL_knock_6 10 rfl) rfl (fun E471 hE471 => ?_)
                              obtain rfl := hE471
                              refine g_i2l F (q := 475) (dk dL_knock_6 11 rfl) rfl ?_
                              refine g_lmul F (q := 476) (dk dL_knock_6 12 rfl) rfl ?_
                              refine g_lsub F (q := 477) (dk dL_knock_6 13 rfl) rfl ?_
                              refine g_stl (y := (bg r nt kn (nI (plc r ne nt kn)) i)) rfl ?_
                              refine g_lload F (q := 479) (dk dL_knock_6 14 rfl) rfl 7 rfl ?_
                              refine g_lsub F (q := 480) (dk dL_knock_6 15 rfl) rfl ?_
                              refine g_lstore F (q := 482) (lv' := [(18, .long ((bg r nt kn (nI (plc r ne nt kn)) i) - (tmK r ne nt kn (nI (plc r ne nt kn))))), (0, .ref (ad 0)), (1, .int (nI kn)), (2, .int (r (46 + 50 * 1 + 5 * kn + 3))), (5, .int (nI ((plc r ne nt kn)))), (6, .long (spW r ne nt kn (nI (plc r ne nt kn)))), (8, .long (lsB r nt kn (nI (plc r ne nt kn)) ne)), (10, .long (msB r nt kn (nI (plc r ne nt kn)) ne)), (12, .long (tmK r ne nt kn (nI (plc r ne nt kn)))), (14, .int wv), (15, .long fv), (17, .int (nI i))]) (dk dL_knock_6 16 rfl) rfl (Nat.le_of_ble_eq_true rfl) rfl ?_
                              refine g_lload F (q := 484) (dk dL_knock_6 17 rfl) rfl 0 rfl ?_
                              refine g_lconst F (q := 485) (v := 0) (dk dL_knock_6 18 rfl) rfl (by decide) ?_
                              refine g_lcmp_ge F (q := 489) (tgt := 495) (dk dL_knock_6 19 rfl) (dk dL_knock_6 20 rfl) (by decide) rfl (fun c485 => ?_) (fun c485 => ?_)
                              · refine g_lload F (q := 497) (dk dL_knock_6 24 rfl) rfl 0 rfl ?_
                                refine g_stl (y := (ab64 ((bg r nt kn (nI (plc r ne nt kn)) i) - (tmK r ne nt kn (nI (plc r ne nt kn)))))) (if_neg (Int64.not_lt.mpr c485)).symm ?_
                                refine g_lstore F (q := 499) (lv' := [(18, .long (ab64 ((bg r nt kn (nI (plc r ne nt kn)) i) - (tmK r ne nt kn (nI (plc r ne nt kn)))))), (0, .ref (ad 0)), (1, .int (nI kn)), (2, .int (r (46 + 50 * 1 + 5 * kn + 3))), (5, .int (nI ((plc r ne nt kn)))), (6, .long (spW r ne nt kn (nI (plc r ne nt kn)))), (8, .long (lsB r nt kn (nI (plc r ne nt kn)) ne)), (10, .long (msB r nt kn (nI (plc r ne nt kn)) ne)), (12, .long (tmK r ne nt kn (nI (plc r ne nt kn)))), (14, .int wv), (15, .long fv), (17, .int (nI i))]) (dk dL_knock_6 25 rfl) rfl (Nat.le_of_ble_eq_true rfl) rfl ?_
                                refine g_lload F (q := 501) (dk dL_knock_6 26 rfl) rfl 0 rfl ?_
                                refine g_lload F (q := 503) (dk dL_knock_6 27 rfl) rfl 10 rfl ?_
                                refine g_lcmp_le F (q := 507) (tgt := 512) (dk dL_knock_6 28 rfl) (dk dL_knock_6 29 rfl) (by decide) rfl (fun c503 => ?_) (fun c503 => ?_)
                                · refine g_iload F (q := 514) (dk dL_knock_6 32 rfl) rfl 9 rfl ?_
                                  refine g_istore F (q := 516) (lv' := [(14, .int wv), (18, .long (ab64 ((bg r nt kn (nI (plc r ne nt kn)) i) - (tmK r ne nt kn (nI (plc r ne nt kn)))))), (0, .ref (ad 0)), (1, .int (nI kn)), (2, .int (r (46 + 50 * 1 + 5 * kn + 3))), (5, .int (nI ((plc r ne nt kn)))), (6, .long (spW r ne nt kn (nI (plc r ne nt kn)))), (8, .long (lsB r nt kn (nI (plc r ne nt kn)) ne)), (10, .long (msB r nt kn (nI (plc r ne nt kn)) ne)), (12, .long (tmK r ne nt kn (nI (plc r ne nt kn)))), (15, .long fv), (17, .int (nI i))]) (dk dL_knock_6 33 rfl) rfl (Nat.le_of_ble_eq_true rfl) rfl ?_
                                  refine g_lload F (q := 518) (dk dL_knock_6 34 rfl) rfl 1 rfl ?_
                                  refine g_lload F (q := 520) (dk dL_knock_6 35 rfl) rfl 10 rfl ?_
                                  refine g_lcmp_le F (q := 524) (tgt := 529) (dk dL_knock_6 36 rfl) (dk dL_knock_6 37 rfl) (by decide) rfl (fun c520 => ?_) (fun c520 => absurd c520 (fun h => h c503))
                                  refine g_lload F (q := 531) (dk dL_knock_7 0 rfl) rfl 10 rfl ?_
                                  refine g_lstore F (q := 533) (lv' := [(15, .long fv), (14, .int wv), (18, .long (ab64 ((bg r nt kn (nI (plc r ne nt kn)) i) - (tmK r ne nt kn (nI (plc r ne nt kn)))))), (0, .ref (ad 0)), (1, .int (nI kn)), (2, .int (r (46 + 50 * 1 + 5 * kn + 3))), (5, .int (nI ((plc r ne nt kn)))), (6, .long (spW r ne nt kn (nI (plc r ne nt kn)))), (8, .long (lsB r nt kn (nI (plc r ne nt kn)) ne)), (10, .long (msB r nt kn (nI (plc r ne nt kn)) ne)), (12, .long (tmK r ne nt kn (nI (plc r ne nt kn)))), (17, .int (nI i))]) (dk dL_knock_7 1 rfl) rfl (Nat.le_of_ble_eq_true rfl) rfl ?_
                                  refine g_iinc F (q := 536) (v := (nI ((i + 1)))) (lv' := [(17, .int (nI ((i + 1)))), (15, .long fv), (14, .int wv), (18, .long (ab64 ((bg r nt kn (nI (plc r ne nt kn)) i) - (tmK r ne nt kn (nI (plc r ne nt kn)))))), (0, .ref (ad 0)), (1, .int (nI kn)), (2, .int (r (46 + 50 * 1 + 5 * kn + 3))), (5, .int (nI ((plc r ne nt kn)))), (6, .long (spW r ne nt kn (nI (plc r ne nt kn)))), (8, .long (lsB r nt kn (nI (plc r ne nt kn)) ne)), (10, .long (msB r nt kn (nI (plc r ne nt kn)) ne)), (12, .long (tmK r ne nt kn (nI (plc r ne nt kn))))]) (dk dL_knock_7 2 rfl) rfl 11 rfl (nI_1 _) (Nat.le_of_ble_eq_true rfl) rfl ?_
                                  refine g_goto F (tgt := 426) (dk dL_knock_7 3 rfl) (by decide) ?_
                                  refine g_lv (lv' := [(0, .ref (ad 0)), (1, .int (nI kn)), (2, .int (r (46 + 50 * 1 + 5 * kn + 3))), (5, .int (nI ((plc r ne nt kn)))), (6, .long (spW r ne nt kn (nI (plc r ne nt kn)))), (8, .long (lsB r nt kn (nI (plc r ne nt kn)) ne)), (10, .long (msB r nt kn (nI (plc r ne nt kn)) ne)), (12, .long (tmK r ne nt kn (nI (plc r ne nt kn)))), (14, .int wv), (15, .long fv), (17, .int (nI ((i + 1))))]) [4, 5, 6, 7, 8, 9, 10, 11, 2, 1, 0] rfl ?_
                                  exact ih (i + 1) wv fv E468 (by omega) hQ468 (by omega) (wsQ_t hh.1 (ab_nn hV hk (show 0 < hC r kn ne by omega) plc_i (show i < ne by omega) hh.1) hq (if_neg (Int64.not_lt.mpr c503)).symm (if_neg (Int64.not_lt.mpr c503)).symm)
                                · refine g_iload F (q := 509) (dk dL_knock_6 30 rfl) rfl 11 rfl ?_
                                  refine g_goto F (tgt := 514) (dk dL_knock_6 31 rfl) (by decide) ?_
                                  refine g_istore F (q := 516) (lv' := [(14, .int (nI i)), (18, .long (ab64 ((bg r nt kn (nI (plc r ne nt kn)) i) - (tmK r ne nt kn (nI (plc r ne nt kn)))))), (0, .ref (ad 0)), (1, .int (nI kn)), (2, .int (r (46 + 50 * 1 + 5 * kn + 3))), (5, .int (nI ((plc r ne nt kn)))), (6, .long (spW r ne nt kn (nI (plc r ne nt kn)))), (8, .long (lsB r nt kn (nI (plc r ne nt kn)) ne)), (10, .long (msB r nt kn (nI (plc r ne nt kn)) ne)), (12, .long (tmK r ne nt kn (nI (plc r ne nt kn)))), (15, .long fv), (17, .int (nI i))]) (dk dL_knock_6 33 rfl) rfl (Nat.le_of_ble_eq_true rfl) rfl ?_
                                  refine g_lload F (q := 518) (dk dL_knock_6 34 rfl) rfl 1 rfl ?_
                                  refine g_lload F (q := 520) (dk dL_knock_6 35 rfl) rfl 10 rfl ?_
                                  refine g_lcmp_le F (q := 524) (tgt := 529) (dk dL_knock_6 36 rfl) (dk dL_knock_6 37 rfl) (by decide) rfl (fun c520 => absurd c520 c503) (fun c520 => ?_)
                                  refine g_lload F (q := 526) (dk dL_knock_6 38 rfl) rfl 1 rfl ?_
                                  refine g_goto F (tgt := 531) (dk dL_knock_6 39 rfl) (by decide) ?_
                                  refine g_lstore F (q := 533) (lv' := [(15, .long (ab64 ((bg r nt kn (nI (plc r ne nt kn)) i) - (tmK r ne nt kn (nI (plc r ne nt kn)))))), (14, .int (nI i)), (18, .long (ab64 ((bg r nt kn (nI (plc r ne nt kn)) i) - (tmK r ne nt kn (nI (plc r ne nt kn)))))), (0, .ref (ad 0)), (1, .int (nI kn)), (2, .int (r (46 + 50 * 1 + 5 * kn + 3))), (5, .int (nI ((plc r ne nt kn)))), (6, .long (spW r ne nt kn (nI (plc r ne nt kn)))), (8, .long (lsB r nt kn (nI (plc r ne nt kn)) ne)), (10, .long (msB r nt kn (nI (plc r ne nt kn)) ne)), (12, .long (tmK r ne nt kn (nI (plc r ne nt kn)))), (17, .int (nI i))]) (dk dL_knock_7 1 rfl) rfl (Nat.le_of_ble_eq_true rfl) rfl ?_
                                  refine g_iinc F (q := 536) (v := (nI ((i + 1)))) (lv' := [(17, .int (nI ((i + 1)))), (15, .long (ab64 ((bg r nt kn (nI (plc r ne nt kn)) i) - (tmK r ne nt kn (nI (plc r ne nt kn)))))), (14, .int (nI i)), (18, .long (ab64 ((bg r nt kn (nI (plc r ne nt kn)) i) - (tmK r ne nt kn (nI (plc r ne nt kn)))))), (0, .ref (ad 0)), (1, .int (nI kn)), (2, .int (r (46 + 50 * 1 + 5 * kn + 3))), (5, .int (nI ((plc r ne nt kn)))), (6, .long (spW r ne nt kn (nI (plc r ne nt kn)))), (8, .long (lsB r nt kn (nI (plc r ne nt kn)) ne)), (10, .long (msB r nt kn (nI (plc r ne nt kn)) ne)), (12, .long (tmK r ne nt kn (nI (plc r ne nt kn))))]) (dk dL_knock_7 2 rfl) rfl 11 rfl (nI_1 _) (Nat.le_of_ble_eq_true rfl) rfl ?_
                                  refine g_goto F (tgt := 426) (dk dL_knock_7 3 rfl) (by decide) ?_
                                  refine g_lv (lv' := [(0, .ref (ad 0)), (1, .int (nI kn)), (2, .int (r (46 + 50 * 1 + 5 * kn + 3))), (5, .int (nI ((plc r ne nt kn)))), (6, .long (spW r ne nt kn (nI (plc r ne nt kn)))), (8, .long (lsB r nt kn (nI (plc r ne nt kn)) ne)), (10, .long (msB r nt kn (nI (plc r ne nt kn)) ne)), (12, .long (tmK r ne nt kn (nI (plc r ne nt kn)))), (14, .int (nI i)), (15, .long (ab64 ((bg r nt kn (nI (plc r ne nt kn)) i) - (tmK r ne nt kn (nI (plc r ne nt kn)))))), (17, .int (nI ((i + 1))))]) [4, 5, 6, 7, 8, 9, 10, 11, 2, 1, 0] rfl ?_
                                  exact ih (i + 1) (nI i) (ab64 ((bg r nt kn (nI (plc r ne nt kn)) i) - (tmK r ne nt kn (nI (plc r ne nt kn))))) E468 (by omega) hQ468 (by omega) (wsQ_t hh.1 (ab_nn hV hk (show 0 < hC r kn ne by omega) plc_i (show i < ne by omega) hh.1) hq (if_pos (Int64.not_le.mp c503)).symm (if_pos (Int64.not_le.mp c503)).symm)
                              · refine g_lload F (q := 491) (dk dL_knock_6 21 rfl) rfl 0 rfl ?_
                                refine g_lneg F (q := 492) (dk dL_knock_6 22 rfl) rfl ?_
                                refine g_goto F (tgt := 497) (dk dL_knock_6 23 rfl) (by decide) ?_
                                refine g_stl (y := (ab64 ((bg r nt kn (nI (plc r ne nt kn)) i) - (tmK r ne nt kn (nI (plc r ne nt kn)))))) (if_pos (Int64.not_le.mp c485)).symm ?_
                                refine g_lstore F (q := 499) (lv' := [(18, .long (ab64 ((bg r nt kn (nI (plc r ne nt kn)) i) - (tmK r ne nt kn (nI (plc r ne nt kn)))))), (0, .ref (ad 0)), (1, .int (nI kn)), (2, .int (r (46 + 50 * 1 + 5 * kn + 3))), (5, .int (nI ((plc r ne nt kn)))), (6, .long (spW r ne nt kn (nI (plc r ne nt kn)))), (8, .long (lsB r nt kn (nI (plc r ne nt kn)) ne)), (10, .long (msB r nt kn (nI (plc r ne nt kn)) ne)), (12, .long (tmK r ne nt kn (nI (plc r ne nt kn)))), (14, .int wv), (15, .long fv), (17, .int (nI i))]) (dk dL_knock_6 25 rfl) rfl (Nat.le_of_ble_eq_true rfl) rfl ?_
                                refine g_lload F (q := 501) (dk dL_knock_6 26 rfl) rfl 0 rfl ?_
                                refine g_lload F (q := 503) (dk dL_knock_6 27 rfl) rfl 10 rfl ?_
                                refine g_lcmp_le F (q := 507) (tgt := 512) (dk dL_knock_6 28 rfl) (dk dL_knock_6 29 rfl) (by decide) rfl (fun c503 => ?_) (fun c503 => ?_)
                                · refine g_iload F (q := 514) (dk dL_knock_6 32 rfl) rfl 9 rfl ?_
                                  refine g_istore F (q := 516) (lv' := [(14, .int wv), (18, .long (ab64 ((bg r nt kn (nI (plc r ne nt kn)) i) - (tmK r ne nt kn (nI (plc r ne nt kn)))))), (0, .ref (ad 0)), (1, .int (nI kn)), (2, .int (r (46 + 50 * 1 + 5 * kn + 3))), (5, .int (nI ((plc r ne nt kn)))), (6, .long (spW r ne nt kn (nI (plc r ne nt kn)))), (8, .long (lsB r nt kn (nI (plc r ne nt kn)) ne)), (10, .long (msB r nt kn (nI (plc r ne nt kn)) ne)), (12, .long (tmK r ne nt kn (nI (plc r ne nt kn)))), (15, .long fv), (17, .int (nI i))]) (dk dL_knock_6 33 rfl) rfl (Nat.le_of_ble_eq_true rfl) rfl ?_
                                  refine g_lload F (q := 518) (dk dL_knock_6 34 rfl) rfl 1 rfl ?_
                                  refine g_lload F (q := 520) (dk dL_knock_6 35 rfl) rfl 10 rfl ?_
                                  refine g_lcmp_le F (q := 524) (tgt := 529) (dk dL_knock_6 36 rfl) (dk dL_knock_6 37 rfl) (by decide) rfl (fun c520 => ?_) (fun c520 => absurd c520 (fun h => h c503))
                                  refine g_lload F (q := 531) (dk dL_knock_7 0 rfl) rfl 10 rfl ?_
                                  refine g_lstore F (q := 533) (lv' := [(15, .long fv), (14, .int wv), (18, .long (ab64 ((bg r nt kn (nI (plc r ne nt kn)) i) - (tmK r ne nt kn (nI (plc r ne nt kn)))))), (0, .ref (ad 0)), (1, .int (nI kn)), (2, .int (r (46 + 50 * 1 + 5 * kn + 3))), (5, .int (nI ((plc r ne nt kn)))), (6, .long (spW r ne nt kn (nI (plc r ne nt kn)))), (8, .long (lsB r nt kn (nI (plc r ne nt kn)) ne)), (10, .long (msB r nt kn (nI (plc r ne nt kn)) ne)), (12, .long (tmK r ne nt kn (nI (plc r ne nt kn)))), (17, .int (nI i))]) (dk dL_knock_7 1 rfl) rfl (Nat.le_of_ble_eq_true rfl) rfl ?_
                                  refine g_iinc F (q := 536) (v := (nI ((i + 1)))) (lv' := [(17, .int (nI ((i + 1)))), (15, .long fv), (14, .int wv), (18, .long (ab64 ((bg r nt kn (nI (plc r ne nt kn)) i) - (tmK r ne nt kn (nI (plc r ne nt kn)))))), (0, .ref (ad 0)), (1, .int (nI kn)), (2, .int (r (46 + 50 * 1 + 5 * kn + 3))), (5, .int (nI ((plc r ne nt kn)))), (6, .long (spW r ne nt kn (nI (plc r ne nt kn)))), (8, .long (lsB r nt kn (nI (plc r ne nt kn)) ne)), (10, .long (msB r nt kn (nI (plc r ne nt kn)) ne)), (12, .long (tmK r ne nt kn (nI (plc r ne nt kn))))]) (dk dL_knock_7 2 rfl) rfl 11 rfl (nI_1 _) (Nat.le_of_ble_eq_true rfl) rfl ?_
                                  refine g_goto F (tgt := 426) (dk dL_knock_7 3 rfl) (by decide) ?_
                                  refine g_lv (lv' := [(0, .ref (ad 0)), (1, .int (nI kn)), (2, .int (r (46 + 50 * 1 + 5 * kn + 3))), (5, .int (nI ((plc r ne nt kn)))), (6, .long (spW r ne nt kn (nI (plc r ne nt kn)))), (8, .long (lsB r nt kn (nI (plc r ne nt kn)) ne)), (10, .long (msB r nt kn (nI (plc r ne nt kn)) ne)), (12, .long (tmK r ne nt kn (nI (plc r ne nt kn)))), (14, .int wv), (15, .long fv), (17, .int (nI ((i + 1))))]) [4, 5, 6, 7, 8, 9, 10, 11, 2, 1, 0] rfl ?_
                                  exact ih (i + 1) wv fv E468 (by omega) hQ468 (by omega) (wsQ_t hh.1 (ab_nn hV hk (show 0 < hC r kn ne by omega) plc_i (show i < ne by omega) hh.1) hq (if_neg (Int64.not_lt.mpr c503)).symm (if_neg (Int64.not_lt.mpr c503)).symm)
                                · refine g_iload F (q := 509) (dk dL_knock_6 30 rfl) rfl 11 rfl ?_
                                  refine g_goto F (tgt := 514) (dk dL_knock_6 31 rfl) (by decide) ?_
                                  refine g_istore F (q := 516) (lv' := [(14, .int (nI i)), (18, .long (ab64 ((bg r nt kn (nI (plc r ne nt kn)) i) - (tmK r ne nt kn (nI (plc r ne nt kn)))))), (0, .ref (ad 0)), (1, .int (nI kn)), (2, .int (r (46 + 50 * 1 + 5 * kn + 3))), (5, .int (nI ((plc r ne nt kn)))), (6, .long (spW r ne nt kn (nI (plc r ne nt kn)))), (8, .long (lsB r nt kn (nI (plc r ne nt kn)) ne)), (10, .long (msB r nt kn (nI (plc r ne nt kn)) ne)), (12, .long (tmK r ne nt kn (nI (plc r ne nt kn)))), (15, .long fv), (17, .int (nI i))]) (dk dL_knock_6 33 rfl) rfl (Nat.le_of_ble_eq_true rfl) rfl ?_
                                  refine g_lload F (q := 518) (dk dL_knock_6 34 rfl) rfl 1 rfl ?_
                                  refine g_lload F (q := 520) (dk dL_knock_6 35 rfl) rfl 10 rfl ?_
                                  refine g_lcmp_le F (q := 524) (tgt := 529) (dk dL_knock_6 36 rfl) (dk dL_knock_6 37 rfl) (by decide) rfl (fun c520 => absurd c520 c503) (fun c520 => ?_)
                                  refine g_lload F (q := 526) (dk dL_knock_6 38 rfl) rfl 1 rfl ?_
                                  refine g_goto F (tgt := 531) (dk dL_knock_6 39 rfl) (by decide) ?_
                                  refine g_lstore F (q := 533) (lv' := [(15, .long (ab64 ((bg r nt kn (nI (plc r ne nt kn)) i) - (tmK r ne nt kn (nI (plc r ne nt kn)))))), (14, .int (nI i)), (18, .long (ab64 ((bg r nt kn (nI (plc r ne nt kn)) i) - (tmK r ne nt kn (nI (plc r ne nt kn)))))), (0, .ref (ad 0)), (1, .int (nI kn)), (2, .int (r (46 + 50 * 1 + 5 * kn + 3))), (5, .int (nI ((plc r ne nt kn)))), (6, .long (spW r ne nt kn (nI (plc r ne nt kn)))), (8, .long (lsB r nt kn (nI (plc r ne nt kn)) ne)), (10, .long (msB r nt kn (nI (plc r ne nt kn)) ne)), (12, .long (tmK r ne nt kn (nI (plc r ne nt kn)))), (17, .int (nI i))]) (dk dL_knock_7 1 rfl) rfl (Nat.le_of_ble_eq_true rfl) rfl ?_
                                  refine g_iinc F (q := 536) (v := (nI ((i + 1)))) (lv' := [(17, .int (nI ((i + 1)))), (15, .long (ab64 ((bg r nt kn (nI (plc r ne nt kn)) i) - (tmK r ne nt kn (nI (plc r ne nt kn)))))), (14, .int (nI i)), (18, .long (ab64 ((bg r nt kn (nI (plc r ne nt kn)) i) - (tmK r ne nt kn (nI (plc r ne nt kn)))))), (0, .ref (ad 0)), (1, .int (nI kn)), (2, .int (r (46 + 50 * 1 + 5 * kn + 3))), (5, .int (nI ((plc r ne nt kn)))), (6, .long (spW r ne nt kn (nI (plc r ne nt kn)))), (8, .long (lsB r nt kn (nI (plc r ne nt kn)) ne)), (10, .long (msB r nt kn (nI (plc r ne nt kn)) ne)), (12, .long (tmK r ne nt kn (nI (plc r ne nt kn))))]) (dk dL_knock_7 2 rfl) rfl 11 rfl (nI_1 _) (Nat.le_of_ble_eq_true rfl) rfl ?_
                                  refine g_goto F (tgt := 426) (dk dL_knock_7 3 rfl) (by decide) ?_
                                  refine g_lv (lv' := [(0, .ref (ad 0)), (1, .int (nI kn)), (2, .int (r (46 + 50 * 1 + 5 * kn + 3))), (5, .int (nI ((plc r ne nt kn)))), (6, .long (spW r ne nt kn (nI (plc r ne nt kn)))), (8, .long (lsB r nt kn (nI (plc r ne nt kn)) ne)), (10, .long (msB r nt kn (nI (plc r ne nt kn)) ne)), (12, .long (tmK r ne nt kn (nI (plc r ne nt kn)))), (14, .int (nI i)), (15, .long (ab64 ((bg r nt kn (nI (plc r ne nt kn)) i) - (tmK r ne nt kn (nI (plc r ne nt kn)))))), (17, .int (nI ((i + 1))))]) [4, 5, 6, 7, 8, 9, 10, 11, 2, 1, 0] rfl ?_
                                  exact ih (i + 1) (nI i) (ab64 ((bg r nt kn (nI (plc r ne nt kn)) i) - (tmK r ne nt kn (nI (plc r ne nt kn))))) E468 (by omega) hQ468 (by omega) (wsQ_t hh.1 (ab_nn hV hk (show 0 < hC r kn ne by omega) plc_i (show i < ne by omega) hh.1) hq (if_pos (Int64.not_le.mp c503)).symm (if_pos (Int64.not_le.mp c503)).symm)
                      refine g_lv (lv' := [(0, .ref (ad 0)), (1, .int (nI kn)), (2, .int (r (46 + 50 * 1 + 5 * kn + 3))), (5, .int (nI ((plc r ne nt kn)))), (6, .long (spW r ne nt kn (nI (plc r ne nt kn)))), (8, .long (lsB r nt kn (nI (plc r ne nt kn)) ne)), (10, .long (msB r nt kn (nI (plc r ne nt kn)) ne)), (12, .long (tmK r ne nt kn (nI (plc r ne nt kn)))), (14, .int (-1)), (15, .long (-1)), (17, .int 0)]) [4, 5, 6, 7, 8, 9, 10, 3, 2, 1, 0] rfl ?_
                      exact K426 _ 0 (-1) (-1) E313 (Nat.lt_succ_self _) hQ313 (by omega) (Or.inl ⟨rfl, rfl⟩)
                    · have nc316 : ¬ ne ≤ i := fun h => c316 ((nI_leI (a := ne) (b := i) (by omega) (by omega)).mpr h)
                      refine g_aload_n F (q := 320) (dk dL_knock_4 10 rfl) rfl rfl 0 rfl ?_
                      refine g_iconst F (q := 321) (v := 1) (dk dL_knock_4 11 rfl) rfl (by decide) ?_
                      refine g_iload_n F (q := 322) (dk dL_knock_4 12 rfl) rfl rfl 1 rfl ?_
                      refine g_iload F (q := 324) (dk dL_knock_4 13 rfl) rfl 7 rfl ?_
                      refine h_VI F (av := [.int 1, .int (nI kn), .int (nI i)]) (st := []) (q_heard hQ313 (vH1 hV (show kn < nk by omega) (show i < ne by omega))) kv_X6_heard tq_386 hQ313.e0 ⟨rfl, rfl⟩ (by decide) ⟨Nat.le_refl _, Nat.le_refl _⟩ rfl rfl (Nat.le_of_ble_eq_true rfl) (dk dL_knock_4 14 rfl) rfl (fun E324 hQ324 => ?_)
                      have hrb := rb_hd (k := 1) (hV.rb1 hk (show i < 10 by omega))
                      refine g_bipush F (q := 329) (v := (-5)) (dk dL_knock_4 15 rfl) rfl (by decide) ?_
                      refine g_icmp_eq F (q := 332) (tgt := 396) (dk dL_knock_4 16 rfl) (by decide) rfl (fun c329 => ?_) (fun c329 => ?_)
                      · have hms : (r (146 + 100 * 1 + 10 * kn + i)) = MISS := hrb.elim (fun q => q.1) (fun q => absurd c329 q.2.1)
                        refine g_iinc F (q := 399) (v := (nI ((i + 1)))) (lv' := [(12, .int (nI ((i + 1)))), (0, .ref (ad 0)), (1, .int (nI kn)), (2, .int (r (46 + 50 * 1 + 5 * kn + 3))), (5, .int (nI ((plc r ne nt kn)))), (6, .long (spW r ne nt kn (nI (plc r ne nt kn)))), (8, .long lo), (10, .long mo)]) (dk dL_knock_5 11 rfl) rfl 7 rfl (nI_1 _) (Nat.le_of_ble_eq_true rfl) rfl ?_
                        refine g_goto F (tgt := 309) (dk dL_knock_5 12 rfl) (by decide) ?_
                        refine g_lv (lv' := [(0, .ref (ad 0)), (1, .int (nI kn)), (2, .int (r (46 + 50 * 1 + 5 * kn + 3))), (5, .int (nI ((plc r ne nt kn)))), (6, .long (spW r ne nt kn (nI (plc r ne nt kn)))), (8, .long lo), (10, .long mo), (12, .int (nI ((i + 1))))]) [1, 2, 3, 4, 5, 6, 7, 0] rfl ?_
                        exact ih (i + 1) lo mo E324 (by omega) hQ324 (by omega) (lmQ_f hms hq)
                      · have hh := hrb.resolve_left (fun q => c329 q.2)
                        refine g_aload_n F (q := 333) (dk dL_knock_4 17 rfl) rfl rfl 0 rfl ?_
                        refine g_iload_n F (q := 334) (dk dL_knock_4 18 rfl) rfl rfl 1 rfl ?_
                        refine g_iload F (q := 336) (dk dL_knock_4 19 rfl) rfl 7 rfl ?_
                        refine h_VL F (av := [.int (nI kn), .int (nI i)]) (st := []) (q_putRight hQ324 (vPr hV hk (show i < ne by omega) hh.1)) kv_X6_putRight tq_469 hQ324.e0 ⟨rfl, rfl⟩ (by decide) ⟨Nat.le_refl _, Nat.le_refl _⟩ rfl rfl (Nat.le_of_ble_eq_true rfl) (dk dL_knock_4 20 rfl) rfl (fun E336 hQ336 => ?_)
                        refine g_ldc2 F (q := 342) (v := 1000) (dk dL_knock_4 21 rfl) rfl tq_434 ?_
                        refine g_iload_n F (q := 343) (dk dL_knock_4 22 rfl) rfl rfl 2 rfl ?_
                        refine g_i2l F (q := 344) (dk dL_knock_4 23 rfl) rfl ?_
                        refine g_lmul F (q := 345) (dk dL_knock_4 24 rfl) rfl ?_
                        refine g_iload F (q := 347) (dk dL_knock_4 25 rfl) rfl 3 rfl ?_
                        refine g_aload_n F (q := 348) (dk dL_knock_4 26 rfl) rfl rfl 0 rfl ?_
                        refine g_iload F (q := 350) (dk dL_knock_4 27 rfl) rfl 7 rfl ?_
                        refine g_iconst F (q := 351) (v := 0) (dk dL_knock_4 28 rfl) rfl (by decide) ?_
                        refine h_VI F (av := [.int (nI i), .int 0]) (st := [.int (nI ((plc r ne nt kn))), .long (1000 * (r (46 + 50 * 1 + 5 * kn + 3)).toInt64), .long (rgt r nt kn i)]) (q_ear hQ336 (vE0 hV (show i < ne by omega))) kv_X6_ear tq_399 hQ336.e0 ⟨rfl, rfl⟩ (by decide) ⟨Nat.le_refl _, Nat.le_refl _⟩ rfl rfl (Nat.le_of_ble_eq_true rfl) (dk dL_knock_4 29 rfl) rfl (fun E351 hQ351 => ?_)
                        refine h_SI F (av := [.int (nI ((plc r ne nt kn))), .int (r (6 + 4 * i + 0))]) (st := [.long (1000 * (r (46 + 50 * 1 + 5 * kn + 3)).toInt64), .long (rgt r nt kn i)]) q_far ks_L_far tq_413 ⟨rfl, rfl⟩ (by decide) ⟨Nat.le_refl _, Nat.le_refl _⟩ rfl rfl (Nat.le_of_ble_eq_true rfl) (dk dL_knock_4 30 rfl) rfl (fun E354 hE354 => ?_)
                        obtain rfl := hE354
                        refine g_i2l F (q := 358) (dk dL_knock_4 31 rfl) rfl ?_
                        refine g_lmul F (q := 359) (dk dL_knock_4 32 rfl) rfl ?_
                        refine g_lsub F (q := 360) (dk dL_knock_4 33 rfl) rfl ?_
                        refine g_stl (y := (bg r nt kn (nI (plc r ne nt kn)) i)) rfl ?_
                        refine g_lstore F (q := 362) (lv' := [(13, .long (bg r nt kn (nI (plc r ne nt kn)) i)), (0, .ref (ad 0)), (1, .int (nI kn)), (2, .int (r (46 + 50 * 1 + 5 * kn + 3))), (5, .int (nI ((plc r ne nt kn)))), (6, .long (spW r ne nt kn (nI (plc r ne nt kn)))), (8, .long lo), (10, .long mo), (12, .int (nI i))]) (dk dL_knock_4 34 rfl) rfl (Nat.le_of_ble_eq_true rfl) rfl ?_
                        refine g_lload F (q := 364) (dk dL_knock_4 35 rfl) rfl 0 rfl ?_
                        refine g_lload F (q := 366) (dk dL_knock_4 36 rfl) rfl 6 rfl ?_
                        refine g_lcmp_ge F (q := 370) (tgt := 375) (dk dL_knock_4 37 rfl) (dk dL_knock_4 38 rfl) (by decide) rfl (fun c366 => ?_) (fun c366 => ?_)
                        · refine g_lload F (q := 377) (dk dL_knock_5 1 rfl) rfl 6 rfl ?_
                          refine g_lstore F (q := 379) (lv' := [(8, .long lo), (13, .long (bg r nt kn (nI (plc r ne nt kn)) i)), (0, .ref (ad 0)), (1, .int (nI kn)), (2, .int (r (46 + 50 * 1 + 5 * kn + 3))), (5, .int (nI ((plc r ne nt kn)))), (6, .long (spW r ne nt kn (nI (plc r ne nt kn)))), (10, .long mo), (12, .int (nI i))]) (dk dL_knock_5 2 rfl) rfl (Nat.le_of_ble_eq_true rfl) rfl ?_
                          refine g_lload F (q := 381) (dk dL_knock_5 3 rfl) rfl 1 rfl ?_
                          refine g_lload F (q := 383) (dk dL_knock_5 4 rfl) rfl 7 rfl ?_
                          refine g_lcmp_le F (q := 387) (tgt := 392) (dk dL_knock_5 5 rfl) (dk dL_knock_5 6 rfl) (by decide) rfl (fun c383 => ?_) (fun c383 => ?_)
                          · refine g_lload F (q := 394) (dk dL_knock_5 9 rfl) rfl 7 rfl ?_
                            refine g_lstore F (q := 396) (lv' := [(10, .long mo), (8, .long lo), (13, .long (bg r nt kn (nI (plc r ne nt kn)) i)), (0, .ref (ad 0)), (1, .int (nI kn)), (2, .int (r (46 + 50 * 1 + 5 * kn + 3))), (5, .int (nI ((plc r ne nt kn)))), (6, .long (spW r ne nt kn (nI (plc r ne nt kn)))), (12, .int (nI i))]) (dk dL_knock_5 10 rfl) rfl (Nat.le_of_ble_eq_true rfl) rfl ?_
                            refine g_iinc F (q := 399) (v := (nI ((i + 1)))) (lv' := [(12, .int (nI ((i + 1)))), (10, .long mo), (8, .long lo), (13, .long (bg r nt kn (nI (plc r ne nt kn)) i)), (0, .ref (ad 0)), (1, .int (nI kn)), (2, .int (r (46 + 50 * 1 + 5 * kn + 3))), (5, .int (nI ((plc r ne nt kn)))), (6, .long (spW r ne nt kn (nI (plc r ne nt kn))))]) (dk dL_knock_5 11 rfl) rfl 8 rfl (nI_1 _) (Nat.le_of_ble_eq_true rfl) rfl ?_
                            refine g_goto F (tgt := 309) (dk dL_knock_5 12 rfl) (by decide) ?_
                            refine g_lv (lv' := [(0, .ref (ad 0)), (1, .int (nI kn)), (2, .int (r (46 + 50 * 1 + 5 * kn + 3))), (5, .int (nI ((plc r ne nt kn)))), (6, .long (spW r ne nt kn (nI (plc r ne nt kn)))), (8, .long lo), (10, .long mo), (12, .int (nI ((i + 1))))]) [4, 5, 6, 7, 8, 2, 1, 0] rfl ?_
                            exact ih (i + 1) lo mo E351 (by omega) hQ351 (by omega) (lmQ_t hh.1 (bg_b hV (show i < ne by omega) hk hh.1 plc_i) hq (if_neg (Int64.not_lt.mpr c366)).symm (if_neg (Int64.not_lt.mpr c383)).symm)
                          · refine g_lload F (q := 389) (dk dL_knock_5 7 rfl) rfl 1 rfl ?_
                            refine g_goto F (tgt := 394) (dk dL_knock_5 8 rfl) (by decide) ?_
                            refine g_lstore F (q := 396) (lv' := [(10, .long (bg r nt kn (nI (plc r ne nt kn)) i)), (8, .long lo), (13, .long (bg r nt kn (nI (plc r ne nt kn)) i)), (0, .ref (ad 0)), (1, .int (nI kn)), (2, .int (r (46 + 50 * 1 + 5 * kn + 3))), (5, .int (nI ((plc r ne nt kn)))), (6, .long (spW r ne nt kn (nI (plc r ne nt kn)))), (12, .int (nI i))]) (dk dL_knock_5 10 rfl) rfl (Nat.le_of_ble_eq_true rfl) rfl ?_
                            refine g_iinc F (q := 399) (v := (nI ((i + 1)))) (lv' := [(12, .int (nI ((i + 1)))), (10, .long (bg r nt kn (nI (plc r ne nt kn)) i)), (8, .long lo), (13, .long (bg r nt kn (nI (plc r ne nt kn)) i)), (0, .ref (ad 0)), (1, .int (nI kn)), (2, .int (r (46 + 50 * 1 + 5 * kn + 3))), (5, .int (nI ((plc r ne nt kn)))), (6, .long (spW r ne nt kn (nI (plc r ne nt kn))))]) (dk dL_knock_5 11 rfl) rfl 8 rfl (nI_1 _) (Nat.le_of_ble_eq_true rfl) rfl ?_
                            refine g_goto F (tgt := 309) (dk dL_knock_5 12 rfl) (by decide) ?_
                            refine g_lv (lv' := [(0, .ref (ad 0)), (1, .int (nI kn)), (2, .int (r (46 + 50 * 1 + 5 * kn + 3))), (5, .int (nI ((plc r ne nt kn)))), (6, .long (spW r ne nt kn (nI (plc r ne nt kn)))), (8, .long lo), (10, .long (bg r nt kn (nI (plc r ne nt kn)) i)), (12, .int (nI ((i + 1))))]) [4, 5, 6, 7, 8, 2, 1, 0] rfl ?_
                            exact ih (i + 1) lo (bg r nt kn (nI (plc r ne nt kn)) i) E351 (by omega) hQ351 (by omega) (lmQ_t hh.1 (bg_b hV (show i < ne by omega) hk hh.1 plc_i) hq (if_neg (Int64.not_lt.mpr c366)).symm (if_pos (Int64.not_le.mp c383)).symm)
                        · refine g_lload F (q := 372) (dk dL_knock_4 39 rfl) rfl 0 rfl ?_
                          refine g_goto F (tgt := 377) (dk dL_knock_5 0 rfl) (by decide) ?_
                          refine g_lstore F (q := 379) (lv' := [(8, .long (bg r nt kn (nI (plc r ne nt kn)) i)), (13, .long (bg r nt kn (nI (plc r ne nt kn)) i)), (0, .ref (ad 0)), (1, .int (nI kn)), (2, .int (r (46 + 50 * 1 + 5 * kn + 3))), (5, .int (nI ((plc r ne nt kn)))), (6, .long (spW r ne nt kn (nI (plc r ne nt kn)))), (10, .long mo), (12, .int (nI i))]) (dk dL_knock_5 2 rfl) rfl (Nat.le_of_ble_eq_true rfl) rfl ?_
                          refine g_lload F (q := 381) (dk dL_knock_5 3 rfl) rfl 1 rfl ?_
                          refine g_lload F (q := 383) (dk dL_knock_5 4 rfl) rfl 7 rfl ?_
                          refine g_lcmp_le F (q := 387) (tgt := 392) (dk dL_knock_5 5 rfl) (dk dL_knock_5 6 rfl) (by decide) rfl (fun c383 => ?_) (fun c383 => ?_)
                          · refine g_lload F (q := 394) (dk dL_knock_5 9 rfl) rfl 7 rfl ?_
                            refine g_lstore F (q := 396) (lv' := [(10, .long mo), (8, .long (bg r nt kn (nI (plc r ne nt kn)) i)), (13, .long (bg r nt kn (nI (plc r ne nt kn)) i)), (0, .ref (ad 0)), (1, .int (nI kn)), (2, .int (r (46 + 50 * 1 + 5 * kn + 3))), (5, .int (nI ((plc r ne nt kn)))), (6, .long (spW r ne nt kn (nI (plc r ne nt kn)))), (12, .int (nI i))]) (dk dL_knock_5 10 rfl) rfl (Nat.le_of_ble_eq_true rfl) rfl ?_
                            refine g_iinc F (q := 399) (v := (nI ((i + 1)))) (lv' := [(12, .int (nI ((i + 1)))), (10, .long mo), (8, .long (bg r nt kn (nI (plc r ne nt kn)) i)), (13, .long (bg r nt kn (nI (plc r ne nt kn)) i)), (0, .ref (ad 0)), (1, .int (nI kn)), (2, .int (r (46 + 50 * 1 + 5 * kn + 3))), (5, .int (nI ((plc r ne nt kn)))), (6, .long (spW r ne nt kn (nI (plc r ne nt kn))))]) (dk dL_knock_5 11 rfl) rfl 8 rfl (nI_1 _) (Nat.le_of_ble_eq_true rfl) rfl ?_
                            refine g_goto F (tgt := 309) (dk dL_knock_5 12 rfl) (by decide) ?_
                            refine g_lv (lv' := [(0, .ref (ad 0)), (1, .int (nI kn)), (2, .int (r (46 + 50 * 1 + 5 * kn + 3))), (5, .int (nI ((plc r ne nt kn)))), (6, .long (spW r ne nt kn (nI (plc r ne nt kn)))), (8, .long (bg r nt kn (nI (plc r ne nt kn)) i)), (10, .long mo), (12, .int (nI ((i + 1))))]) [4, 5, 6, 7, 8, 2, 1, 0] rfl ?_
                            exact ih (i + 1) (bg r nt kn (nI (plc r ne nt kn)) i) mo E351 (by omega) hQ351 (by omega) (lmQ_t hh.1 (bg_b hV (show i < ne by omega) hk hh.1 plc_i) hq (if_pos (Int64.not_le.mp c366)).symm (if_neg (Int64.not_lt.mpr c383)).symm)
                          · refine g_lload F (q := 389) (dk dL_knock_5 7 rfl) rfl 1 rfl ?_
                            refine g_goto F (tgt := 394) (dk dL_knock_5 8 rfl) (by decide) ?_
                            refine g_lstore F (q := 396) (lv' := [(10, .long (bg r nt kn (nI (plc r ne nt kn)) i)), (8, .long (bg r nt kn (nI (plc r ne nt kn)) i)), (13, .long (bg r nt kn (nI (plc r ne nt kn)) i)), (0, .ref (ad 0)), (1, .int (nI kn)), (2, .int (r (46 + 50 * 1 + 5 * kn + 3))), (5, .int (nI ((plc r ne nt kn)))), (6, .long (spW r ne nt kn (nI (plc r ne nt kn)))), (12, .int (nI i))]) (dk dL_knock_5 10 rfl) rfl (Nat.le_of_ble_eq_true rfl) rfl ?_
                            refine g_iinc F (q := 399) (v := (nI ((i + 1)))) (lv' := [(12, .int (nI ((i + 1)))), (10, .long (bg r nt kn (nI (plc r ne nt kn)) i)), (8, .long (bg r nt kn (nI (plc r ne nt kn)) i)), (13, .long (bg r nt kn (nI (plc r ne nt kn)) i)), (0, .ref (ad 0)), (1, .int (nI kn)), (2, .int (r (46 + 50 * 1 + 5 * kn + 3))), (5, .int (nI ((plc r ne nt kn)))), (6, .long (spW r ne nt kn (nI (plc r ne nt kn))))]) (dk dL_knock_5 11 rfl) rfl 8 rfl (nI_1 _) (Nat.le_of_ble_eq_true rfl) rfl ?_
                            refine g_goto F (tgt := 309) (dk dL_knock_5 12 rfl) (by decide) ?_
                            refine g_lv (lv' := [(0, .ref (ad 0)), (1, .int (nI kn)), (2, .int (r (46 + 50 * 1 + 5 * kn + 3))), (5, .int (nI ((plc r ne nt kn)))), (6, .long (spW r ne nt kn (nI (plc r ne nt kn)))), (8, .long (bg r nt kn (nI (plc r ne nt kn)) i)), (10, .long (bg r nt kn (nI (plc r ne nt kn)) i)), (12, .int (nI ((i + 1))))]) [4, 5, 6, 7, 8, 2, 1, 0] rfl ?_
                            exact ih (i + 1) (bg r nt kn (nI (plc r ne nt kn)) i) (bg r nt kn (nI (plc r ne nt kn)) i) E351 (by omega) hQ351 (by omega) (lmQ_t hh.1 (bg_b hV (show i < ne by omega) hk hh.1 plc_i) hq (if_pos (Int64.not_le.mp c366)).symm (if_pos (Int64.not_le.mp c383)).symm)
                refine g_lv (lv' := [(0, .ref (ad 0)), (1, .int (nI kn)), (2, .int (r (46 + 50 * 1 + 5 * kn + 3))), (5, .int (nI ((plc r ne nt kn)))), (6, .long (spW r ne nt kn (nI (plc r ne nt kn)))), (8, .long 9223372036854775807), (10, .long (-9223372036854775807)), (12, .int 0)]) [3, 4, 5, 7, 8, 2, 1, 0] rfl ?_
                exact K309 _ 0 9223372036854775807 (-9223372036854775807) E2 (Nat.lt_succ_self _) hQd (by omega) lmQ_0
              · have nc197 : ¬ 12 ≤ j := fun h => c197 ((nI_leI (a := 12) (b := j) (by omega) (by omega)).mpr h)
                refine g_iload F (q := 202) (dk dL_knock_2 31 rfl) rfl 6 rfl ?_
                refine g_iconst F (q := 203) (v := 4) (dk dL_knock_2 32 rfl) rfl (by decide) ?_
                refine g_icmp_ge F (q := 206) (tgt := 228) (dk dL_knock_2 33 rfl) (by decide) rfl (fun c203 => ?_) (fun c203 => ?_)
                · have nc203 : 4 ≤ j := (nI_leI (a := 4) (b := j) (by omega) (by omega)).mp c203
                  refine g_iload_n F (q := 229) (dk dL_knock_3 7 rfl) rfl rfl 3 rfl ?_
                  refine g_iload F (q := 231) (dk dL_knock_3 8 rfl) rfl 6 rfl ?_
                  refine g_ishr F (q := 232) (dk dL_knock_3 9 rfl) rfl ?_
                  refine g_sipush F (q := 235) (v := 1001) (dk dL_knock_3 10 rfl) rfl (by decide) ?_
                  refine h_SI F (av := [.int (g >>> ((nI j) &&& 31)), .int 1001]) (st := []) (q_low (v := (g >>> ((nI j) &&& 31))) (N := 1001) (by omega) (by omega)) ks_L_low tq_376 ⟨rfl, rfl⟩ (by decide) ⟨Nat.le_refl _, Nat.le_refl _⟩ rfl rfl (Nat.le_of_ble_eq_true rfl) (dk dL_knock_3 11 rfl) rfl (fun E235 hE235 => ?_)
                  obtain rfl := hE235
                  refine g_topi (fun x ex => ?_)
                  refine g_istore F (q := 240) (lv' := [(9, .int x), (0, .ref (ad 0)), (1, .int (nI kn)), (2, .int (r (46 + 50 * 1 + 5 * kn + 3))), (3, .int g), (5, .int (nI ((plc r ne nt kn)))), (6, .long (spW r ne nt kn (nI (plc r ne nt kn)))), (8, .int (nI j))]) (dk dL_knock_3 12 rfl) rfl (Nat.le_of_ble_eq_true rfl) rfl ?_
                  refine g_iload F (q := 242) (dk dL_knock_3 13 rfl) rfl 0 rfl ?_
                  refine g_if_lt F (q := 245) (tgt := 290) (dk dL_knock_3 14 rfl) (by decide) rfl (fun c242 => ?_) (fun c242 => ?_)
                  · refine g_iinc F (q := 293) (v := (nI ((j + 1)))) (lv' := [(8, .int (nI ((j + 1)))), (9, .int x), (0, .ref (ad 0)), (1, .int (nI kn)), (2, .int (r (46 + 50 * 1 + 5 * kn + 3))), (3, .int g), (5, .int (nI ((plc r ne nt kn)))), (6, .long (spW r ne nt kn (nI (plc r ne nt kn))))]) (dk dL_knock_3 37 rfl) rfl 7 rfl (nI_1 _) (Nat.le_of_ble_eq_true rfl) rfl ?_
                    refine g_goto F (tgt := 193) (dk dL_knock_3 38 rfl) (by decide) ?_
                    refine g_lv (lv' := [(0, .ref (ad 0)), (1, .int (nI kn)), (2, .int (r (46 + 50 * 1 + 5 * kn + 3))), (3, .int g), (5, .int (nI ((plc r ne nt kn)))), (6, .long (spW r ne nt kn (nI (plc r ne nt kn)))), (8, .int (nI ((j + 1))))]) [2, 3, 4, 5, 6, 7, 0] rfl ?_
                    exact ih (j + 1) E2 (by omega) hQd (by omega)
                  · refine g_iload F (q := 247) (dk dL_knock_3 15 rfl) rfl 0 rfl ?_
                    refine g_sipush F (q := 250) (v := 1000) (dk dL_knock_3 16 rfl) rfl (by decide) ?_
                    refine g_icmp_le F (q := 253) (tgt := 256) (dk dL_knock_3 17 rfl) (by decide) rfl (fun c250 => ?_) (fun c250 => ?_)
                    · obtain ⟨m, hm, hxm⟩ := nI_of2 (M := 1000) (n := 1000) (by decide) c242 c250
                      subst hxm
                      refine g_aload_n F (q := 257) (dk dL_knock_3 19 rfl) rfl rfl 1 rfl ?_
                      refine g_iload_n F (q := 258) (dk dL_knock_3 20 rfl) rfl rfl 2 rfl ?_
                      refine g_iload F (q := 260) (dk dL_knock_3 21 rfl) rfl 0 rfl ?_
                      refine h_VL F (av := [.int (nI kn), .int (nI m)]) (st := []) (q_spread hQd (vS hV hk hc2 hm)) kv_X6_spread tq_495 hQd.e0 ⟨rfl, rfl⟩ (by decide) ⟨Nat.le_refl _, Nat.le_refl _⟩ rfl rfl (Nat.le_of_ble_eq_true rfl) (dk dL_knock_3 22 rfl) rfl (fun E260 hQ260 => ?_)
                      refine g_lstore F (q := 265) (lv' := [(10, .long (spW r ne nt kn (nI m))), (9, .int (nI m)), (0, .ref (ad 0)), (1, .int (nI kn)), (2, .int (r (46 + 50 * 1 + 5 * kn + 3))), (3, .int g), (5, .int (nI ((plc r ne nt kn)))), (6, .long (spW r ne nt kn (nI (plc r ne nt kn)))), (8, .int (nI j))]) (dk dL_knock_3 23 rfl) rfl (Nat.le_of_ble_eq_true rfl) rfl ?_
                      refine g_lload F (q := 267) (dk dL_knock_3 24 rfl) rfl 0 rfl ?_
                      refine g_lload F (q := 269) (dk dL_knock_3 25 rfl) rfl 7 rfl ?_
                      refine g_lcmp_lt F (q := 273) (tgt := 288) (dk dL_knock_3 26 rfl) (dk dL_knock_3 27 rfl) (by decide) rfl (fun c269 => absurd c269 (spW_min hm).1) (fun c269 => ?_)
                      refine g_lload F (q := 275) (dk dL_knock_3 28 rfl) rfl 0 rfl ?_
                      refine g_lload F (q := 277) (dk dL_knock_3 29 rfl) rfl 7 rfl ?_
                      refine g_lcmp_ne F (q := 281) (tgt := 290) (dk dL_knock_3 30 rfl) (dk dL_knock_3 31 rfl) (by decide) rfl (fun c277 => ?_) (fun c277 => ?_)
                      · refine g_iinc F (q := 293) (v := (nI ((j + 1)))) (lv' := [(8, .int (nI ((j + 1)))), (10, .long (spW r ne nt kn (nI m))), (9, .int (nI m)), (0, .ref (ad 0)), (1, .int (nI kn)), (2, .int (r (46 + 50 * 1 + 5 * kn + 3))), (3, .int g), (5, .int (nI ((plc r ne nt kn)))), (6, .long (spW r ne nt kn (nI (plc r ne nt kn))))]) (dk dL_knock_3 37 rfl) rfl 8 rfl (nI_1 _) (Nat.le_of_ble_eq_true rfl) rfl ?_
                        refine g_goto F (tgt := 193) (dk dL_knock_3 38 rfl) (by decide) ?_
                        refine g_lv (lv' := [(0, .ref (ad 0)), (1, .int (nI kn)), (2, .int (r (46 + 50 * 1 + 5 * kn + 3))), (3, .int g), (5, .int (nI ((plc r ne nt kn)))), (6, .long (spW r ne nt kn (nI (plc r ne nt kn)))), (8, .int (nI ((j + 1))))]) [3, 4, 5, 6, 7, 8, 0] rfl ?_
                        exact ih (j + 1) E260 (by omega) hQ260 (by omega)
                      · refine g_iload F (q := 283) (dk dL_knock_3 32 rfl) rfl 1 rfl ?_
                        refine g_iload F (q := 285) (dk dL_knock_3 33 rfl) rfl 6 rfl ?_
                        refine g_icmp_ge F (q := 288) (tgt := 290) (dk dL_knock_3 34 rfl) (by decide) rfl (fun c285 => ?_) (fun c285 => absurd c285 (fun h => h (nI_le (Nat.not_lt.mp ((spW_min hm).2 c277)) (by omega))))
                        refine g_iinc F (q := 293) (v := (nI ((j + 1)))) (lv' := [(8, .int (nI ((j + 1)))), (10, .long (spW r ne nt kn (nI m))), (9, .int (nI m)), (0, .ref (ad 0)), (1, .int (nI kn)), (2, .int (r (46 + 50 * 1 + 5 * kn + 3))), (3, .int g), (5, .int (nI ((plc r ne nt kn)))), (6, .long (spW r ne nt kn (nI (plc r ne nt kn))))]) (dk dL_knock_3 37 rfl) rfl 8 rfl (nI_1 _) (Nat.le_of_ble_eq_true rfl) rfl ?_
                        refine g_goto F (tgt := 193) (dk dL_knock_3 38 rfl) (by decide) ?_
                        refine g_lv (lv' := [(0, .ref (ad 0)), (1, .int (nI kn)), (2, .int (r (46 + 50 * 1 + 5 * kn + 3))), (3, .int g), (5, .int (nI ((plc r ne nt kn)))), (6, .long (spW r ne nt kn (nI (plc r ne nt kn)))), (8, .int (nI ((j + 1))))]) [3, 4, 5, 6, 7, 8, 0] rfl ?_
                        exact ih (j + 1) E260 (by omega) hQ260 (by omega)
                    · refine g_goto F (tgt := 290) (dk dL_knock_3 18 rfl) (by decide) ?_
                      refine g_iinc F (q := 293) (v := (nI ((j + 1)))) (lv' := [(8, .int (nI ((j + 1)))), (9, .int x), (0, .ref (ad 0)), (1, .int (nI kn)), (2, .int (r (46 + 50 * 1 + 5 * kn + 3))), (3, .int g), (5, .int (nI ((plc r ne nt kn)))), (6, .long (spW r ne nt kn (nI (plc r ne nt kn))))]) (dk dL_knock_3 37 rfl) rfl 7 rfl (nI_1 _) (Nat.le_of_ble_eq_true rfl) rfl ?_
                      refine g_goto F (tgt := 193) (dk dL_knock_3 38 rfl) (by decide) ?_
                      refine g_lv (lv' := [(0, .ref (ad 0)), (1, .int (nI kn)), (2, .int (r (46 + 50 * 1 + 5 * kn + 3))), (3, .int g), (5, .int (nI ((plc r ne nt kn)))), (6, .long (spW r ne nt kn (nI (plc r ne nt kn)))), (8, .int (nI ((j + 1))))]) [2, 3, 4, 5, 6, 7, 0] rfl ?_
                      exact ih (j + 1) E2 (by omega) hQd (by omega)
                · have nc203 : ¬ 4 ≤ j := fun h => c203 ((nI_leI (a := 4) (b := j) (by omega) (by omega)).mpr h)
                  refine g_iload F (q := 208) (dk dL_knock_2 34 rfl) rfl 4 rfl ?_
                  refine g_iconst F (q := 209) (v := 2) (dk dL_knock_2 35 rfl) rfl (by decide) ?_
                  refine g_isub F (q := 210) (dk dL_knock_2 36 rfl) rfl ?_
                  refine g_iload F (q := 212) (dk dL_knock_2 37 rfl) rfl 6 rfl ?_
                  refine g_iadd F (q := 213) (dk dL_knock_2 38 rfl) rfl ?_
                  refine g_iload F (q := 215) (dk dL_knock_2 39 rfl) rfl 6 rfl ?_
                  refine g_iconst F (q := 216) (v := 1) (dk dL_knock_3 0 rfl) rfl (by decide) ?_
                  refine g_icmp_le F (q := 219) (tgt := 223) (dk dL_knock_3 1 rfl) (by decide) rfl (fun c216 => ?_) (fun c216 => ?_)
                  · have nc216 : j ≤ 1 := (nI_leI (a := j) (b := 1) (by omega) (by omega)).mp c216
                    refine g_iconst F (q := 224) (v := 0) (dk dL_knock_3 4 rfl) rfl (by decide) ?_
                    refine g_iadd F (q := 225) (dk dL_knock_3 5 rfl) rfl ?_
                    refine g_goto F (tgt := 238) (dk dL_knock_3 6 rfl) (by decide) ?_
                    refine g_topi (fun x ex => ?_)
                    refine g_istore F (q := 240) (lv' := [(9, .int x), (0, .ref (ad 0)), (1, .int (nI kn)), (2, .int (r (46 + 50 * 1 + 5 * kn + 3))), (3, .int g), (5, .int (nI ((plc r ne nt kn)))), (6, .long (spW r ne nt kn (nI (plc r ne nt kn)))), (8, .int (nI j))]) (dk dL_knock_3 12 rfl) rfl (Nat.le_of_ble_eq_true rfl) rfl ?_
                    refine g_iload F (q := 242) (dk dL_knock_3 13 rfl) rfl 0 rfl ?_
                    refine g_if_lt F (q := 245) (tgt := 290) (dk dL_knock_3 14 rfl) (by decide) rfl (fun c242 => ?_) (fun c242 => ?_)
                    · refine g_iinc F (q := 293) (v := (nI ((j + 1)))) (lv' := [(8, .int (nI ((j + 1)))), (9, .int x), (0, .ref (ad 0)), (1, .int (nI kn)), (2, .int (r (46 + 50 * 1 + 5 * kn + 3))), (3, .int g), (5, .int (nI ((plc r ne nt kn)))), (6, .long (spW r ne nt kn (nI (plc r ne nt kn))))]) (dk dL_knock_3 37 rfl) rfl 7 rfl (nI_1 _) (Nat.le_of_ble_eq_true rfl) rfl ?_
                      refine g_goto F (tgt := 193) (dk dL_knock_3 38 rfl) (by decide) ?_
                      refine g_lv (lv' := [(0, .ref (ad 0)), (1, .int (nI kn)), (2, .int (r (46 + 50 * 1 + 5 * kn + 3))), (3, .int g), (5, .int (nI ((plc r ne nt kn)))), (6, .long (spW r ne nt kn (nI (plc r ne nt kn)))), (8, .int (nI ((j + 1))))]) [2, 3, 4, 5, 6, 7, 0] rfl ?_
                      exact ih (j + 1) E2 (by omega) hQd (by omega)
                    · refine g_iload F (q := 247) (dk dL_knock_3 15 rfl) rfl 0 rfl ?_
                      refine g_sipush F (q := 250) (v := 1000) (dk dL_knock_3 16 rfl) rfl (by decide) ?_
                      refine g_icmp_le F (q := 253) (tgt := 256) (dk dL_knock_3 17 rfl) (by decide) rfl (fun c250 => ?_) (fun c250 => ?_)
                      · obtain ⟨m, hm, hxm⟩ := nI_of2 (M := 1000) (n := 1000) (by decide) c242 c250
                        subst hxm
                        refine g_aload_n F (q := 257) (dk dL_knock_3 19 rfl) rfl rfl 1 rfl ?_
                        refine g_iload_n F (q := 258) (dk dL_knock_3 20 rfl) rfl rfl 2 rfl ?_
                        refine g_iload F (q := 260) (dk dL_knock_3 21 rfl) rfl 0 rfl ?_
                        refine h_VL F (av := [.int (nI kn), .int (nI m)]) (st := []) (q_spread hQd (vS hV hk hc2 hm)) kv_X6_spread tq_495 hQd.e0 ⟨rfl, rfl⟩ (by decide) ⟨Nat.le_refl _, Nat.le_refl _⟩ rfl rfl (Nat.le_of_ble_eq_true rfl) (dk dL_knock_3 22 rfl) rfl (fun E260 hQ260 => ?_)
                        refine g_lstore F (q := 265) (lv' := [(10, .long (spW r ne nt kn (nI m))), (9, .int (nI m)), (0, .ref (ad 0)), (1, .int (nI kn)), (2, .int (r (46 + 50 * 1 + 5 * kn + 3))), (3, .int g), (5, .int (nI ((plc r ne nt kn)))), (6, .long (spW r ne nt kn (nI (plc r ne nt kn)))), (8, .int (nI j))]) (dk dL_knock_3 23 rfl) rfl (Nat.le_of_ble_eq_true rfl) rfl ?_
                        refine g_lload F (q := 267) (dk dL_knock_3 24 rfl) rfl 0 rfl ?_
                        refine g_lload F (q := 269) (dk dL_knock_3 25 rfl) rfl 7 rfl ?_
                        refine g_lcmp_lt F (q := 273) (tgt := 288) (dk dL_knock_3 26 rfl) (dk dL_knock_3 27 rfl) (by decide) rfl (fun c269 => absurd c269 (spW_min hm).1) (fun c269 => ?_)
                        refine g_lload F (q := 275) (dk dL_knock_3 28 rfl) rfl 0 rfl ?_
                        refine g_lload F (q := 277) (dk dL_knock_3 29 rfl) rfl 7 rfl ?_
                        refine g_lcmp_ne F (q := 281) (tgt := 290) (dk dL_knock_3 30 rfl) (dk dL_knock_3 31 rfl) (by decide) rfl (fun c277 => ?_) (fun c277 => ?_)
                        · refine g_iinc F (q := 293) (v := (nI ((j + 1)))) (lv' := [(8, .int (nI ((j + 1)))), (10, .long (spW r ne nt kn (nI m))), (9, .int (nI m)), (0, .ref (ad 0)), (1, .int (nI kn)), (2, .int (r (46 + 50 * 1 + 5 * kn + 3))), (3, .int g), (5, .int (nI ((plc r ne nt kn)))), (6, .long (spW r ne nt kn (nI (plc r ne nt kn))))]) (dk dL_knock_3 37 rfl) rfl 8 rfl (nI_1 _) (Nat.le_of_ble_eq_true rfl) rfl ?_
                          refine g_goto F (tgt := 193) (dk dL_knock_3 38 rfl) (by decide) ?_
                          refine g_lv (lv' := [(0, .ref (ad 0)), (1, .int (nI kn)), (2, .int (r (46 + 50 * 1 + 5 * kn + 3))), (3, .int g), (5, .int (nI ((plc r ne nt kn)))), (6, .long (spW r ne nt kn (nI (plc r ne nt kn)))), (8, .int (nI ((j + 1))))]) [3, 4, 5, 6, 7, 8, 0] rfl ?_
                          exact ih (j + 1) E260 (by omega) hQ260 (by omega)
                        · refine g_iload F (q := 283) (dk dL_knock_3 32 rfl) rfl 1 rfl ?_
                          refine g_iload F (q := 285) (dk dL_knock_3 33 rfl) rfl 6 rfl ?_
                          refine g_icmp_ge F (q := 288) (tgt := 290) (dk dL_knock_3 34 rfl) (by decide) rfl (fun c285 => ?_) (fun c285 => absurd c285 (fun h => h (nI_le (Nat.not_lt.mp ((spW_min hm).2 c277)) (by omega))))
                          refine g_iinc F (q := 293) (v := (nI ((j + 1)))) (lv' := [(8, .int (nI ((j + 1)))), (10, .long (spW r ne nt kn (nI m))), (9, .int (nI m)), (0, .ref (ad 0)), (1, .int (nI kn)), (2, .int (r (46 + 50 * 1 + 5 * kn + 3))), (3, .int g), (5, .int (nI ((plc r ne nt kn)))), (6, .long (spW r ne nt kn (nI (plc r ne nt kn))))]) (dk dL_knock_3 37 rfl) rfl 8 rfl (nI_1 _) (Nat.le_of_ble_eq_true rfl) rfl ?_
                          refine g_goto F (tgt := 193) (dk dL_knock_3 38 rfl) (by decide) ?_
                          refine g_lv (lv' := [(0, .ref (ad 0)), (1, .int (nI kn)), (2, .int (r (46 + 50 * 1 + 5 * kn + 3))), (3, .int g), (5, .int (nI ((plc r ne nt kn)))), (6, .long (spW r ne nt kn (nI (plc r ne nt kn)))), (8, .int (nI ((j + 1))))]) [3, 4, 5, 6, 7, 8, 0] rfl ?_
                          exact ih (j + 1) E260 (by omega) hQ260 (by omega)
                      · refine g_goto F (tgt := 290) (dk dL_knock_3 18 rfl) (by decide) ?_
                        refine g_iinc F (q := 293) (v := (nI ((j + 1)))) (lv' := [(8, .int (nI ((j + 1)))), (9, .int x), (0, .ref (ad 0)), (1, .int (nI kn)), (2, .int (r (46 + 50 * 1 + 5 * kn + 3))), (3, .int g), (5, .int (nI ((plc r ne nt kn)))), (6, .long (spW r ne nt kn (nI (plc r ne nt kn))))]) (dk dL_knock_3 37 rfl) rfl 7 rfl (nI_1 _) (Nat.le_of_ble_eq_true rfl) rfl ?_
                        refine g_goto F (tgt := 193) (dk dL_knock_3 38 rfl) (by decide) ?_
                        refine g_lv (lv' := [(0, .ref (ad 0)), (1, .int (nI kn)), (2, .int (r (46 + 50 * 1 + 5 * kn + 3))), (3, .int g), (5, .int (nI ((plc r ne nt kn)))), (6, .long (spW r ne nt kn (nI (plc r ne nt kn)))), (8, .int (nI ((j + 1))))]) [2, 3, 4, 5, 6, 7, 0] rfl ?_
                        exact ih (j + 1) E2 (by omega) hQd (by omega)
                  · have nc216 : ¬ j ≤ 1 := fun h => c216 ((nI_leI (a := j) (b := 1) (by omega) (by omega)).mpr h)
                    refine g_iconst F (q := 220) (v := 1) (dk dL_knock_3 2 rfl) rfl (by decide) ?_
                    refine g_goto F (tgt := 224) (dk dL_knock_3 3 rfl) (by decide) ?_
                    refine g_iadd F (q := 225) (dk dL_knock_3 5 rfl) rfl ?_
                    refine g_goto F (tgt := 238) (dk dL_knock_3 6 rfl) (by decide) ?_
                    refine g_topi (fun x ex => ?_)
                    refine g_istore F (q := 240) (lv' := [(9, .int x), (0, .ref (ad 0)), (1, .int (nI kn)), (2, .int (r (46 + 50 * 1 + 5 * kn + 3))), (3, .int g), (5, .int (nI ((plc r ne nt kn)))), (6, .long (spW r ne nt kn (nI (plc r ne nt kn)))), (8, .int (nI j))]) (dk dL_knock_3 12 rfl) rfl (Nat.le_of_ble_eq_true rfl) rfl ?_
                    refine g_iload F (q := 242) (dk dL_knock_3 13 rfl) rfl 0 rfl ?_
                    refine g_if_lt F (q := 245) (tgt := 290) (dk dL_knock_3 14 rfl) (by decide) rfl (fun c242 => ?_) (fun c242 => ?_)
                    · refine g_iinc F (q := 293) (v := (nI ((j + 1)))) (lv' := [(8, .int (nI ((j + 1)))), (9, .int x), (0, .ref (ad 0)), (1, .int (nI kn)), (2, .int (r (46 + 50 * 1 + 5 * kn + 3))), (3, .int g), (5, .int (nI ((plc r ne nt kn)))), (6, .long (spW r ne nt kn (nI (plc r ne nt kn))))]) (dk dL_knock_3 37 rfl) rfl 7 rfl (nI_1 _) (Nat.le_of_ble_eq_true rfl) rfl ?_
                      refine g_goto F (tgt := 193) (dk dL_knock_3 38 rfl) (by decide) ?_
                      refine g_lv (lv' := [(0, .ref (ad 0)), (1, .int (nI kn)), (2, .int (r (46 + 50 * 1 + 5 * kn + 3))), (3, .int g), (5, .int (nI ((plc r ne nt kn)))), (6, .long (spW r ne nt kn (nI (plc r ne nt kn)))), (8, .int (nI ((j + 1))))]) [2, 3, 4, 5, 6, 7, 0] rfl ?_
                      exact ih (j + 1) E2 (by omega) hQd (by omega)
                    · refine g_iload F (q := 247) (dk dL_knock_3 15 rfl) rfl 0 rfl ?_
                      refine g_sipush F (q := 250) (v := 1000) (dk dL_knock_3 16 rfl) rfl (by decide) ?_
                      refine g_icmp_le F (q := 253) (tgt := 256) (dk dL_knock_3 17 rfl) (by decide) rfl (fun c250 => ?_) (fun c250 => ?_)
                      · obtain ⟨m, hm, hxm⟩ := nI_of2 (M := 1000) (n := 1000) (by decide) c242 c250
                        subst hxm
                        refine g_aload_n F (q := 257) (dk dL_knock_3 19 rfl) rfl rfl 1 rfl ?_
                        refine g_iload_n F (q := 258) (dk dL_knock_3 20 rfl) rfl rfl 2 rfl ?_
                        refine g_iload F (q := 260) (dk dL_knock_3 21 rfl) rfl 0 rfl ?_
                        refine h_VL F (av := [.int (nI kn), .int (nI m)]) (st := []) (q_spread hQd (vS hV hk hc2 hm)) kv_X6_spread tq_495 hQd.e0 ⟨rfl, rfl⟩ (by decide) ⟨Nat.le_refl _, Nat.le_refl _⟩ rfl rfl (Nat.le_of_ble_eq_true rfl) (dk dL_knock_3 22 rfl) rfl (fun E260 hQ260 => ?_)
                        refine g_lstore F (q := 265) (lv' := [(10, .long (spW r ne nt kn (nI m))), (9, .int (nI m)), (0, .ref (ad 0)), (1, .int (nI kn)), (2, .int (r (46 + 50 * 1 + 5 * kn + 3))), (3, .int g), (5, .int (nI ((plc r ne nt kn)))), (6, .long (spW r ne nt kn (nI (plc r ne nt kn)))), (8, .int (nI j))]) (dk dL_knock_3 23 rfl) rfl (Nat.le_of_ble_eq_true rfl) rfl ?_
                        refine g_lload F (q := 267) (dk dL_knock_3 24 rfl) rfl 0 rfl ?_
                        refine g_lload F (q := 269) (dk dL_knock_3 25 rfl) rfl 7 rfl ?_
                        refine g_lcmp_lt F (q := 273) (tgt := 288) (dk dL_knock_3 26 rfl) (dk dL_knock_3 27 rfl) (by decide) rfl (fun c269 => absurd c269 (spW_min hm).1) (fun c269 => ?_)
                        refine g_lload F (q := 275) (dk dL_knock_3 28 rfl) rfl 0 rfl ?_
                        refine g_lload F (q := 277) (dk dL_knock_3 29 rfl) rfl 7 rfl ?_
                        refine g_lcmp_ne F (q := 281) (tgt := 290) (dk dL_knock_3 30 rfl) (dk dL_knock_3 31 rfl) (by decide) rfl (fun c277 => ?_) (fun c277 => ?_)
                        · refine g_iinc F (q := 293) (v := (nI ((j + 1)))) (lv' := [(8, .int (nI ((j + 1)))), (10, .long (spW r ne nt kn (nI m))), (9, .int (nI m)), (0, .ref (ad 0)), (1, .int (nI kn)), (2, .int (r (46 + 50 * 1 + 5 * kn + 3))), (3, .int g), (5, .int (nI ((plc r ne nt kn)))), (6, .long (spW r ne nt kn (nI (plc r ne nt kn))))]) (dk dL_knock_3 37 rfl) rfl 8 rfl (nI_1 _) (Nat.le_of_ble_eq_true rfl) rfl ?_
                          refine g_goto F (tgt := 193) (dk dL_knock_3 38 rfl) (by decide) ?_
                          refine g_lv (lv' := [(0, .ref (ad 0)), (1, .int (nI kn)), (2, .int (r (46 + 50 * 1 + 5 * kn + 3))), (3, .int g), (5, .int (nI ((plc r ne nt kn)))), (6, .long (spW r ne nt kn (nI (plc r ne nt kn)))), (8, .int (nI ((j + 1))))]) [3, 4, 5, 6, 7, 8, 0] rfl ?_
                          exact ih (j + 1) E260 (by omega) hQ260 (by omega)
                        · refine g_iload F (q := 283) (dk dL_knock_3 32 rfl) rfl 1 rfl ?_
                          refine g_iload F (q := 285) (dk dL_knock_3 33 rfl) rfl 6 rfl ?_
                          refine g_icmp_ge F (q := 288) (tgt := 290) (dk dL_knock_3 34 rfl) (by decide) rfl (fun c285 => ?_) (fun c285 => absurd c285 (fun h => h (nI_le (Nat.not_lt.mp ((spW_min hm).2 c277)) (by omega))))
                          refine g_iinc F (q := 293) (v := (nI ((j + 1)))) (lv' := [(8, .int (nI ((j + 1)))), (10, .long (spW r ne nt kn (nI m))), (9, .int (nI m)), (0, .ref (ad 0)), (1, .int (nI kn)), (2, .int (r (46 + 50 * 1 + 5 * kn + 3))), (3, .int g), (5, .int (nI ((plc r ne nt kn)))), (6, .long (spW r ne nt kn (nI (plc r ne nt kn))))]) (dk dL_knock_3 37 rfl) rfl 8 rfl (nI_1 _) (Nat.le_of_ble_eq_true rfl) rfl ?_
                          refine g_goto F (tgt := 193) (dk dL_knock_3 38 rfl) (by decide) ?_
                          refine g_lv (lv' := [(0, .ref (ad 0)), (1, .int (nI kn)), (2, .int (r (46 + 50 * 1 + 5 * kn + 3))), (3, .int g), (5, .int (nI ((plc r ne nt kn)))), (6, .long (spW r ne nt kn (nI (plc r ne nt kn)))), (8, .int (nI ((j + 1))))]) [3, 4, 5, 6, 7, 8, 0] rfl ?_
                          exact ih (j + 1) E260 (by omega) hQ260 (by omega)
                      · refine g_goto F (tgt := 290) (dk dL_knock_3 18 rfl) (by decide) ?_
                        refine g_iinc F (q := 293) (v := (nI ((j + 1)))) (lv' := [(8, .int (nI ((j + 1)))), (9, .int x), (0, .ref (ad 0)), (1, .int (nI kn)), (2, .int (r (46 + 50 * 1 + 5 * kn + 3))), (3, .int g), (5, .int (nI ((plc r ne nt kn)))), (6, .long (spW r ne nt kn (nI (plc r ne nt kn))))]) (dk dL_knock_3 37 rfl) rfl 7 rfl (nI_1 _) (Nat.le_of_ble_eq_true rfl) rfl ?_
                        refine g_goto F (tgt := 193) (dk dL_knock_3 38 rfl) (by decide) ?_
                        refine g_lv (lv' := [(0, .ref (ad 0)), (1, .int (nI kn)), (2, .int (r (46 + 50 * 1 + 5 * kn + 3))), (3, .int g), (5, .int (nI ((plc r ne nt kn)))), (6, .long (spW r ne nt kn (nI (plc r ne nt kn)))), (8, .int (nI ((j + 1))))]) [2, 3, 4, 5, 6, 7, 0] rfl ?_
                        exact ih (j + 1) E2 (by omega) hQd (by omega)
          refine g_lv (lv' := [(0, .ref (ad 0)), (1, .int (nI kn)), (2, .int (r (46 + 50 * 1 + 5 * kn + 3))), (3, .int g), (5, .int (nI ((plc r ne nt kn)))), (6, .long (spW r ne nt kn (nI (plc r ne nt kn)))), (8, .int 0)]) [3, 4, 5, 6, 2, 1, 0] rfl ?_
          exact K193 _ 0 E185 (Nat.lt_succ_self _) hQ185 (by omega)
        · have nc127 : ¬ 2 ≤ (hC r kn ne) := fun h => c127 ((nI_leI (a := 2) (b := (hC r kn ne)) (by omega) (by omega)).mpr h)
          refine g_aload_n F (q := 131) (dk dL_knock_1 31 rfl) rfl rfl 0 rfl ?_
          refine g_iload_n F (q := 132) (dk dL_knock_1 32 rfl) rfl rfl 1 rfl ?_
          refine g_iconst F (q := 133) (v := 0) (dk dL_knock_1 33 rfl) rfl (by decide) ?_
          refine h_VL F (av := [.int (nI kn), .int 0]) (st := []) (q_found hQ112 (vFn hV hk (by omega))) kv_X6_found tq_475 hQ112.e0 ⟨rfl, rfl⟩ (by decide) ⟨Nat.le_refl _, Nat.le_refl _⟩ rfl rfl (Nat.le_of_ble_eq_true rfl) (dk dL_knock_1 34 rfl) rfl (fun E133 hQ133 => ?_)
          refine g_ldc2 F (q := 139) (v := (-9223372036854775804)) (dk dL_knock_1 35 rfl) rfl tq_494 ?_
          refine g_lcmp_ne F (q := 143) (tgt := 171) (dk dL_knock_1 36 rfl) (dk dL_knock_1 37 rfl) (by decide) rfl (fun h => absurd h (by decide)) (fun _ => ?_)
          refine g_aload_n F (q := 144) (dk dL_knock_1 38 rfl) rfl rfl 0 rfl ?_
          refine g_iload_n F (q := 145) (dk dL_knock_1 39 rfl) rfl rfl 1 rfl ?_
          refine g_iconst F (q := 146) (v := 0) (dk dL_knock_2 0 rfl) rfl (by decide) ?_
          refine h_VL F (av := [.int (nI kn), .int 0]) (st := []) (q_spread hQ133 (vSn hV hk (by omega))) kv_X6_spread tq_495 hQ133.e0 ⟨rfl, rfl⟩ (by decide) ⟨Nat.le_refl _, Nat.le_refl _⟩ rfl rfl (Nat.le_of_ble_eq_true rfl) (dk dL_knock_2 1 rfl) rfl (fun E146 hQ146 => ?_)
          refine g_ldc2 F (q := 152) (v := (-9223372036854775804)) (dk dL_knock_2 2 rfl) rfl tq_494 ?_
          refine g_lcmp_ne F (q := 156) (tgt := 171) (dk dL_knock_2 3 rfl) (dk dL_knock_2 4 rfl) (by decide) rfl (fun h => absurd h (by decide)) (fun _ => ?_)
          refine g_aload_n F (q := 157) (dk dL_knock_2 5 rfl) rfl rfl 0 rfl ?_
          refine g_iload_n F (q := 158) (dk dL_knock_2 6 rfl) rfl rfl 1 rfl ?_
          refine g_iconst F (q := 159) (v := 2) (dk dL_knock_2 7 rfl) rfl (by decide) ?_
          refine h_VI F (av := [.int (nI kn), .int 2]) (st := []) (q_truth hQ146 (vTn hV hk (by omega))) kv_X6_truth tq_500 hQ146.e0 ⟨rfl, rfl⟩ (by decide) ⟨Nat.le_refl _, Nat.le_refl _⟩ rfl rfl (Nat.le_of_ble_eq_true rfl) (dk dL_knock_2 8 rfl) rfl (fun E159 hQ159 => ?_)
          refine g_bipush F (q := 164) (v := (-4)) (dk dL_knock_2 9 rfl) rfl (by decide) ?_
          refine g_icmp_ne F (q := 167) (tgt := 171) (dk dL_knock_2 10 rfl) (by decide) rfl (fun h => absurd h (by decide)) (fun _ => ?_)
          refine g_iconst F (q := 168) (v := 1) (dk dL_knock_2 11 rfl) rfl (by decide) ?_
          refine g_goto F (tgt := 172) (dk dL_knock_2 12 rfl) (by decide) ?_
          refine hret 1 E159 _ _ (dk dL_knock_2 14 rfl) rfl ?_
          exact ⟨rfl, hQ159⟩
      · have nc13 : ¬ ne ≤ i := fun h => c13 ((nI_leI (a := ne) (b := i) (by omega) (by omega)).mpr h)
        refine g_aload_n F (q := 17) (dk dL_knock_0 9 rfl) rfl rfl 0 rfl ?_
        refine g_iconst F (q := 18) (v := 1) (dk dL_knock_0 10 rfl) rfl (by decide) ?_
        refine g_iload_n F (q := 19) (dk dL_knock_0 11 rfl) rfl rfl 1 rfl ?_
        refine g_iload F (q := 21) (dk dL_knock_0 12 rfl) rfl 5 rfl ?_
        refine h_VI F (av := [.int 1, .int (nI kn), .int (nI i)]) (st := []) (q_heard hQ10 (vH1 hV (show kn < nk by omega) (show i < ne by omega))) kv_X6_heard tq_386 hQ10.e0 ⟨rfl, rfl⟩ (by decide) ⟨Nat.le_refl _, Nat.le_refl _⟩ rfl rfl (Nat.le_of_ble_eq_true rfl) (dk dL_knock_0 13 rfl) rfl (fun E21 hQ21 => ?_)
        refine g_istore F (q := 26) (lv' := [(6, .int (hdF r 1 kn i)), (0, .ref (ad 0)), (1, .int (nI kn)), (2, .int (r (46 + 50 * 1 + 5 * kn + 3))), (3, .int g), (4, .int (nI ((hC r kn i)))), (5, .int (nI i))]) (dk dL_knock_0 14 rfl) rfl (Nat.le_of_ble_eq_true rfl) rfl ?_
        have hrb := rb_hd (k := 1) (hV.rb1 hk (show i < 10 by omega))
        refine g_iload F (q := 28) (dk dL_knock_0 15 rfl) rfl 0 rfl ?_
        refine g_bipush F (q := 30) (v := (-5)) (dk dL_knock_0 16 rfl) rfl (by decide) ?_
        refine g_icmp_ne F (q := 33) (tgt := 49) (dk dL_knock_0 17 rfl) (by decide) rfl (fun c30 => ?_) (fun c30 => ?_)
        · have hh := hrb.resolve_left (fun q => c30 q.2)
          refine g_iinc F (q := 52) (v := (nI (((hC r kn i) + 1)))) (lv' := [(4, .int (nI (((hC r kn i) + 1)))), (6, .int (hdF r 1 kn i)), (0, .ref (ad 0)), (1, .int (nI kn)), (2, .int (r (46 + 50 * 1 + 5 * kn + 3))), (3, .int g), (5, .int (nI i))]) (dk dL_knock_0 27 rfl) rfl 5 rfl (nI_1 _) (Nat.le_of_ble_eq_true rfl) rfl ?_
          refine g_aload_n F (q := 53) (dk dL_knock_0 28 rfl) rfl rfl 2 rfl ?_
          refine g_iload_n F (q := 54) (dk dL_knock_0 29 rfl) rfl rfl 3 rfl ?_
          refine g_iload F (q := 56) (dk dL_knock_0 30 rfl) rfl 6 rfl ?_
          refine h_VL F (av := [.int (nI kn), .int (nI i)]) (st := []) (q_putRight hQ21 (vPr hV hk (show i < ne by omega) hh.1)) kv_X6_putRight tq_469 hQ21.e0 ⟨rfl, rfl⟩ (by decide) ⟨Nat.le_refl _, Nat.le_refl _⟩ rfl rfl (Nat.le_of_ble_eq_true rfl) (dk dL_knock_0 31 rfl) rfl (fun E56 hQ56 => ?_)
          refine g_ldc2 F (q := 62) (v := 1000) (dk dL_knock_0 32 rfl) rfl tq_434 ?_
          refine g_iload F (q := 64) (dk dL_knock_0 33 rfl) rfl 1 rfl ?_
          refine g_sipush F (q := 67) (v := 10000) (dk dL_knock_0 34 rfl) rfl (by decide) ?_
          refine g_isub F (q := 68) (dk dL_knock_0 35 rfl) rfl ?_
          refine g_sti (y := (r (146 + 100 * 1 + 10 * kn + i))) (by rw [hh.2.2.1, Int32.add_sub_cancel]) ?_
          refine g_i2l F (q := 69) (dk dL_knock_0 36 rfl) rfl ?_
          refine g_lmul F (q := 70) (dk dL_knock_0 37 rfl) rfl ?_
          refine g_aload_n F (q := 71) (dk dL_knock_0 38 rfl) rfl rfl 2 rfl ?_
          refine g_iload F (q := 73) (dk dL_knock_0 39 rfl) rfl 6 rfl ?_
          refine g_iload F (q := 75) (dk dL_knock_1 0 rfl) rfl 1 rfl ?_
          refine g_sipush F (q := 78) (v := 10000) (dk dL_knock_1 1 rfl) rfl (by decide) ?_
          refine g_isub F (q := 79) (dk dL_knock_1 2 rfl) rfl ?_
          refine g_sti (y := (r (146 + 100 * 1 + 10 * kn + i))) (by rw [hh.2.2.1, Int32.add_sub_cancel]) ?_
          refine h_SL F (av := [.ref (ad 0), .int (nI i), .int (r (146 + 100 * 1 + 10 * kn + i))]) (st := [.long (1000 * (r (146 + 100 * 1 + 10 * kn + i)).toInt64), .long (rgt r nt kn i)]) (CQL.of (c_L_error hQ56 (show i < ne by omega))) ks_L_error tq_431 ⟨rfl, rfl⟩ (by decide) ⟨Nat.le_refl _, Nat.le_refl _⟩ rfl rfl (Nat.le_of_ble_eq_true rfl) (dk dL_knock_1 3 rfl) rfl (fun E79 hQ79 => ?_)
          refine g_lsub F (q := 83) (dk dL_knock_1 4 rfl) rfl ?_
          refine g_lcmp_eq F (q := 87) (tgt := 89) (dk dL_knock_1 5 rfl) (dk dL_knock_1 6 rfl) (by decide) rfl (fun c83 => ?_) (fun c83 => absurd c83 (fun h => h rfl))
          rw [← (hF_t hh.1).1]
          refine g_iinc F (q := 92) (v := (nI ((i + 1)))) (lv' := [(5, .int (nI ((i + 1)))), (4, .int (nI ((hC r kn (i + 1))))), (6, .int (hdF r 1 kn i)), (0, .ref (ad 0)), (1, .int (nI kn)), (2, .int (r (46 + 50 * 1 + 5 * kn + 3))), (3, .int g)]) (dk dL_knock_1 9 rfl) rfl 6 rfl (nI_1 _) (Nat.le_of_ble_eq_true rfl) rfl ?_
          refine g_goto F (tgt := 6) (dk dL_knock_1 10 rfl) (by decide) ?_
          refine g_lv (lv' := [(0, .ref (ad 0)), (1, .int (nI kn)), (2, .int (r (46 + 50 * 1 + 5 * kn + 3))), (3, .int g), (4, .int (nI ((hC r kn (i + 1))))), (5, .int (nI ((i + 1))))]) [3, 4, 5, 6, 1, 0] rfl ?_
          exact ih (i + 1) E79 (by omega) hQ79 (by omega)
        · have hms : (r (146 + 100 * 1 + 10 * kn + i)) = MISS := hrb.elim (fun q => q.1) (fun q => absurd c30 q.2.1)
          refine g_aload_n F (q := 34) (dk dL_knock_0 18 rfl) rfl rfl 1 rfl ?_
          refine g_iload_n F (q := 35) (dk dL_knock_0 19 rfl) rfl rfl 2 rfl ?_
          refine g_iload F (q := 37) (dk dL_knock_0 20 rfl) rfl 6 rfl ?_
          refine h_VL F (av := [.int (nI kn), .int (nI i)]) (st := []) (q_putRight hQ21 (vPs hV hk (show i < ne by omega) hms)) kv_X6_putRight tq_469 hQ21.e0 ⟨rfl, rfl⟩ (by decide) ⟨Nat.le_refl _, Nat.le_refl _⟩ rfl rfl (Nat.le_of_ble_eq_true rfl) (dk dL_knock_0 21 rfl) rfl (fun E37 hQ37 => ?_)
          refine g_ldc2 F (q := 43) (v := (-9223372036854775803)) (dk dL_knock_0 22 rfl) rfl tq_474 ?_
          refine g_lcmp_eq F (q := 47) (tgt := 89) (dk dL_knock_0 23 rfl) (dk dL_knock_0 24 rfl) (by decide) rfl (fun _ => ?_) (fun h => absurd h (by decide))
          rw [← (hF_f hms).1]
          refine g_iinc F (q := 92) (v := (nI ((i + 1)))) (lv' := [(5, .int (nI ((i + 1)))), (6, .int (hdF r 1 kn i)), (0, .ref (ad 0)), (1, .int (nI kn)), (2, .int (r (46 + 50 * 1 + 5 * kn + 3))), (3, .int g), (4, .int (nI ((hC r kn (i + 1)))))]) (dk dL_knock_1 9 rfl) rfl 6 rfl (nI_1 _) (Nat.le_of_ble_eq_true rfl) rfl ?_
          refine g_goto F (tgt := 6) (dk dL_knock_1 10 rfl) (by decide) ?_
          refine g_lv (lv' := [(0, .ref (ad 0)), (1, .int (nI kn)), (2, .int (r (46 + 50 * 1 + 5 * kn + 3))), (3, .int g), (4, .int (nI ((hC r kn (i + 1))))), (5, .int (nI ((i + 1))))]) [2, 3, 4, 5, 6, 0] rfl ?_
          exact ih (i + 1) E37 (by omega) hQ37 (by omega)
  refine g_lv (lv' := [(0, .ref (ad 0)), (1, .int (nI kn)), (2, .int (r (46 + 50 * 1 + 5 * kn + 3))), (3, .int g), (4, .int 0), (5, .int 0)]) [2, 3, 4, 5, 1, 0] rfl ?_
  exact K6 _ 0 E (Nat.lt_succ_self _) hQ (by omega)
theorem ks_L_knock : KS yL_knock "ThumpEarsLaw" cL_knock 20 (some .boolean) 4 := ⟨tq_467, tq_8, tq_468, by decide +kernel⟩
