/-- the ear that was not tuned for the longest, while it is sought -/
def stQ (r : Nat → Int32) (nt k : Nat) (sv ev : Int32) : Prop := (k = 0 ∧ sv = -5 ∧ ev = 99) ∨ (0 < k ∧ sv = (stF r nt k).1 ∧ ev = (stF r nt k).2)
theorem stQ_t {r : Nat → Int32} {nt k : Nat} {sv ev : Int32} (hn : nt ≤ 10) (q : stQ r nt k sv ev) (c : ¬ ev ≤ lth r nt k) : stQ r nt (k + 1) (nI k) (lth r nt k) := by
  have h : lth r nt k < (stF r nt k).2 := by
    rcases q with ⟨rfl, -, -⟩ | ⟨-, -, rfl⟩
    · exact (lth_lt hn).1
    · exact Int32.not_le.mp c
  refine Or.inr ⟨by omega, ?_, ?_⟩ <;> rw [stF_t h]
theorem stQ_f {r : Nat → Int32} {nt k : Nat} {sv ev : Int32} (hn : nt ≤ 10) (q : stQ r nt k sv ev) (c : ev ≤ lth r nt k) : stQ r nt (k + 1) sv ev := by
  rcases q with ⟨rfl, -, rfl⟩ | ⟨-, rfl, rfl⟩
  · exact absurd c (Int32.not_le.mpr (lth_lt hn).2)
  · refine Or.inr ⟨by omega, ?_, ?_⟩ <;> rw [stF_f (Int32.not_lt.mpr c)]
theorem stQ_e {r : Nat → Int32} {nt k : Nat} {sv ev : Int32} (q : stQ r nt k sv ev) : (stF r nt k).1 = sv := by
  rcases q with ⟨rfl, rfl, -⟩ | ⟨-, rfl, -⟩
  · rfl
  · rfl
abbrev rm_L_ears : Room := { frames := 7, cells := 0, slots := 0, locals := 170 }
set_option maxHeartbeats 4000000 in
set_option maxRecDepth 100000 in
theorem c_L_ears {l : Launch} {D : va_G} {cA : Nat → ClassId} {ad : Nat → Nat} {E : Nat → va_E} {r : Nat → Int32} {ne nt nk nh ln : Nat} {txt d ps : Nat → Int32} {g : Int32}  (hQ : LQ cA ad E r ne nt nk nh ln txt d ps) (hD : DD d r nt) : CtI l D cA yL_ears cL_ears 10 .boolean rm_L_ears 235 ad E [.ref (ad 0), .ref (ad 233), .int g] (fun x E' => 1 = x ∧ LQ cA ad E' r ne nt nk nh ln txt d ps) := by
  refine CtI.of (by decide +kernel) (Nat.le_of_ble_eq_true rfl) (fun X F hret => ?_)
  have F : Fr "ThumpEarsLaw" cL_ears 10 D cA X := F
  refine (show GG rm_L_ears 10 l D X 0 0 235 ad E 0 [(0, .ref (ad 0)), (1, .ref (ad 233)), (2, .int g)] [] from ?_)
  have hV := hQ.i
  have h0 := hV.e0
  have h1 := hV.e1
  have h2 := hV.e2
  refine g_aload_n F (q := 1) (dk dL_ears 0 rfl) rfl rfl 0 rfl ?_
  refine g_iconst F (q := 2) (v := 0) (dk dL_ears 1 rfl) rfl (by decide) ?_
  refine h_VI F (av := [.int 0]) (st := []) (q_count hQ (vC0 hV)) kv_X6_count tq_293 hQ.e0 ⟨rfl, rfl⟩ (by decide) ⟨Nat.le_refl _, Nat.le_refl _⟩ rfl rfl (Nat.le_of_ble_eq_true rfl) (dk dL_ears 2 rfl) rfl (fun E2 hQ2 => ?_)
  refine g_istore_n F (q := 6) (lv' := [(3, .int (nI ne)), (0, .ref (ad 0)), (1, .ref (ad 233)), (2, .int g)]) (dk dL_ears 3 rfl) rfl rfl (Nat.le_of_ble_eq_true rfl) rfl ?_
  refine g_iconst F (q := 7) (v := 0) (dk dL_ears 4 rfl) rfl (by decide) ?_
  refine g_istore F (q := 9) (lv' := [(4, .int 0), (3, .int (nI ne)), (0, .ref (ad 0)), (1, .ref (ad 233)), (2, .int g)]) (dk dL_ears 5 rfl) rfl (Nat.le_of_ble_eq_true rfl) rfl ?_
  refine g_bipush F (q := 11) (v := (-5)) (dk dL_ears 6 rfl) rfl (by decide) ?_
  refine g_istore F (q := 13) (lv' := [(5, .int (-5)), (4, .int 0), (3, .int (nI ne)), (0, .ref (ad 0)), (1, .ref (ad 233)), (2, .int g)]) (dk dL_ears 7 rfl) rfl (Nat.le_of_ble_eq_true rfl) rfl ?_
  refine g_bipush F (q := 15) (v := 99) (dk dL_ears 8 rfl) rfl (by decide) ?_
  refine g_istore F (q := 17) (lv' := [(6, .int 99), (5, .int (-5)), (4, .int 0), (3, .int (nI ne)), (0, .ref (ad 0)), (1, .ref (ad 233)), (2, .int g)]) (dk dL_ears 9 rfl) rfl (Nat.le_of_ble_eq_true rfl) rfl ?_
  refine g_iconst F (q := 18) (v := 0) (dk dL_ears 10 rfl) rfl (by decide) ?_
  refine g_istore F (q := 20) (lv' := [(7, .int 0), (6, .int 99), (5, .int (-5)), (4, .int 0), (3, .int (nI ne)), (0, .ref (ad 0)), (1, .ref (ad 233)), (2, .int g)]) (dk dL_ears 11 rfl) rfl (Nat.le_of_ble_eq_true rfl) rfl ?_
  have K20 : ∀ (fu : Nat) (k : Nat) (sv : Int32) (ev : Int32) (E1 : Nat → va_E), ne - k < fu → (hQc : LQ cA ad E1 r ne nt nk nh ln txt d ps) → (hk : k ≤ ne) → (hs : stQ r nt k sv ev) → GG rm_L_ears 10 l D X 0 0 235 ad E1 20 [(0, .ref (ad 0)), (1, .ref (ad 233)), (2, .int g), (3, .int (nI ne)), (4, .int (sumN (fun ee => r (6 + 4 * ee + 1)) k)), (5, .int sv), (6, .int ev), (7, .int (nI k))] [] := by
    intro fu
    induction fu with
    | zero => intro k sv ev E1 hfu_; exact absurd hfu_ (Nat.not_lt_zero _)
    | succ fu ih =>
      intro k sv ev E1 hfu_ hQc hk hs
      have hmk := mC_le (r := r) (e := k) nt
      refine g_iload F (q := 22) (dk dL_ears 12 rfl) rfl 7 rfl ?_
      refine g_iload_n F (q := 23) (dk dL_ears 13 rfl) rfl rfl 3 rfl ?_
      refine g_icmp_ge F (q := 26) (tgt := 185) (dk dL_ears 14 rfl) (by decide) rfl (fun c23 => ?_) (fun c23 => ?_)
      · have nc23 : ne ≤ k := (nI_leI (a := ne) (b := k) (by omega) (by omega)).mp c23
        obtain rfl : ne = k := by omega
        refine g_aload_n F (q := 186) (dk dL_ears 96 rfl) rfl rfl 0 rfl ?_
        refine h_VI F (av := []) (st := []) (q_stalest hQc rfl) kv_X6_stalest tq_455 hQc.e0 ⟨rfl, rfl⟩ (by decide) ⟨Nat.le_refl _, Nat.le_refl _⟩ rfl rfl (Nat.le_of_ble_eq_true rfl) (dk dL_ears 97 rfl) rfl (fun E186 hQ186 => ?_)
        refine g_iload F (q := 191) (dk dL_ears 98 rfl) rfl 5 rfl ?_
        refine g_icmp_ne F (q := 194) (tgt := 250) (dk dL_ears 99 rfl) (by decide) rfl (fun c191 => absurd c191 (fun h => h (stQ_e hs))) (fun c191 => ?_)
        refine g_aload_n F (q := 195) (dk dL_ears 100 rfl) rfl rfl 0 rfl ?_
        refine g_bipush F (q := 197) (v := 6) (dk dL_ears 101 rfl) rfl (by decide) ?_
        refine h_VI F (av := [.int 6]) (st := []) (q_count hQ186 (vC6 hV)) kv_X6_count tq_293 hQ186.e0 ⟨rfl, rfl⟩ (by decide) ⟨Nat.le_refl _, Nat.le_refl _⟩ rfl rfl (Nat.le_of_ble_eq_true rfl) (dk dL_ears 102 rfl) rfl (fun E197 hQ197 => ?_)
        refine g_iload F (q := 202) (dk dL_ears 103 rfl) rfl 4 rfl ?_
        refine g_icmp_ne F (q := 205) (tgt := 250) (dk dL_ears 104 rfl) (by decide) rfl (fun c202 => absurd c202 (fun h => h rfl)) (fun c202 => ?_)
        refine g_aload_n F (q := 206) (dk dL_ears 105 rfl) rfl rfl 0 rfl ?_
        refine g_iload_n F (q := 207) (dk dL_ears 106 rfl) rfl rfl 3 rfl ?_
        refine g_iconst F (q := 208) (v := 0) (dk dL_ears 107 rfl) rfl (by decide) ?_
        refine h_VI F (av := [.int (nI ne), .int 0]) (st := []) (q_ear hQ197 (vEn hV)) kv_X6_ear tq_399 hQ197.e0 ⟨rfl, rfl⟩ (by decide) ⟨Nat.le_refl _, Nat.le_refl _⟩ rfl rfl (Nat.le_of_ble_eq_true rfl) (dk dL_ears 108 rfl) rfl (fun E208 hQ208 => ?_)
        refine g_iconst F (q := 212) (v := (-1)) (dk dL_ears 109 rfl) rfl (by decide) ?_
        refine g_icmp_ne F (q := 215) (tgt := 250) (dk dL_ears 110 rfl) (by decide) rfl (fun h => absurd h (by decide)) (fun _ => ?_)
        refine g_aload_n F (q := 216) (dk dL_ears 111 rfl) rfl rfl 0 rfl ?_
        refine g_iload_n F (q := 217) (dk dL_ears 112 rfl) rfl rfl 3 rfl ?_
        refine g_iconst F (q := 218) (v := 0) (dk dL_ears 113 rfl) rfl (by decide) ?_
        refine h_VL F (av := [.int (nI ne), .int 0]) (st := []) (q_error hQ208 (vRn hV)) kv_X6_error tq_421 hQ208.e0 ⟨rfl, rfl⟩ (by decide) ⟨Nat.le_refl _, Nat.le_refl _⟩ rfl rfl (Nat.le_of_ble_eq_true rfl) (dk dL_ears 114 rfl) rfl (fun E218 hQ218 => ?_)
        refine g_ldc2 F (q := 224) (v := (-9223372036854775807)) (dk dL_ears 115 rfl) rfl tq_463 ?_
        refine g_lcmp_ne F (q := 228) (tgt := 250) (dk dL_ears 116 rfl) (dk dL_ears 117 rfl) (by decide) rfl (fun h => absurd h (by decide)) (fun _ => ?_)
        refine g_iload_n F (q := 229) (dk dL_ears 118 rfl) rfl rfl 3 rfl ?_
        refine g_if_eq F (q := 232) (tgt := 246) (dk dL_ears 119 rfl) (by decide) rfl (fun c229 => ?_) (fun c229 => ?_)
        · have nc229 : ne = 0 := (nI_eq (a := ne) (b := 0) (by omega) (by omega)).mp c229
          refine g_iconst F (q := 247) (v := 1) (dk dL_ears 127 rfl) rfl (by decide) ?_
          refine g_goto F (tgt := 251) (dk dL_ears 128 rfl) (by decide) ?_
          refine hret 1 E218 _ _ (dk dL_ears 130 rfl) rfl ?_
          exact ⟨rfl, hQ218⟩
        · have nc229 : ¬ ne = 0 := fun h => c229 ((nI_eq (a := ne) (b := 0) (by omega) (by omega)).mpr h)
          refine g_aload_n F (q := 233) (dk dL_ears 120 rfl) rfl rfl 0 rfl ?_
          refine g_iconst F (q := 234) (v := 0) (dk dL_ears 121 rfl) rfl (by decide) ?_
          refine g_ldc F (q := 236) (v := 300001) (dk dL_ears 122 rfl) rfl tq_464 ?_
          refine h_VL F (av := [.int 0, .int 300001]) (st := []) (q_error hQ218 (vRb hV (show 0 < ne by omega))) kv_X6_error tq_421 hQ218.e0 ⟨rfl, rfl⟩ (by decide) ⟨Nat.le_refl _, Nat.le_refl _⟩ rfl rfl (Nat.le_of_ble_eq_true rfl) (dk dL_ears 123 rfl) rfl (fun E236 hQ236 => ?_)
          refine g_ldc2 F (q := 242) (v := (-9223372036854775806)) (dk dL_ears 124 rfl) rfl tq_465 ?_
          refine g_lcmp_ne F (q := 246) (tgt := 250) (dk dL_ears 125 rfl) (dk dL_ears 126 rfl) (by decide) rfl (fun h => absurd h (by decide)) (fun _ => ?_)
          refine g_iconst F (q := 247) (v := 1) (dk dL_ears 127 rfl) rfl (by decide) ?_
          refine g_goto F (tgt := 251) (dk dL_ears 128 rfl) (by decide) ?_
          refine hret 1 E236 _ _ (dk dL_ears 130 rfl) rfl ?_
          exact ⟨rfl, hQ236⟩
      · have nc23 : ¬ ne ≤ k := fun h => c23 ((nI_leI (a := ne) (b := k) (by omega) (by omega)).mpr h)
        refine g_aload_n F (q := 27) (dk dL_ears 15 rfl) rfl rfl 0 rfl ?_
        refine g_aload_n F (q := 28) (dk dL_ears 16 rfl) rfl rfl 1 rfl ?_
        refine g_iload F (q := 30) (dk dL_ears 17 rfl) rfl 7 rfl ?_
        refine h_SI F (av := [.ref (ad 0), .ref (ad 233), .int (nI k)]) (st := []) (CQ.of (c_L_marks hQc hD (show k < ne by omega))) ks_L_marks tq_383 ⟨rfl, rfl⟩ (by decide) ⟨Nat.le_refl _, Nat.le_refl _⟩ rfl rfl (Nat.le_of_ble_eq_true rfl) (dk dL_ears 18 rfl) rfl (fun E30 hQ30 => ?_)
        refine g_if_ne F (q := 36) (tgt := 38) (dk dL_ears 19 rfl) (by decide) rfl (fun _ => ?_) (fun h => absurd h (by decide))
        refine g_iload_n F (q := 39) (dk dL_ears 22 rfl) rfl rfl 2 rfl ?_
        refine g_ldc F (q := 41) (v := 40000) (dk dL_ears 23 rfl) rfl tq_420 ?_
        refine h_SI F (av := [.int g, .int 40000]) (st := []) (q_low (v := g) (N := 40000) (by omega) (by omega)) ks_L_low tq_376 ⟨rfl, rfl⟩ (by decide) ⟨Nat.le_refl _, Nat.le_refl _⟩ rfl rfl (Nat.le_of_ble_eq_true rfl) (dk dL_ears 24 rfl) rfl (fun E41 hE41 => ?_)
        obtain rfl := hE41
        refine g_sipush F (q := 47) (v := 2000) (dk dL_ears 25 rfl) rfl (by decide) ?_
        refine g_isub F (q := 48) (dk dL_ears 26 rfl) rfl ?_
        refine g_topi (fun c ec => ?_)
        refine g_istore F (q := 50) (lv' := [(8, .int c), (0, .ref (ad 0)), (1, .ref (ad 233)), (2, .int g), (3, .int (nI ne)), (4, .int (sumN (fun ee => r (6 + 4 * ee + 1)) k)), (5, .int sv), (6, .int ev), (7, .int (nI k))]) (dk dL_ears 27 rfl) rfl (Nat.le_of_ble_eq_true rfl) rfl ?_
        have hc : -10000 ≤ c ∧ c ≤ 300000 := by rw [ec]; exact low_c (lowN_lt (by omega))
        refine g_aload_n F (q := 51) (dk dL_ears 28 rfl) rfl rfl 1 rfl ?_
        refine g_iload F (q := 53) (dk dL_ears 29 rfl) rfl 8 rfl ?_
        refine g_iload F (q := 55) (dk dL_ears 30 rfl) rfl 0 rfl ?_
        refine h_VL F (av := [.int (nI k), .int c]) (st := []) (q_error hQ30 (vR hV (show k < ne by omega) hc)) kv_X6_error tq_421 hQ30.e0 ⟨rfl, rfl⟩ (by decide) ⟨Nat.le_refl _, Nat.le_refl _⟩ rfl rfl (Nat.le_of_ble_eq_true rfl) (dk dL_ears 31 rfl) rfl (fun E55 hQ55 => ?_)
        refine g_aload_n F (q := 59) (dk dL_ears 32 rfl) rfl rfl 1 rfl ?_
        refine g_iload F (q := 61) (dk dL_ears 33 rfl) rfl 8 rfl ?_
        refine g_iload F (q := 63) (dk dL_ears 34 rfl) rfl 0 rfl ?_
        refine h_SL F (av := [.ref (ad 0), .int (nI k), .int c]) (st := [.long (errR r k nt c)]) (CQL.of (c_L_error hQ55 (show k < ne by omega))) ks_L_error tq_431 ⟨rfl, rfl⟩ (by decide) ⟨Nat.le_refl _, Nat.le_refl _⟩ rfl rfl (Nat.le_of_ble_eq_true rfl) (dk dL_ears 35 rfl) rfl (fun E63 hQ63 => ?_)
        refine g_lcmp_ne F (q := 70) (tgt := 101) (dk dL_ears 36 rfl) (dk dL_ears 37 rfl) (by decide) rfl (fun c66 => absurd c66 (fun h => h rfl)) (fun c66 => ?_)
        refine g_aload_n F (q := 71) (dk dL_ears 38 rfl) rfl rfl 1 rfl ?_
        refine g_iload F (q := 73) (dk dL_ears 39 rfl) rfl 8 rfl ?_
        refine g_iload_n F (q := 74) (dk dL_ears 40 rfl) rfl rfl 3 rfl ?_
        refine g_ldc F (q := 76) (v := 200001) (dk dL_ears 41 rfl) rfl tq_438 ?_
        refine h_SI F (av := [.int g, .int 200001]) (st := [.int (nI k), .ref (ad 0)]) (q_low (v := g) (N := 200001) (by omega) (by omega)) ks_L_low tq_376 ⟨rfl, rfl⟩ (by decide) ⟨Nat.le_refl _, Nat.le_refl _⟩ rfl rfl (Nat.le_of_ble_eq_true rfl) (dk dL_ears 42 rfl) rfl (fun E76 hE76 => ?_)
        obtain rfl := hE76
        refine h_VI F (av := [.int (nI k), .int (nI ((lowN g 200001)))]) (st := []) (q_clock hQ63 (vK hV (show k < ne by omega) (Nat.le_of_lt_succ (lowN_lt (by omega))))) kv_X6_clock tq_439 hQ63.e0 ⟨rfl, rfl⟩ (by decide) ⟨Nat.le_refl _, Nat.le_refl _⟩ rfl rfl (Nat.le_of_ble_eq_true rfl) (dk dL_ears 43 rfl) rfl (fun E79 hQ79 => ?_)
        refine g_aload_n F (q := 83) (dk dL_ears 44 rfl) rfl rfl 1 rfl ?_
        refine g_iload F (q := 85) (dk dL_ears 45 rfl) rfl 8 rfl ?_
        refine g_iload_n F (q := 86) (dk dL_ears 46 rfl) rfl rfl 3 rfl ?_
        refine g_ldc F (q := 88) (v := 200001) (dk dL_ears 47 rfl) rfl tq_438 ?_
        refine h_SI F (av := [.int g, .int 200001]) (st := [.int (nI k), .ref (ad 0), .int (rdc r k (nI (lowN g 200001)) + 10000)]) (q_low (v := g) (N := 200001) (by omega) (by omega)) ks_L_low tq_376 ⟨rfl, rfl⟩ (by decide) ⟨Nat.le_refl _, Nat.le_refl _⟩ rfl rfl (Nat.le_of_ble_eq_true rfl) (dk dL_ears 48 rfl) rfl (fun E88 hE88 => ?_)
        obtain rfl := hE88
        refine h_SI F (av := [.ref (ad 0), .int (nI k), .int (nI ((lowN g 200001)))]) (st := [.int (rdc r k (nI (lowN g 200001)) + 10000)]) (CQ.of (c_L_reads hQ79 (show k < ne by omega))) ks_L_reads tq_451 ⟨rfl, rfl⟩ (by decide) ⟨Nat.le_refl _, Nat.le_refl _⟩ rfl rfl (Nat.le_of_ble_eq_true rfl) (dk dL_ears 49 rfl) rfl (fun E91 hQ91 => ?_)
        refine g_sipush F (q := 97) (v := 10000) (dk dL_ears 50 rfl) rfl (by decide) ?_
        refine g_iadd F (q := 98) (dk dL_ears 51 rfl) rfl ?_
        refine g_icmp_eq F (q := 101) (tgt := 103) (dk dL_ears 52 rfl) (by decide) rfl (fun c98 => ?_) (fun c98 => absurd c98 (fun h => h rfl))
        refine g_aload_n F (q := 104) (dk dL_ears 55 rfl) rfl rfl 1 rfl ?_
        refine g_iload F (q := 106) (dk dL_ears 56 rfl) rfl 8 rfl ?_
        refine g_iconst F (q := 107) (v := 4) (dk dL_ears 57 rfl) rfl (by decide) ?_
        refine h_VI F (av := [.int (nI k), .int 4]) (st := []) (q_ear hQ91 (vE4 hV (show k < ne by omega))) kv_X6_ear tq_399 hQ91.e0 ⟨rfl, rfl⟩ (by decide) ⟨Nat.le_refl _, Nat.le_refl _⟩ rfl rfl (Nat.le_of_ble_eq_true rfl) (dk dL_ears 58 rfl) rfl (fun E107 hQ107 => ?_)
        refine g_if_ne F (q := 113) (tgt := 117) (dk dL_ears 59 rfl) (by decide) rfl (fun c110 => ?_) (fun c110 => ?_)
        · have nc110 : ¬ (mC r k nt) = 0 := fun h => c110 ((nI_eq (a := (mC r k nt)) (b := 0) (by omega) (by omega)).mpr h)
          refine g_aload_n F (q := 118) (dk dL_ears 62 rfl) rfl rfl 1 rfl ?_
          refine g_iload F (q := 120) (dk dL_ears 63 rfl) rfl 8 rfl ?_
          refine g_aload_n F (q := 121) (dk dL_ears 64 rfl) rfl rfl 1 rfl ?_
          refine g_iload F (q := 123) (dk dL_ears 65 rfl) rfl 8 rfl ?_
          refine g_iconst F (q := 124) (v := 4) (dk dL_ears 66 rfl) rfl (by decide) ?_
          refine h_VI F (av := [.int (nI k), .int 4]) (st := [.int (nI k), .ref (ad 0)]) (q_ear hQ107 (vE4 hV (show k < ne by omega))) kv_X6_ear tq_399 hQ107.e0 ⟨rfl, rfl⟩ (by decide) ⟨Nat.le_refl _, Nat.le_refl _⟩ rfl rfl (Nat.le_of_ble_eq_true rfl) (dk dL_ears 67 rfl) rfl (fun E124 hQ124 => ?_)
          refine g_iconst F (q := 128) (v := 1) (dk dL_ears 68 rfl) rfl (by decide) ?_
          refine g_isub F (q := 129) (dk dL_ears 69 rfl) rfl ?_
          refine g_sti (y := (nI ((mC r k nt - 1)))) (nI_sub1 (by omega)) ?_
          refine g_iconst F (q := 130) (v := 2) (dk dL_ears 70 rfl) rfl (by decide) ?_
          refine h_VI F (av := [.int (nI k), .int (nI ((mC r k nt - 1))), .int 2]) (st := []) (q_mark hQ124 (vM2 hV (show k < ne by omega) (show (mC r k nt - 1) < mC r k nt by omega))) kv_X6_mark tq_416 hQ124.e0 ⟨rfl, rfl⟩ (by decide) ⟨Nat.le_refl _, Nat.le_refl _⟩ rfl rfl (Nat.le_of_ble_eq_true rfl) (dk dL_ears 71 rfl) rfl (fun E130 hQ130 => ?_)
          refine g_sti (y := lth r nt k) (by unfold lth; rw [if_neg nc110]) ?_
          refine g_istore F (q := 135) (lv' := [(9, .int (lth r nt k)), (8, .int c), (0, .ref (ad 0)), (1, .ref (ad 233)), (2, .int g), (3, .int (nI ne)), (4, .int (sumN (fun ee => r (6 + 4 * ee + 1)) k)), (5, .int sv), (6, .int ev), (7, .int (nI k))]) (dk dL_ears 72 rfl) rfl (Nat.le_of_ble_eq_true rfl) rfl ?_
          refine g_iload F (q := 137) (dk dL_ears 73 rfl) rfl 0 rfl ?_
          refine g_iload F (q := 139) (dk dL_ears 74 rfl) rfl 8 rfl ?_
          refine g_icmp_ge F (q := 142) (tgt := 147) (dk dL_ears 75 rfl) (by decide) rfl (fun c139 => ?_) (fun c139 => ?_)
          · refine g_iload F (q := 149) (dk dL_ears 78 rfl) rfl 7 rfl ?_
            refine g_istore F (q := 151) (lv' := [(5, .int sv), (9, .int (lth r nt k)), (8, .int c), (0, .ref (ad 0)), (1, .ref (ad 233)), (2, .int g), (3, .int (nI ne)), (4, .int (sumN (fun ee => r (6 + 4 * ee + 1)) k)), (6, .int ev), (7, .int (nI k))]) (dk dL_ears 79 rfl) rfl (Nat.le_of_ble_eq_true rfl) rfl ?_
            refine g_iload F (q := 153) (dk dL_ears 80 rfl) rfl 1 rfl ?_
            refine g_iload F (q := 155) (dk dL_ears 81 rfl) rfl 8 rfl ?_
            refine g_icmp_ge F (q := 158) (tgt := 163) (dk dL_ears 82 rfl) (by decide) rfl (fun c155 => ?_) (fun c155 => absurd c155 (fun h => h c139))
            refine g_iload F (q := 165) (dk dL_ears 85 rfl) rfl 8 rfl ?_
            refine g_istore F (q := 167) (lv' := [(6, .int ev), (5, .int sv), (9, .int (lth r nt k)), (8, .int c), (0, .ref (ad 0)), (1, .ref (ad 233)), (2, .int g), (3, .int (nI ne)), (4, .int (sumN (fun ee => r (6 + 4 * ee + 1)) k)), (7, .int (nI k))]) (dk dL_ears 86 rfl) rfl (Nat.le_of_ble_eq_true rfl) rfl ?_
            refine g_iload F (q := 169) (dk dL_ears 87 rfl) rfl 8 rfl ?_
            refine g_aload_n F (q := 170) (dk dL_ears 88 rfl) rfl rfl 4 rfl ?_
            refine g_iload F (q := 172) (dk dL_ears 89 rfl) rfl 9 rfl ?_
            refine g_iconst F (q := 173) (v := 1) (dk dL_ears 90 rfl) rfl (by decide) ?_
            refine h_VI F (av := [.int (nI k), .int 1]) (st := [.int (sumN (fun ee => r (6 + 4 * ee + 1)) k)]) (q_ear hQ130 (vE1 hV (show k < ne by omega))) kv_X6_ear tq_399 hQ130.e0 ⟨rfl, rfl⟩ (by decide) ⟨Nat.le_refl _, Nat.le_refl _⟩ rfl rfl (Nat.le_of_ble_eq_true rfl) (dk dL_ears 91 rfl) rfl (fun E173 hQ173 => ?_)
            refine g_iadd F (q := 177) (dk dL_ears 92 rfl) rfl ?_
            refine g_sti (y := (sumN (fun ee => r (6 + 4 * ee + 1)) (k + 1))) rfl ?_
            refine g_istore F (q := 179) (lv' := [(4, .int (sumN (fun ee => r (6 + 4 * ee + 1)) (k + 1))), (6, .int ev), (5, .int sv), (9, .int (lth r nt k)), (8, .int c), (0, .ref (ad 0)), (1, .ref (ad 233)), (2, .int g), (3, .int (nI ne)), (7, .int (nI k))]) (dk dL_ears 93 rfl) rfl (Nat.le_of_ble_eq_true rfl) rfl ?_
            refine g_iinc F (q := 182) (v := (nI ((k + 1)))) (lv' := [(7, .int (nI ((k + 1)))), (4, .int (sumN (fun ee => r (6 + 4 * ee + 1)) (k + 1))), (6, .int ev), (5, .int sv), (9, .int (lth r nt k)), (8, .int c), (0, .ref (ad 0)), (1, .ref (ad 233)), (2, .int g), (3, .int (nI ne))]) (dk dL_ears 94 rfl) rfl 9 rfl (nI_1 _) (Nat.le_of_ble_eq_true rfl) rfl ?_
            refine g_goto F (tgt := 20) (dk dL_ears 95 rfl) (by decide) ?_
            refine g_lv (lv' := [(0, .ref (ad 0)), (1, .ref (ad 233)), (2, .int g), (3, .int (nI ne)), (4, .int (sumN (fun ee => r (6 + 4 * ee + 1)) (k + 1))), (5, .int sv), (6, .int ev), (7, .int (nI ((k + 1))))]) [6, 7, 8, 9, 1, 3, 2, 0] rfl ?_
            exact ih (k + 1) sv ev E173 (by omega) hQ173 (by omega) (stQ_f h1 hs c139)
          · refine g_iload F (q := 144) (dk dL_ears 76 rfl) rfl 9 rfl ?_
            refine g_goto F (tgt := 149) (dk dL_ears 77 rfl) (by decide) ?_
            refine g_istore F (q := 151) (lv' := [(5, .int (nI k)), (9, .int (lth r nt k)), (8, .int c), (0, .ref (ad 0)), (1, .ref (ad 233)), (2, .int g), (3, .int (nI ne)), (4, .int (sumN (fun ee => r (6 + 4 * ee + 1)) k)), (6, .int ev), (7, .int (nI k))]) (dk dL_ears 79 rfl) rfl (Nat.le_of_ble_eq_true rfl) rfl ?_
            refine g_iload F (q := 153) (dk dL_ears 80 rfl) rfl 1 rfl ?_
            refine g_iload F (q := 155) (dk dL_ears 81 rfl) rfl 8 rfl ?_
            refine g_icmp_ge F (q := 158) (tgt := 163) (dk dL_ears 82 rfl) (by decide) rfl (fun c155 => absurd c155 c139) (fun c155 => ?_)
            refine g_iload F (q := 160) (dk dL_ears 83 rfl) rfl 1 rfl ?_
            refine g_goto F (tgt := 165) (dk dL_ears 84 rfl) (by decide) ?_
            refine g_istore F (q := 167) (lv' := [(6, .int (lth r nt k)), (5, .int (nI k)), (9, .int (lth r nt k)), (8, .int c), (0, .ref (ad 0)), (1, .ref (ad 233)), (2, .int g), (3, .int (nI ne)), (4, .int (sumN (fun ee => r (6 + 4 * ee + 1)) k)), (7, .int (nI k))]) (dk dL_ears 86 rfl) rfl (Nat.le_of_ble_eq_true rfl) rfl ?_
            refine g_iload F (q := 169) (dk dL_ears 87 rfl) rfl 8 rfl ?_
            refine g_aload_n F (q := 170) (dk dL_ears 88 rfl) rfl rfl 4 rfl ?_
            refine g_iload F (q := 172) (dk dL_ears 89 rfl) rfl 9 rfl ?_
            refine g_iconst F (q := 173) (v := 1) (dk dL_ears 90 rfl) rfl (by decide) ?_
            refine h_VI F (av := [.int (nI k), .int 1]) (st := [.int (sumN (fun ee => r (6 + 4 * ee + 1)) k)]) (q_ear hQ130 (vE1 hV (show k < ne by omega))) kv_X6_ear tq_399 hQ130.e0 ⟨rfl, rfl⟩ (by decide) ⟨Nat.le_refl _, Nat.le_refl _⟩ rfl rfl (Nat.le_of_ble_eq_true rfl) (dk dL_ears 91 rfl) rfl (fun E173 hQ173 => ?_)
            refine g_iadd F (q := 177) (dk dL_ears 92 rfl) rfl ?_
            refine g_sti (y := (sumN (fun ee => r (6 + 4 * ee + 1)) (k + 1))) rfl ?_
            refine g_istore F (q := 179) (lv' := [(4, .int (sumN (fun ee => r (6 + 4 * ee + 1)) (k + 1))), (6, .int (lth r nt k)), (5, .int (nI k)), (9, .int (lth r nt k)), (8, .int c), (0, .ref (ad 0)), (1, .ref (ad 233)), (2, .int g), (3, .int (nI ne)), (7, .int (nI k))]) (dk dL_ears 93 rfl) rfl (Nat.le_of_ble_eq_true rfl) rfl ?_
            refine g_iinc F (q := 182) (v := (nI ((k + 1)))) (lv' := [(7, .int (nI ((k + 1)))), (4, .int (sumN (fun ee => r (6 + 4 * ee + 1)) (k + 1))), (6, .int (lth r nt k)), (5, .int (nI k)), (9, .int (lth r nt k)), (8, .int c), (0, .ref (ad 0)), (1, .ref (ad 233)), (2, .int g), (3, .int (nI ne))]) (dk dL_ears 94 rfl) rfl 9 rfl (nI_1 _) (Nat.le_of_ble_eq_true rfl) rfl ?_
            refine g_goto F (tgt := 20) (dk dL_ears 95 rfl) (by decide) ?_
            refine g_lv (lv' := [(0, .ref (ad 0)), (1, .ref (ad 233)), (2, .int g), (3, .int (nI ne)), (4, .int (sumN (fun ee => r (6 + 4 * ee + 1)) (k + 1))), (5, .int (nI k)), (6, .int (lth r nt k)), (7, .int (nI ((k + 1))))]) [6, 7, 8, 9, 1, 3, 2, 0] rfl ?_
            exact ih (k + 1) (nI k) (lth r nt k) E173 (by omega) hQ173 (by omega) (stQ_t h1 hs c139)
        · have nc110 : (mC r k nt) = 0 := (nI_eq (a := (mC r k nt)) (b := 0) (by omega) (by omega)).mp c110
          refine g_iconst F (q := 114) (v := (-1)) (dk dL_ears 60 rfl) rfl (by decide) ?_
          refine g_goto F (tgt := 133) (dk dL_ears 61 rfl) (by decide) ?_
          refine g_sti (y := lth r nt k) (by unfold lth; rw [if_pos nc110]) ?_
          refine g_istore F (q := 135) (lv' := [(9, .int (lth r nt k)), (8, .int c), (0, .ref (ad 0)), (1, .ref (ad 233)), (2, .int g), (3, .int (nI ne)), (4, .int (sumN (fun ee => r (6 + 4 * ee + 1)) k)), (5, .int sv), (6, .int ev), (7, .int (nI k))]) (dk dL_ears 72 rfl) rfl (Nat.le_of_ble_eq_true rfl) rfl ?_
          refine g_iload F (q := 137) (dk dL_ears 73 rfl) rfl 0 rfl ?_
          refine g_iload F (q := 139) (dk dL_ears 74 rfl) rfl 8 rfl ?_
          refine g_icmp_ge F (q := 142) (tgt := 147) (dk dL_ears 75 rfl) (by decide) rfl (fun c139 => ?_) (fun c139 => ?_)
          · refine g_iload F (q := 149) (dk dL_ears 78 rfl) rfl 7 rfl ?_
            refine g_istore F (q := 151) (lv' := [(5, .int sv), (9, .int (lth r nt k)), (8, .int c), (0, .ref (ad 0)), (1, .ref (ad 233)), (2, .int g), (3, .int (nI ne)), (4, .int (sumN (fun ee => r (6 + 4 * ee + 1)) k)), (6, .int ev), (7, .int (nI k))]) (dk dL_ears 79 rfl) rfl (Nat.le_of_ble_eq_true rfl) rfl ?_
            refine g_iload F (q := 153) (dk dL_ears 80 rfl) rfl 1 rfl ?_
            refine g_iload F (q := 155) (dk dL_ears 81 rfl) rfl 8 rfl ?_
            refine g_icmp_ge F (q := 158) (tgt := 163) (dk dL_ears 82 rfl) (by decide) rfl (fun c155 => ?_) (fun c155 => absurd c155 (fun h => h c139))
            refine g_iload F (q := 165) (dk dL_ears 85 rfl) rfl 8 rfl ?_
            refine g_istore F (q := 167) (lv' := [(6, .int ev), (5, .int sv), (9, .int (lth r nt k)), (8, .int c), (0, .ref (ad 0)), (1, .ref (ad 233)), (2, .int g), (3, .int (nI ne)), (4, .int (sumN (fun ee => r (6 + 4 * ee + 1)) k)), (7, .int (nI k))]) (dk dL_ears 86 rfl) rfl (Nat.le_of_ble_eq_true rfl) rfl ?_
            refine g_iload F (q := 169) (dk dL_ears 87 rfl) rfl 8 rfl ?_
            refine g_aload_n F (q := 170) (dk dL_ears 88 rfl) rfl rfl 4 rfl ?_
            refine g_iload F (q := 172) (dk dL_ears 89 rfl) rfl 9 rfl ?_
            refine g_iconst F (q := 173) (v := 1) (dk dL_ears 90 rfl) rfl (by decide) ?_
            refine h_VI F (av := [.int (nI k), .int 1]) (st := [.int (sumN (fun ee => r (6 + 4 * ee + 1)) k)]) (q_ear hQ107 (vE1 hV (show k < ne by omega))) kv_X6_ear tq_399 hQ107.e0 ⟨rfl, rfl⟩ (by decide) ⟨Nat.le_refl _, Nat.le_refl _⟩ rfl rfl (Nat.le_of_ble_eq_true rfl) (dk dL_ears 91 rfl) rfl (fun E173 hQ173 => ?_)
            refine g_iadd F (q := 177) (dk dL_ears 92 rfl) rfl ?_
            refine g_sti (y := (sumN (fun ee => r (6 + 4 * ee + 1)) (k + 1))) rfl ?_
            refine g_istore F (q := 179) (lv' := [(4, .int (sumN (fun ee => r (6 + 4 * ee + 1)) (k + 1))), (6, .int ev), (5, .int sv), (9, .int (lth r nt k)), (8, .int c), (0, .ref (ad 0)), (1, .ref (ad 233)), (2, .int g), (3, .int (nI ne)), (7, .int (nI k))]) (dk dL_ears 93 rfl) rfl (Nat.le_of_ble_eq_true rfl) rfl ?_
            refine g_iinc F (q := 182) (v := (nI ((k + 1)))) (lv' := [(7, .int (nI ((k + 1)))), (4, .int (sumN (fun ee => r (6 + 4 * ee + 1)) (k + 1))), (6, .int ev), (5, .int sv), (9, .int (lth r nt k)), (8, .int c), (0, .ref (ad 0)), (1, .ref (ad 233)), (2, .int g), (3, .int (nI ne))]) (dk dL_ears 94 rfl) rfl 9 rfl (nI_1 _) (Nat.le_of_ble_eq_true rfl) rfl ?_
            refine g_goto F (tgt := 20) (dk dL_ears 95 rfl) (by decide) ?_
            refine g_lv (lv' := [(0, .ref (ad 0)), (1, .ref (ad 233)), (2, .int g), (3, .int (nI ne)), (4, .int (sumN (fun ee => r (6 + 4 * ee + 1)) (k + 1))), (5, .int sv), (6, .int ev), (7, .int (nI ((k + 1))))]) [6, 7, 8, 9, 1, 3, 2, 0] rfl ?_
            exact ih (k + 1) sv ev E173 (by omega) hQ173 (by omega) (stQ_f h1 hs c139)
          · refine g_iload F (q := 144) (dk dL_ears 76 rfl) rfl 9 rfl ?_
            refine g_goto F (tgt := 149) (dk dL_ears 77 rfl) (by decide) ?_
            refine g_istore F (q := 151) (lv' := [(5, .int (nI k)), (9, .int (lth r nt k)), (8, .int c), (0, .ref (ad 0)), (1, .ref (ad 233)), (2, .int g), (3, .int (nI ne)), (4, .int (sumN (fun ee => r (6 + 4 * ee + 1)) k)), (6, .int ev), (7, .int (nI k))]) (dk dL_ears 79 rfl) rfl (Nat.le_of_ble_eq_true rfl) rfl ?_
            refine g_iload F (q := 153) (dk dL_ears 80 rfl) rfl 1 rfl ?_
            refine g_iload F (q := 155) (dk dL_ears 81 rfl) rfl 8 rfl ?_
            refine g_icmp_ge F (q := 158) (tgt := 163) (dk dL_ears 82 rfl) (by decide) rfl (fun c155 => absurd c155 c139) (fun c155 => ?_)
            refine g_iload F (q := 160) (dk dL_ears 83 rfl) rfl 1 rfl ?_
            refine g_goto F (tgt := 165) (dk dL_ears 84 rfl) (by decide) ?_
            refine g_istore F (q := 167) (lv' := [(6, .int (lth r nt k)), (5, .int (nI k)), (9, .int (lth r nt k)), (8, .int c), (0, .ref (ad 0)), (1, .ref (ad 233)), (2, .int g), (3, .int (nI ne)), (4, .int (sumN (fun ee => r (6 + 4 * ee + 1)) k)), (7, .int (nI k))]) (dk dL_ears 86 rfl) rfl (Nat.le_of_ble_eq_true rfl) rfl ?_
            refine g_iload F (q := 169) (dk dL_ears 87 rfl) rfl 8 rfl ?_
            refine g_aload_n F (q := 170) (dk dL_ears 88 rfl) rfl rfl 4 rfl ?_
            refine g_iload F (q := 172) (dk dL_ears 89 rfl) rfl 9 rfl ?_
            refine g_iconst F (q := 173) (v := 1) (dk dL_ears 90 rfl) rfl (by decide) ?_
            refine h_VI F (av := [.int (nI k), .int 1]) (st := [.int (sumN (fun ee => r (6 + 4 * ee + 1)) k)]) (q_ear hQ107 (vE1 hV (show k < ne by omega))) kv_X6_ear tq_399 hQ107.e0 ⟨rfl, rfl⟩ (by decide) ⟨Nat.le_refl _, Nat.le_refl _⟩ rfl rfl (Nat.le_of_ble_eq_true rfl) (dk dL_ears 91 rfl) rfl (fun E173 hQ173 => ?_)
            refine g_iadd F (q := 177) (dk dL_ears 92 rfl) rfl ?_
            refine g_sti (y := (sumN (fun ee => r (6 + 4 * ee + 1)) (k + 1))) rfl ?_
            refine g_istore F (q := 179) (lv' := [(4, .int (sumN (fun ee => r (6 + 4 * ee + 1)) (k + 1))), (6, .int (lth r nt k)), (5, .int (nI k)), (9, .int (lth r nt k)), (8, .int c), (0, .ref (ad 0)), (1, .ref (ad 233)), (2, .int g), (3, .int (nI ne)), (7, .int (nI k))]) (dk dL_ears 93 rfl) rfl (Nat.le_of_ble_eq_true rfl) rfl ?_
            refine g_iinc F (q := 182) (v := (nI ((k + 1)))) (lv' := [(7, .int (nI ((k + 1)))), (4, .int (sumN (fun ee => r (6 + 4 * ee + 1)) (k + 1))), (6, .int (lth r nt k)), (5, .int (nI k)), (9, .int (lth r nt k)), (8, .int c), (0, .ref (ad 0)), (1, .ref (ad 233)), (2, .int g), (3, .int (nI ne))]) (dk dL_ears 94 rfl) rfl 9 rfl (nI_1 _) (Nat.le_of_ble_eq_true rfl) rfl ?_
            refine g_goto F (tgt := 20) (dk dL_ears 95 rfl) (by decide) ?_
            refine g_lv (lv' := [(0, .ref (ad 0)), (1, .ref (ad 233)), (2, .int g), (3, .int (nI ne)), (4, .int (sumN (fun ee => r (6 + 4 * ee + 1)) (k + 1))), (5, .int (nI k)), (6, .int (lth r nt k)), (7, .int (nI ((k + 1))))]) [6, 7, 8, 9, 1, 3, 2, 0] rfl ?_
            exact ih (k + 1) (nI k) (lth r nt k) E173 (by omega) hQ173 (by omega) (stQ_t h1 hs c139)
  refine g_lv (lv' := [(0, .ref (ad 0)), (1, .ref (ad 233)), (2, .int g), (3, .int (nI ne)), (4, .int 0), (5, .int (-5)), (6, .int 99), (7, .int 0)]) [5, 6, 7, 4, 3, 2, 1, 0] rfl ?_
  exact K20 _ 0 (-5) 99 E2 (Nat.lt_succ_self _) hQ2 (by omega) (Or.inl ⟨rfl, rfl, rfl⟩)
theorem ks_L_ears : KS yL_ears "ThumpEarsLaw" cL_ears 10 (some .boolean) 3 := ⟨tq_381, tq_8, tq_382, by decide +kernel⟩
