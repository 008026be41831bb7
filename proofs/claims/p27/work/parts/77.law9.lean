theorem c10 : (10 : Int32).toNatClampNeg = 10 := by decide
theorem ac_bad2 {r : Nat → Int32} {ne k m : Nat} {p t c : Int32} (h : ¬ ((0 ≤ p ∧ p ≤ 1000) ∧ (0 ≤ t ∧ t ≤ 100000) ∧ (1 ≤ c ∧ c ≤ 1000))) : sAct r ne k m p t c = (-2, none) := by
  have e : mkS r ne k m p t c = (-2, r) := by unfold mkS; exact if_neg h
  unfold sAct
  rw [e]
  exact if_pos (show (-2 : Int32) < 0 by decide)
abbrev rm_L_errors : Room := { frames := 6, cells := 0, slots := 0, locals := 152 }
set_option maxHeartbeats 4000000 in
set_option maxRecDepth 100000 in
theorem c_L_errors {l : Launch} {D : va_G} {cA : Nat → ClassId} {ad : Nat → Nat} {E : Nat → va_E} {r : Nat → Int32} {ne nt nk nh ln : Nat} {txt d ps : Nat → Int32}   (hQ : LQ cA ad E r ne nt nk nh ln txt d ps)  : CtI l D cA yL_errors cL_errors 3 .boolean rm_L_errors 235 ad E [.ref (ad 0)] (fun x E' => 1 = x ∧ True) := by
  refine CtI.of (by decide +kernel) (Nat.le_of_ble_eq_true rfl) (fun X F hret => ?_)
  have F : Fr "ThumpEarsLaw" cL_errors 3 D cA X := F
  refine (show GG rm_L_errors 3 l D X 0 0 235 ad E 0 [(0, .ref (ad 0))] [] from ?_)
  have hV := hQ.i
  have h0 := hV.e0
  have h1 := hV.e1
  have h2 := hV.e2
  have hbh := hQ.bh
  refine g_aload_n F (q := 1) (dk dL_errors_0 0 rfl) rfl rfl 0 rfl ?_
  refine g_sipush F (q := 4) (v := 1001) (dk dL_errors_0 1 rfl) rfl (by decide) ?_
  refine h_VI F (av := [.int 1001]) (st := []) (q_bury_n hQ (sB_bad (by decide))) kv_X6_bury tq_262 hQ.e0 ⟨rfl, rfl⟩ (by decide) ⟨Nat.le_refl _, Nat.le_refl _⟩ rfl rfl (Nat.le_of_ble_eq_true rfl) (dk dL_errors_0 2 rfl) rfl (fun E4 hQ4 => ?_)
  refine g_bipush F (q := 9) (v := (-2)) (dk dL_errors_0 3 rfl) rfl (by decide) ?_
  refine g_icmp_ne F (q := 12) (tgt := 208) (dk dL_errors_0 4 rfl) (by decide) rfl (fun h => absurd h (by decide)) (fun _ => ?_)
  refine g_aload_n F (q := 13) (dk dL_errors_0 5 rfl) rfl rfl 0 rfl ?_
  refine g_bipush F (q := 15) (v := 10) (dk dL_errors_0 6 rfl) rfl (by decide) ?_
  refine g_iconst F (q := 16) (v := 0) (dk dL_errors_0 7 rfl) rfl (by decide) ?_
  refine g_iconst F (q := 17) (v := 0) (dk dL_errors_0 8 rfl) rfl (by decide) ?_
  refine h_VI F (av := [.int 10, .int 0, .int 0]) (st := []) (q_setClock_n hQ4 (sK_un (ea := 10) h0 (by omega))) kv_X6_setClock tq_515 hQ4.e0 ⟨rfl, rfl⟩ (by decide) ⟨Nat.le_refl _, Nat.le_refl _⟩ rfl rfl (Nat.le_of_ble_eq_true rfl) (dk dL_errors_0 9 rfl) rfl (fun E17 hQ17 => ?_)
  refine g_iconst F (q := 21) (v := (-1)) (dk dL_errors_0 10 rfl) rfl (by decide) ?_
  refine g_icmp_ne F (q := 24) (tgt := 208) (dk dL_errors_0 11 rfl) (by decide) rfl (fun h => absurd h (by decide)) (fun _ => ?_)
  refine g_aload_n F (q := 25) (dk dL_errors_0 12 rfl) rfl rfl 0 rfl ?_
  refine g_iconst F (q := 26) (v := (-1)) (dk dL_errors_0 13 rfl) rfl (by decide) ?_
  refine g_iconst F (q := 27) (v := 1) (dk dL_errors_0 14 rfl) rfl (by decide) ?_
  refine h_VI F (av := [.int (-1), .int 1]) (st := []) (q_mute_n hQ17 (Or.inr rfl) (by unfold sMute; exact if_pos (Or.inl (by decide)))) kv_X6_mute tq_519 hQ17.e0 ⟨rfl, rfl⟩ (by decide) ⟨Nat.le_refl _, Nat.le_refl _⟩ rfl rfl (Nat.le_of_ble_eq_true rfl) (dk dL_errors_0 15 rfl) rfl (fun E27 hQ27 => ?_)
  refine g_iconst F (q := 31) (v := (-1)) (dk dL_errors_0 16 rfl) rfl (by decide) ?_
  refine g_icmp_ne F (q := 34) (tgt := 208) (dk dL_errors_0 17 rfl) (by decide) rfl (fun h => absurd h (by decide)) (fun _ => ?_)
  refine g_aload_n F (q := 35) (dk dL_errors_0 18 rfl) rfl rfl 0 rfl ?_
  refine g_iconst F (q := 36) (v := 0) (dk dL_errors_0 19 rfl) rfl (by decide) ?_
  refine g_iconst F (q := 37) (v := 0) (dk dL_errors_0 20 rfl) rfl (by decide) ?_
  refine h_VI F (av := [.int 0, .int 0]) (st := []) (q_set_n hQ27 (by unfold sSet; rw [if_pos rfl, if_neg (by decide)])) kv_X6_set tq_527 hQ27.e0 ⟨rfl, rfl⟩ (by decide) ⟨Nat.le_refl _, Nat.le_refl _⟩ rfl rfl (Nat.le_of_ble_eq_true rfl) (dk dL_errors_0 21 rfl) rfl (fun E37 hQ37 => ?_)
  refine g_bipush F (q := 42) (v := (-2)) (dk dL_errors_0 22 rfl) rfl (by decide) ?_
  refine g_icmp_ne F (q := 45) (tgt := 208) (dk dL_errors_0 23 rfl) (by decide) rfl (fun h => absurd h (by decide)) (fun _ => ?_)
  refine g_aload_n F (q := 46) (dk dL_errors_0 24 rfl) rfl rfl 0 rfl ?_
  refine g_iconst F (q := 47) (v := 1) (dk dL_errors_0 25 rfl) rfl (by decide) ?_
  refine g_sipush F (q := 50) (v := 501) (dk dL_errors_0 26 rfl) rfl (by decide) ?_
  refine h_VI F (av := [.int 1, .int 501]) (st := []) (q_set_n hQ37 (by unfold sSet; rw [if_neg (show ¬ (1 : Int32) = 0 by decide), if_pos rfl, if_neg (by decide)])) kv_X6_set tq_527 hQ37.e0 ⟨rfl, rfl⟩ (by decide) ⟨Nat.le_refl _, Nat.le_refl _⟩ rfl rfl (Nat.le_of_ble_eq_true rfl) (dk dL_errors_0 27 rfl) rfl (fun E50 hQ50 => ?_)
  refine g_bipush F (q := 55) (v := (-2)) (dk dL_errors_0 28 rfl) rfl (by decide) ?_
  refine g_icmp_ne F (q := 58) (tgt := 208) (dk dL_errors_0 29 rfl) (by decide) rfl (fun h => absurd h (by decide)) (fun _ => ?_)
  refine g_aload_n F (q := 59) (dk dL_errors_0 30 rfl) rfl rfl 0 rfl ?_
  refine g_iconst F (q := 60) (v := 2) (dk dL_errors_0 31 rfl) rfl (by decide) ?_
  refine g_iconst F (q := 61) (v := 1) (dk dL_errors_0 32 rfl) rfl (by decide) ?_
  refine h_VI F (av := [.int 2, .int 1]) (st := []) (q_set_n hQ50 (by unfold sSet; rw [if_neg (show ¬ (2 : Int32) = 0 by decide), if_neg (show ¬ (2 : Int32) = 1 by decide)])) kv_X6_set tq_527 hQ50.e0 ⟨rfl, rfl⟩ (by decide) ⟨Nat.le_refl _, Nat.le_refl _⟩ rfl rfl (Nat.le_of_ble_eq_true rfl) (dk dL_errors_0 33 rfl) rfl (fun E61 hQ61 => ?_)
  refine g_bipush F (q := 66) (v := (-2)) (dk dL_errors_0 34 rfl) rfl (by decide) ?_
  refine g_icmp_ne F (q := 69) (tgt := 208) (dk dL_errors_0 35 rfl) (by decide) rfl (fun h => absurd h (by decide)) (fun _ => ?_)
  refine g_aload_n F (q := 70) (dk dL_errors_0 36 rfl) rfl rfl 0 rfl ?_
  refine g_iconst F (q := 71) (v := 0) (dk dL_errors_0 37 rfl) rfl (by decide) ?_
  refine g_iconst F (q := 72) (v := 0) (dk dL_errors_0 38 rfl) rfl (by decide) ?_
  refine g_iconst F (q := 73) (v := 0) (dk dL_errors_0 39 rfl) rfl (by decide) ?_
  refine h_VI F (av := [.int 0, .int 0, .int 0]) (st := []) (q_thump_n hQ61 (ac_bad2 (by decide))) kv_X6_thump tq_571 hQ61.e0 ⟨rfl, rfl⟩ (by decide) ⟨Nat.le_refl _, Nat.le_refl _⟩ rfl rfl (Nat.le_of_ble_eq_true rfl) (dk dL_errors_1 0 rfl) rfl (fun E73 hQ73 => ?_)
  refine g_bipush F (q := 78) (v := (-2)) (dk dL_errors_1 1 rfl) rfl (by decide) ?_
  refine g_icmp_ne F (q := 81) (tgt := 208) (dk dL_errors_1 2 rfl) (by decide) rfl (fun h => absurd h (by decide)) (fun _ => ?_)
  refine g_aload_n F (q := 82) (dk dL_errors_1 3 rfl) rfl rfl 0 rfl ?_
  refine g_sipush F (q := 85) (v := 1001) (dk dL_errors_1 4 rfl) rfl (by decide) ?_
  refine g_iconst F (q := 86) (v := 0) (dk dL_errors_1 5 rfl) rfl (by decide) ?_
  refine g_iconst F (q := 87) (v := 1) (dk dL_errors_1 6 rfl) rfl (by decide) ?_
  refine h_VI F (av := [.int 1001, .int 0, .int 1]) (st := []) (q_knock_n hQ73 (ac_bad2 (by decide))) kv_X6_knock tq_547 hQ73.e0 ⟨rfl, rfl⟩ (by decide) ⟨Nat.le_refl _, Nat.le_refl _⟩ rfl rfl (Nat.le_of_ble_eq_true rfl) (dk dL_errors_1 7 rfl) rfl (fun E87 hQ87 => ?_)
  refine g_bipush F (q := 92) (v := (-2)) (dk dL_errors_1 8 rfl) rfl (by decide) ?_
  refine g_icmp_ne F (q := 95) (tgt := 208) (dk dL_errors_1 9 rfl) (by decide) rfl (fun h => absurd h (by decide)) (fun _ => ?_)
  refine g_aload_n F (q := 96) (dk dL_errors_1 10 rfl) rfl rfl 0 rfl ?_
  refine g_bipush F (q := 98) (v := 10) (dk dL_errors_1 11 rfl) rfl (by decide) ?_
  refine g_iconst F (q := 99) (v := 1) (dk dL_errors_1 12 rfl) rfl (by decide) ?_
  refine h_VI F (av := [.int 10, .int 1]) (st := []) (q_leaveOut_n hQ87 (Or.inr rfl) (sL_un (th := 10) h1 (by omega))) kv_X6_leaveOut tq_539 hQ87.e0 ⟨rfl, rfl⟩ (by decide) ⟨Nat.le_refl _, Nat.le_refl _⟩ rfl rfl (Nat.le_of_ble_eq_true rfl) (dk dL_errors_1 13 rfl) rfl (fun E99 hQ99 => ?_)
  refine g_iconst F (q := 103) (v := (-1)) (dk dL_errors_1 14 rfl) rfl (by decide) ?_
  refine g_icmp_ne F (q := 106) (tgt := 208) (dk dL_errors_1 15 rfl) (by decide) rfl (fun h => absurd h (by decide)) (fun _ => ?_)
  refine g_aload_n F (q := 107) (dk dL_errors_1 16 rfl) rfl rfl 0 rfl ?_
  refine g_bipush F (q := 109) (v := 10) (dk dL_errors_1 17 rfl) rfl (by decide) ?_
  refine g_iconst F (q := 110) (v := 0) (dk dL_errors_1 18 rfl) rfl (by decide) ?_
  refine h_VI F (av := [.int 10, .int 0]) (st := []) (q_clock hQ99 (by unfold sCk; exact if_pos (Or.inr (by rw [c10]; exact h0)))) kv_X6_clock tq_439 hQ99.e0 ⟨rfl, rfl⟩ (by decide) ⟨Nat.le_refl _, Nat.le_refl _⟩ rfl rfl (Nat.le_of_ble_eq_true rfl) (dk dL_errors_1 19 rfl) rfl (fun E110 hQ110 => ?_)
  refine g_iconst F (q := 114) (v := (-1)) (dk dL_errors_1 20 rfl) rfl (by decide) ?_
  refine g_icmp_ne F (q := 117) (tgt := 208) (dk dL_errors_1 21 rfl) (by decide) rfl (fun h => absurd h (by decide)) (fun _ => ?_)
  refine g_aload_n F (q := 118) (dk dL_errors_1 22 rfl) rfl rfl 0 rfl ?_
  refine g_bipush F (q := 120) (v := 10) (dk dL_errors_1 23 rfl) rfl (by decide) ?_
  refine g_iconst F (q := 121) (v := 0) (dk dL_errors_1 24 rfl) rfl (by decide) ?_
  refine g_iconst F (q := 122) (v := 0) (dk dL_errors_1 25 rfl) rfl (by decide) ?_
  refine h_VI F (av := [.int 10, .int 0, .int 0]) (st := []) (q_mark hQ110 (by unfold sMark; exact if_pos (Or.inr (by rw [c10]; exact h0)))) kv_X6_mark tq_416 hQ110.e0 ⟨rfl, rfl⟩ (by decide) ⟨Nat.le_refl _, Nat.le_refl _⟩ rfl rfl (Nat.le_of_ble_eq_true rfl) (dk dL_errors_1 26 rfl) rfl (fun E122 hQ122 => ?_)
  refine g_iconst F (q := 126) (v := (-1)) (dk dL_errors_1 27 rfl) rfl (by decide) ?_
  refine g_icmp_ne F (q := 129) (tgt := 208) (dk dL_errors_1 28 rfl) (by decide) rfl (fun h => absurd h (by decide)) (fun _ => ?_)
  refine g_aload_n F (q := 130) (dk dL_errors_1 29 rfl) rfl rfl 0 rfl ?_
  refine g_iconst F (q := 131) (v := 1) (dk dL_errors_1 30 rfl) rfl (by decide) ?_
  refine g_bipush F (q := 133) (v := 10) (dk dL_errors_1 31 rfl) rfl (by decide) ?_
  refine g_iconst F (q := 134) (v := 0) (dk dL_errors_1 32 rfl) rfl (by decide) ?_
  refine h_VI F (av := [.int 1, .int 10, .int 0]) (st := []) (q_heard hQ122 (by unfold sHeard; exact if_pos (Or.inl (Or.inr (by rw [c10, if_neg (show ¬ (1 : Int32) = 0 by decide)]; exact h2))))) kv_X6_heard tq_386 hQ122.e0 ⟨rfl, rfl⟩ (by decide) ⟨Nat.le_refl _, Nat.le_refl _⟩ rfl rfl (Nat.le_of_ble_eq_true rfl) (dk dL_errors_1 33 rfl) rfl (fun E134 hQ134 => ?_)
  refine g_iconst F (q := 138) (v := (-1)) (dk dL_errors_1 34 rfl) rfl (by decide) ?_
  refine g_icmp_ne F (q := 141) (tgt := 208) (dk dL_errors_1 35 rfl) (by decide) rfl (fun h => absurd h (by decide)) (fun _ => ?_)
  refine g_aload_n F (q := 142) (dk dL_errors_1 36 rfl) rfl rfl 0 rfl ?_
  refine g_bipush F (q := 144) (v := 10) (dk dL_errors_1 37 rfl) rfl (by decide) ?_
  refine g_iconst F (q := 145) (v := 0) (dk dL_errors_1 38 rfl) rfl (by decide) ?_
  refine h_VL F (av := [.int 10, .int 0]) (st := []) (q_putRight hQ134 (by unfold sPut; rw [if_pos (Or.inl (Or.inr (by rw [c10]; exact h2)))]; first | done | decide)) kv_X6_putRight tq_469 hQ134.e0 ⟨rfl, rfl⟩ (by decide) ⟨Nat.le_refl _, Nat.le_refl _⟩ rfl rfl (Nat.le_of_ble_eq_true rfl) (dk dL_errors_1 39 rfl) rfl (fun E145 hQ145 => ?_)
  refine g_ldc2 F (q := 151) (v := (-9223372036854775807)) (dk dL_errors_2 0 rfl) rfl tq_463 ?_
  refine g_lcmp_ne F (q := 155) (tgt := 208) (dk dL_errors_2 1 rfl) (dk dL_errors_2 2 rfl) (by decide) rfl (fun h => absurd h (by decide)) (fun _ => ?_)
  refine g_aload_n F (q := 156) (dk dL_errors_2 3 rfl) rfl rfl 0 rfl ?_
  refine g_bipush F (q := 158) (v := 10) (dk dL_errors_2 4 rfl) rfl (by decide) ?_
  refine g_iconst F (q := 159) (v := 0) (dk dL_errors_2 5 rfl) rfl (by decide) ?_
  refine h_VL F (av := [.int 10, .int 0]) (st := []) (q_found hQ145 (by unfold sFound; rw [if_pos (Or.inr (by rw [c10]; exact h2))]; first | done | decide)) kv_X6_found tq_475 hQ145.e0 ⟨rfl, rfl⟩ (by decide) ⟨Nat.le_refl _, Nat.le_refl _⟩ rfl rfl (Nat.le_of_ble_eq_true rfl) (dk dL_errors_2 6 rfl) rfl (fun E159 hQ159 => ?_)
  refine g_ldc2 F (q := 165) (v := (-9223372036854775807)) (dk dL_errors_2 7 rfl) rfl tq_463 ?_
  refine g_lcmp_ne F (q := 169) (tgt := 208) (dk dL_errors_2 8 rfl) (dk dL_errors_2 9 rfl) (by decide) rfl (fun h => absurd h (by decide)) (fun _ => ?_)
  refine g_aload_n F (q := 170) (dk dL_errors_2 10 rfl) rfl rfl 0 rfl ?_
  refine g_iconst F (q := 171) (v := (-1)) (dk dL_errors_2 11 rfl) rfl (by decide) ?_
  refine g_iconst F (q := 172) (v := 0) (dk dL_errors_2 12 rfl) rfl (by decide) ?_
  refine h_VL F (av := [.int (-1), .int 0]) (st := []) (q_spread hQ159 (by unfold sSpread; rw [if_pos (Or.inl (by decide))]; first | done | decide)) kv_X6_spread tq_495 hQ159.e0 ⟨rfl, rfl⟩ (by decide) ⟨Nat.le_refl _, Nat.le_refl _⟩ rfl rfl (Nat.le_of_ble_eq_true rfl) (dk dL_errors_2 13 rfl) rfl (fun E172 hQ172 => ?_)
  refine g_ldc2 F (q := 178) (v := (-9223372036854775807)) (dk dL_errors_2 14 rfl) rfl tq_463 ?_
  refine g_lcmp_ne F (q := 182) (tgt := 208) (dk dL_errors_2 15 rfl) (dk dL_errors_2 16 rfl) (by decide) rfl (fun h => absurd h (by decide)) (fun _ => ?_)
  refine g_aload_n F (q := 183) (dk dL_errors_2 17 rfl) rfl rfl 0 rfl ?_
  refine g_bipush F (q := 185) (v := 10) (dk dL_errors_2 18 rfl) rfl (by decide) ?_
  refine g_iconst F (q := 186) (v := 0) (dk dL_errors_2 19 rfl) rfl (by decide) ?_
  refine h_VI F (av := [.int 10, .int 0]) (st := []) (q_truth hQ172 (by unfold sTruth; exact if_pos (Or.inr (by rw [c10]; exact h2)))) kv_X6_truth tq_500 hQ172.e0 ⟨rfl, rfl⟩ (by decide) ⟨Nat.le_refl _, Nat.le_refl _⟩ rfl rfl (Nat.le_of_ble_eq_true rfl) (dk dL_errors_2 20 rfl) rfl (fun E186 hQ186 => ?_)
  refine g_iconst F (q := 190) (v := (-1)) (dk dL_errors_2 21 rfl) rfl (by decide) ?_
  refine g_icmp_ne F (q := 193) (tgt := 208) (dk dL_errors_2 22 rfl) (by decide) rfl (fun h => absurd h (by decide)) (fun _ => ?_)
  refine g_aload_n F (q := 194) (dk dL_errors_2 23 rfl) rfl rfl 0 rfl ?_
  refine g_bipush F (q := 196) (v := 11) (dk dL_errors_2 24 rfl) rfl (by decide) ?_
  refine h_VI F (av := [.int 11]) (st := []) (q_count hQ186 (vC11 hV)) kv_X6_count tq_293 hQ186.e0 ⟨rfl, rfl⟩ (by decide) ⟨Nat.le_refl _, Nat.le_refl _⟩ rfl rfl (Nat.le_of_ble_eq_true rfl) (dk dL_errors_2 25 rfl) rfl (fun E196 hQ196 => ?_)
  refine g_bipush F (q := 201) (v := (-2)) (dk dL_errors_2 26 rfl) rfl (by decide) ?_
  refine g_icmp_ne F (q := 204) (tgt := 208) (dk dL_errors_2 27 rfl) (by decide) rfl (fun h => absurd h (by decide)) (fun _ => ?_)
  refine g_iconst F (q := 205) (v := 1) (dk dL_errors_2 28 rfl) rfl (by decide) ?_
  refine g_goto F (tgt := 209) (dk dL_errors_2 29 rfl) (by decide) ?_
  refine g_istore_n F (q := 210) (lv' := [(1, .int 1), (0, .ref (ad 0))]) (dk dL_errors_2 31 rfl) rfl rfl (Nat.le_of_ble_eq_true rfl) rfl ?_
  refine g_aload_n F (q := 211) (dk dL_errors_2 32 rfl) rfl rfl 1 rfl ?_
  refine h_VI F (av := []) (st := []) (q_clearText hQ196) kv_X6_clearText tq_578 hQ196.e0 ⟨rfl, rfl⟩ (by decide) ⟨Nat.le_refl _, Nat.le_refl _⟩ rfl rfl (Nat.le_of_ble_eq_true rfl) (dk dL_errors_2 33 rfl) rfl (fun E211 hQ211 => ?_)
  refine g_pop F (q := 215) (dk dL_errors_2 34 rfl) rfl rfl ?_
  refine g_iload_n F (q := 216) (dk dL_errors_2 35 rfl) rfl rfl 0 rfl ?_
  refine g_if_eq F (q := 219) (tgt := 232) (dk dL_errors_2 36 rfl) (by decide) rfl (fun h => absurd h (by decide)) (fun _ => ?_)
  refine g_aload_n F (q := 220) (dk dL_errors_2 37 rfl) rfl rfl 1 rfl ?_
  refine h_VI F (av := []) (st := []) (q_readOrders_n hQ211 rd_0) kv_X6_readOrders tq_582 hQ211.e0 ⟨rfl, rfl⟩ (by decide) ⟨Nat.le_refl _, Nat.le_refl _⟩ rfl rfl (Nat.le_of_ble_eq_true rfl) (dk dL_errors_2 38 rfl) rfl (fun E220 hQ220 => ?_)
  refine g_bipush F (q := 225) (v := (-100)) (dk dL_errors_2 39 rfl) rfl (by decide) ?_
  refine g_icmp_ne F (q := 228) (tgt := 232) (dk dL_errors_3 0 rfl) (by decide) rfl (fun h => absurd h (by decide)) (fun _ => ?_)
  refine g_iconst F (q := 229) (v := 1) (dk dL_errors_3 1 rfl) rfl (by decide) ?_
  refine g_goto F (tgt := 233) (dk dL_errors_3 2 rfl) (by decide) ?_
  refine g_istore_n F (q := 234) (lv' := [(1, .int 1), (0, .ref (ad 0))]) (dk dL_errors_3 4 rfl) rfl rfl (Nat.le_of_ble_eq_true rfl) rfl ?_
  refine g_aload_n F (q := 235) (dk dL_errors_3 5 rfl) rfl rfl 1 rfl ?_
  refine g_bipush F (q := 237) (v := 116) (dk dL_errors_3 6 rfl) rfl (by decide) ?_
  refine h_VI F (av := [.int 116]) (st := []) (q_type hQ220 (by omega) (by decide)) kv_X6_type tq_610 hQ220.e0 ⟨rfl, rfl⟩ (by decide) ⟨Nat.le_refl _, Nat.le_refl _⟩ rfl rfl (Nat.le_of_ble_eq_true rfl) (dk dL_errors_3 7 rfl) rfl (fun E237 hQ237 => ?_)
  refine g_pop F (q := 241) (dk dL_errors_3 8 rfl) rfl rfl ?_
  refine g_aload_n F (q := 242) (dk dL_errors_3 9 rfl) rfl rfl 1 rfl ?_
  refine g_bipush F (q := 244) (v := 48) (dk dL_errors_3 10 rfl) rfl (by decide) ?_
  refine h_VI F (av := [.int 48]) (st := []) (q_type hQ237 (by omega) (by decide)) kv_X6_type tq_610 hQ237.e0 ⟨rfl, rfl⟩ (by decide) ⟨Nat.le_refl _, Nat.le_refl _⟩ rfl rfl (Nat.le_of_ble_eq_true rfl) (dk dL_errors_3 11 rfl) rfl (fun E244 hQ244 => ?_)
  refine g_pop F (q := 248) (dk dL_errors_3 12 rfl) rfl rfl ?_
  refine g_aload_n F (q := 249) (dk dL_errors_3 13 rfl) rfl rfl 1 rfl ?_
  refine g_bipush F (q := 251) (v := 53) (dk dL_errors_3 14 rfl) rfl (by decide) ?_
  refine h_VI F (av := [.int 53]) (st := []) (q_type hQ244 (by omega) (by decide)) kv_X6_type tq_610 hQ244.e0 ⟨rfl, rfl⟩ (by decide) ⟨Nat.le_refl _, Nat.le_refl _⟩ rfl rfl (Nat.le_of_ble_eq_true rfl) (dk dL_errors_3 15 rfl) rfl (fun E251 hQ251 => ?_)
  refine g_pop F (q := 255) (dk dL_errors_3 16 rfl) rfl rfl ?_
  refine g_iload_n F (q := 256) (dk dL_errors_3 17 rfl) rfl rfl 0 rfl ?_
  refine g_if_eq F (q := 259) (tgt := 280) (dk dL_errors_3 18 rfl) (by decide) rfl (fun h => absurd h (by decide)) (fun _ => ?_)
  refine g_aload_n F (q := 260) (dk dL_errors_3 19 rfl) rfl rfl 1 rfl ?_
  refine h_VI F (av := []) (st := []) (q_readOrders_n hQ251 (rd_t rfl rfl rfl)) kv_X6_readOrders tq_582 hQ251.e0 ⟨rfl, rfl⟩ (by decide) ⟨Nat.le_refl _, Nat.le_refl _⟩ rfl rfl (Nat.le_of_ble_eq_true rfl) (dk dL_errors_3 20 rfl) rfl (fun E260 hQ260 => ?_)
  refine g_bipush F (q := 265) (v := (-102)) (dk dL_errors_3 21 rfl) rfl (by decide) ?_
  refine g_icmp_ne F (q := 268) (tgt := 280) (dk dL_errors_3 22 rfl) (by decide) rfl (fun h => absurd h (by decide)) (fun _ => ?_)
  refine g_aload_n F (q := 269) (dk dL_errors_3 23 rfl) rfl rfl 1 rfl ?_
  refine h_VI F (av := []) (st := []) ((q_clearText hQ260).eq (show nI (0 + 1 + 1 + 1) = 3 by decide)) kv_X6_clearText tq_578 hQ260.e0 ⟨rfl, rfl⟩ (by decide) ⟨Nat.le_refl _, Nat.le_refl _⟩ rfl rfl (Nat.le_of_ble_eq_true rfl) (dk dL_errors_3 24 rfl) rfl (fun E269 hQ269 => ?_)
  refine g_iconst F (q := 273) (v := 3) (dk dL_errors_3 25 rfl) rfl (by decide) ?_
  refine g_icmp_ne F (q := 276) (tgt := 280) (dk dL_errors_3 26 rfl) (by decide) rfl (fun h => absurd h (by decide)) (fun _ => ?_)
  refine g_iconst F (q := 277) (v := 1) (dk dL_errors_3 27 rfl) rfl (by decide) ?_
  refine g_goto F (tgt := 281) (dk dL_errors_3 28 rfl) (by decide) ?_
  refine g_istore_n F (q := 282) (lv' := [(1, .int 1), (0, .ref (ad 0))]) (dk dL_errors_3 30 rfl) rfl rfl (Nat.le_of_ble_eq_true rfl) rfl ?_
  refine g_aload_n F (q := 283) (dk dL_errors_3 31 rfl) rfl rfl 1 rfl ?_
  refine g_bipush F (q := 285) (v := 107) (dk dL_errors_3 32 rfl) rfl (by decide) ?_
  refine h_VI F (av := [.int 107]) (st := []) (q_type hQ269 (by omega) (by decide)) kv_X6_type tq_610 hQ269.e0 ⟨rfl, rfl⟩ (by decide) ⟨Nat.le_refl _, Nat.le_refl _⟩ rfl rfl (Nat.le_of_ble_eq_true rfl) (dk dL_errors_3 33 rfl) rfl (fun E285 hQ285 => ?_)
  refine g_pop F (q := 289) (dk dL_errors_3 34 rfl) rfl rfl ?_
  refine g_aload_n F (q := 290) (dk dL_errors_3 35 rfl) rfl rfl 1 rfl ?_
  refine g_bipush F (q := 292) (v := 53) (dk dL_errors_3 36 rfl) rfl (by decide) ?_
  refine h_VI F (av := [.int 53]) (st := []) (q_type hQ285 (by omega) (by decide)) kv_X6_type tq_610 hQ285.e0 ⟨rfl, rfl⟩ (by decide) ⟨Nat.le_refl _, Nat.le_refl _⟩ rfl rfl (Nat.le_of_ble_eq_true rfl) (dk dL_errors_3 37 rfl) rfl (fun E292 hQ292 => ?_)
  refine g_pop F (q := 296) (dk dL_errors_3 38 rfl) rfl rfl ?_
  refine g_aload_n F (q := 297) (dk dL_errors_3 39 rfl) rfl rfl 1 rfl ?_
  refine g_bipush F (q := 299) (v := 64) (dk dL_errors_4 0 rfl) rfl (by decide) ?_
  refine h_VI F (av := [.int 64]) (st := []) (q_type hQ292 (by omega) (by decide)) kv_X6_type tq_610 hQ292.e0 ⟨rfl, rfl⟩ (by decide) ⟨Nat.le_refl _, Nat.le_refl _⟩ rfl rfl (Nat.le_of_ble_eq_true rfl) (dk dL_errors_4 1 rfl) rfl (fun E299 hQ299 => ?_)
  refine g_pop F (q := 303) (dk dL_errors_4 2 rfl) rfl rfl ?_
  refine g_iload_n F (q := 304) (dk dL_errors_4 3 rfl) rfl rfl 0 rfl ?_
  refine g_if_eq F (q := 307) (tgt := 330) (dk dL_errors_4 4 rfl) (by decide) rfl (fun h => absurd h (by decide)) (fun _ => ?_)
  refine g_aload_n F (q := 308) (dk dL_errors_4 5 rfl) rfl rfl 1 rfl ?_
  refine h_VI F (av := []) (st := []) (q_readOrders_n hQ299 (rd_k rfl rfl rfl)) kv_X6_readOrders tq_582 hQ299.e0 ⟨rfl, rfl⟩ (by decide) ⟨Nat.le_refl _, Nat.le_refl _⟩ rfl rfl (Nat.le_of_ble_eq_true rfl) (dk dL_errors_4 6 rfl) rfl (fun E308 hQ308 => ?_)
  refine g_bipush F (q := 313) (v := (-103)) (dk dL_errors_4 7 rfl) rfl (by decide) ?_
  refine g_icmp_ne F (q := 316) (tgt := 330) (dk dL_errors_4 8 rfl) (by decide) rfl (fun h => absurd h (by decide)) (fun _ => ?_)
  refine g_aload_n F (q := 317) (dk dL_errors_4 9 rfl) rfl rfl 1 rfl ?_
  refine g_bipush F (q := 319) (v := 10) (dk dL_errors_4 10 rfl) rfl (by decide) ?_
  refine h_VI F (av := [.int 10]) (st := []) (q_count hQ308 ((vC10 hV).trans (show nI (0 + 1 + 1 + 1) = 3 by decide))) kv_X6_count tq_293 hQ308.e0 ⟨rfl, rfl⟩ (by decide) ⟨Nat.le_refl _, Nat.le_refl _⟩ rfl rfl (Nat.le_of_ble_eq_true rfl) (dk dL_errors_4 11 rfl) rfl (fun E319 hQ319 => ?_)
  refine g_iconst F (q := 323) (v := 3) (dk dL_errors_4 12 rfl) rfl (by decide) ?_
  refine g_icmp_ne F (q := 326) (tgt := 330) (dk dL_errors_4 13 rfl) (by decide) rfl (fun h => absurd h (by decide)) (fun _ => ?_)
  refine g_iconst F (q := 327) (v := 1) (dk dL_errors_4 14 rfl) rfl (by decide) ?_
  refine g_goto F (tgt := 331) (dk dL_errors_4 15 rfl) (by decide) ?_
  refine g_istore_n F (q := 332) (lv' := [(1, .int 1), (0, .ref (ad 0))]) (dk dL_errors_4 17 rfl) rfl rfl (Nat.le_of_ble_eq_true rfl) rfl ?_
  refine g_aload_n F (q := 333) (dk dL_errors_4 18 rfl) rfl rfl 1 rfl ?_
  refine g_bipush F (q := 335) (v := 9) (dk dL_errors_4 19 rfl) rfl (by decide) ?_
  refine h_VI F (av := [.int 9]) (st := []) (q_count hQ319 (vC9 hV)) kv_X6_count tq_293 hQ319.e0 ⟨rfl, rfl⟩ (by decide) ⟨Nat.le_refl _, Nat.le_refl _⟩ rfl rfl (Nat.le_of_ble_eq_true rfl) (dk dL_errors_4 20 rfl) rfl (fun E335 hQ335 => ?_)
  refine g_istore_n F (q := 339) (lv' := [(2, .int (nI nh)), (1, .int 1), (0, .ref (ad 0))]) (dk dL_errors_4 21 rfl) rfl rfl (Nat.le_of_ble_eq_true rfl) rfl ?_
  refine g_iload_n F (q := 340) (dk dL_errors_4 22 rfl) rfl rfl 1 rfl ?_
  refine g_if_eq F (q := 343) (tgt := 366) (dk dL_errors_4 23 rfl) (by decide) rfl (fun h => absurd h (by decide)) (fun _ => ?_)
  refine g_aload_n F (q := 344) (dk dL_errors_4 24 rfl) rfl rfl 2 rfl ?_
  refine h_VI F (av := []) (st := []) (q_undo hQ335) kv_X6_undo tq_614 hQ335.e0 ⟨rfl, rfl⟩ (by decide) ⟨Nat.le_refl _, Nat.le_refl _⟩ rfl rfl (Nat.le_of_ble_eq_true rfl) (dk dL_errors_4 25 rfl) rfl (fun E344 hQ344 => ?_)
  refine g_iload_n F (q := 348) (dk dL_errors_4 26 rfl) rfl rfl 0 rfl ?_
  refine g_if_le F (q := 351) (tgt := 357) (dk dL_errors_4 27 rfl) (by decide) rfl (fun c348 => ?_) (fun c348 => ?_)
  · have nc348 : nh ≤ 0 := (nI_leI (a := nh) (b := 0) (by omega) (by omega)).mp c348
    refine g_bipush F (q := 359) (v := (-5)) (dk dL_errors_4 32 rfl) rfl (by decide) ?_
    refine g_icmp_ne F (q := 362) (tgt := 366) (dk dL_errors_4 33 rfl) (by decide) rfl (fun c359 => absurd c359 (fun h => h (by rw [if_pos (show nh = 0 by omega)]))) (fun c359 => ?_)
    refine g_iconst F (q := 363) (v := 1) (dk dL_errors_4 34 rfl) rfl (by decide) ?_
    refine g_goto F (tgt := 367) (dk dL_errors_4 35 rfl) (by decide) ?_
    refine hret 1 E344 _ _ (dk dL_errors_4 37 rfl) rfl ?_
    exact ⟨rfl, trivial⟩
  · have nc348 : ¬ nh ≤ 0 := fun h => c348 ((nI_leI (a := nh) (b := 0) (by omega) (by omega)).mpr h)
    refine g_iload_n F (q := 352) (dk dL_errors_4 28 rfl) rfl rfl 0 rfl ?_
    refine g_iconst F (q := 353) (v := 1) (dk dL_errors_4 29 rfl) rfl (by decide) ?_
    refine g_isub F (q := 354) (dk dL_errors_4 30 rfl) rfl ?_
    refine g_goto F (tgt := 359) (dk dL_errors_4 31 rfl) (by decide) ?_
    refine g_icmp_ne F (q := 362) (tgt := 366) (dk dL_errors_4 33 rfl) (by decide) rfl (fun c359 => absurd c359 (fun h => h (by rw [if_neg (show ¬ nh = 0 by omega), nI_sub1 (by omega)]))) (fun c359 => ?_)
    refine g_iconst F (q := 363) (v := 1) (dk dL_errors_4 34 rfl) rfl (by decide) ?_
    refine g_goto F (tgt := 367) (dk dL_errors_4 35 rfl) (by decide) ?_
    refine hret 1 E344 _ _ (dk dL_errors_4 37 rfl) rfl ?_
    exact ⟨rfl, trivial⟩
theorem ks_L_errors : KS yL_errors "ThumpEarsLaw" cL_errors 3 (some .boolean) 1 := ⟨tq_576, tq_8, tq_577, by decide +kernel⟩
