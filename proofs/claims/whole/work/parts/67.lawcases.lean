set_option maxHeartbeats 4000000 in
set_option maxRecDepth 100000 in
theorem lc_0 {l : Launch} {D : va_G} {cA : Nat → ClassId} {ad : Nat → Nat} {E : Nat → va_E} {X : GX} {b L : Nat} {xs : Nat → Int32} (F : Fr "ThumpEarsLaw" cL_law 4 D cA X) (S : Sc X b L xs) {i : Nat} (hi : i + 4 ≤ L) (hL : L ≤ 2048) (h : LI cA ad E) (kk : ∀ E2 : Nat → va_E, LI cA ad E2 → GG room_1 4 l D X 243 5039 243 ad E2 890 (LV ad b i) []) : GG room_1 4 l D X 243 5039 243 ad E 144 (LV ad b i) [] := by
  obtain ⟨r, ne, nt, nk, nh, s1, asd, ln, txt, past, hco, hmk, hsr, bef, s3, s4, s5, lo, mo, rd, er, th, rt, h233, h234, h235, h236, h237, h238, h239, h240, h241, h242⟩ := h
  have h0 := hco.e0
  obtain ⟨hnh, hln, hI⟩ := hco.bd
  refine g_aload_n F (q := 145) (dk dL_law_0 22 rfl) rfl rfl 2 rfl ?_
  refine g_arg F S (q := 150) 1 (by omega) hL (by decide) (dk dL_law_0 23 rfl) (dk dL_law_0 24 rfl) (dk dL_law_0 25 rfl) (dk dL_law_0 26 rfl) (dk dL_law_0 27 rfl) rfl ?_
  refine g_callVI F (av := [.int (xs (i + 1))]) (st := []) (c_X6_bury hco hmk hsr) kv_X6_bury tq_294 h0 rfl (by omega) ⟨rfl, rfl⟩ (by decide) ⟨Nat.le_of_ble_eq_true rfl, Nat.le_of_ble_eq_true rfl⟩ rfl rfl (Nat.le_of_ble_eq_true rfl) (dk dL_law_0 28 rfl) rfl (fun x1 E1 hp1 => ?_)
  obtain ⟨ne2, nt2, nk2, e1, hco1, hmk1, hsr1, hf1⟩ := hp1
  have m233 := (hf1 233 (by omega)).trans h233
  have m234 := (hf1 234 (by omega)).trans h234
  have m235 := (hf1 235 (by omega)).trans h235
  have m236 := (hf1 236 (by omega)).trans h236
  have m237 := (hf1 237 (by omega)).trans h237
  have m238 := (hf1 238 (by omega)).trans h238
  have m239 := (hf1 239 (by omega)).trans h239
  have m240 := (hf1 240 (by omega)).trans h240
  have m241 := (hf1 241 (by omega)).trans h241
  have m242 := (hf1 242 (by omega)).trans h242
  refine g_aload_n F (q := 154) (dk dL_law_0 29 rfl) rfl rfl 1 rfl ?_
  refine g_arg F S (q := 159) 1 (by omega) hL (by decide) (dk dL_law_0 30 rfl) (dk dL_law_0 31 rfl) (dk dL_law_0 32 rfl) (dk dL_law_0 33 rfl) (dk dL_law_0 34 rfl) rfl ?_
  refine g_callVI F (av := [.int (xs (i + 1))]) (st := [.int x1]) (c_X7_bury m233 m234 m235 m237 hnh hI.h0 hI.e0) kv_X7_bury tq_703 m233 rfl (by omega) ⟨rfl, rfl⟩ (by decide) ⟨Nat.le_of_ble_eq_true rfl, Nat.le_of_ble_eq_true rfl⟩ rfl rfl (Nat.le_of_ble_eq_true rfl) (dk dL_law_0 35 rfl) rfl (fun x2 E2 hp2 => ?_)
  obtain ⟨g_f, g_q, g_g, g_n2, e2, k233, k234, k235, k237, hp_1, hf2⟩ := hp2
  refine g_icmp_eq F (q := 165) (tgt := 890) (dk dL_law_0 36 rfl) (by decide) rfl (fun _ => ?_) (fun hne => absurd (e1.symm.trans e2) hne)
  exact kk _ ⟨g_f, ne2, nt2, nk2, g_n2, s1, asd, ln, txt, g_q, ((core_nx hco1 hp_1).fr (fun j _ h => hf2 j (by omega))), (hmk1.fr (fun j _ h => hf2 j (by omega))), (hsr1.fr (fun j _ h => hf2 j (by omega))), _, _, _, _, _, _, _, _, _, _, k233, k234, k235, ((hf2 236 (by omega)).trans m236), k237, ((hf2 238 (by omega)).trans m238), ((hf2 239 (by omega)).trans m239), ((hf2 240 (by omega)).trans m240), ((hf2 241 (by omega)).trans m241), ((hf2 242 (by omega)).trans m242)⟩
set_option maxHeartbeats 4000000 in
set_option maxRecDepth 100000 in
theorem lc_1 {l : Launch} {D : va_G} {cA : Nat → ClassId} {ad : Nat → Nat} {E : Nat → va_E} {X : GX} {b L : Nat} {xs : Nat → Int32} (F : Fr "ThumpEarsLaw" cL_law 4 D cA X) (S : Sc X b L xs) {i : Nat} (hi : i + 4 ≤ L) (hL : L ≤ 2048) (h : LI cA ad E) (kk : ∀ E2 : Nat → va_E, LI cA ad E2 → GG room_1 4 l D X 243 5039 243 ad E2 890 (LV ad b i) []) : GG room_1 4 l D X 243 5039 243 ad E 167 (LV ad b i) [] := by
  obtain ⟨r, ne, nt, nk, nh, s1, asd, ln, txt, past, hco, hmk, hsr, bef, s3, s4, s5, lo, mo, rd, er, th, rt, h233, h234, h235, h236, h237, h238, h239, h240, h241, h242⟩ := h
  have h0 := hco.e0
  obtain ⟨hnh, hln, hI⟩ := hco.bd
  refine g_aload_n F (q := 168) (dk dL_law_0 39 rfl) rfl rfl 2 rfl ?_
  refine g_arg F S (q := 173) 1 (by omega) hL (by decide) (dk dL_law_1 0 rfl) (dk dL_law_1 1 rfl) (dk dL_law_1 2 rfl) (dk dL_law_1 3 rfl) (dk dL_law_1 4 rfl) rfl ?_
  refine g_arg F S (q := 178) 2 (by omega) hL (by decide) (dk dL_law_1 5 rfl) (dk dL_law_1 6 rfl) (dk dL_law_1 7 rfl) (dk dL_law_1 8 rfl) (dk dL_law_1 9 rfl) rfl ?_
  refine g_arg F S (q := 183) 3 (by omega) hL (by decide) (dk dL_law_1 10 rfl) (dk dL_law_1 11 rfl) (dk dL_law_1 12 rfl) (dk dL_law_1 13 rfl) (dk dL_law_1 14 rfl) rfl ?_
  refine g_callVI F (av := [.int (xs (i + 1)), .int (xs (i + 2)), .int (xs (i + 3))]) (st := []) (c_X6_setClock hco hmk hsr) kv_X6_setClock tq_325 h0 rfl (by omega) ⟨rfl, rfl⟩ (by decide) ⟨Nat.le_of_ble_eq_true rfl, Nat.le_of_ble_eq_true rfl⟩ rfl rfl (Nat.le_of_ble_eq_true rfl) (dk dL_law_1 15 rfl) rfl (fun x1 E1 hp1 => ?_)
  obtain ⟨ne2, nt2, nk2, e1, hco1, hmk1, hsr1, hf1⟩ := hp1
  have m233 := (hf1 233 (by omega)).trans h233
  have m234 := (hf1 234 (by omega)).trans h234
  have m235 := (hf1 235 (by omega)).trans h235
  have m236 := (hf1 236 (by omega)).trans h236
  have m237 := (hf1 237 (by omega)).trans h237
  have m238 := (hf1 238 (by omega)).trans h238
  have m239 := (hf1 239 (by omega)).trans h239
  have m240 := (hf1 240 (by omega)).trans h240
  have m241 := (hf1 241 (by omega)).trans h241
  have m242 := (hf1 242 (by omega)).trans h242
  refine g_aload_n F (q := 187) (dk dL_law_1 16 rfl) rfl rfl 1 rfl ?_
  refine g_arg F S (q := 192) 1 (by omega) hL (by decide) (dk dL_law_1 17 rfl) (dk dL_law_1 18 rfl) (dk dL_law_1 19 rfl) (dk dL_law_1 20 rfl) (dk dL_law_1 21 rfl) rfl ?_
  refine g_arg F S (q := 197) 2 (by omega) hL (by decide) (dk dL_law_1 22 rfl) (dk dL_law_1 23 rfl) (dk dL_law_1 24 rfl) (dk dL_law_1 25 rfl) (dk dL_law_1 26 rfl) rfl ?_
  refine g_arg F S (q := 202) 3 (by omega) hL (by decide) (dk dL_law_1 27 rfl) (dk dL_law_1 28 rfl) (dk dL_law_1 29 rfl) (dk dL_law_1 30 rfl) (dk dL_law_1 31 rfl) rfl ?_
  refine g_callVI F (av := [.int (xs (i + 1)), .int (xs (i + 2)), .int (xs (i + 3))]) (st := [.int x1]) (c_X7_setClock m233 m234 m235 m237 hnh hI.h0 hI.e0) kv_X7_setClock tq_710 m233 rfl (by omega) ⟨rfl, rfl⟩ (by decide) ⟨Nat.le_of_ble_eq_true rfl, Nat.le_of_ble_eq_true rfl⟩ rfl rfl (Nat.le_of_ble_eq_true rfl) (dk dL_law_1 32 rfl) rfl (fun x2 E2 hp2 => ?_)
  obtain ⟨g_f, g_q, g_g, g_n2, e2, k233, k234, k235, k237, hp_1, hf2⟩ := hp2
  refine g_icmp_eq F (q := 208) (tgt := 890) (dk dL_law_1 33 rfl) (by decide) rfl (fun _ => ?_) (fun hne => absurd (e1.symm.trans e2) hne)
  exact kk _ ⟨g_f, ne2, nt2, nk2, g_n2, s1, asd, ln, txt, g_q, ((core_nx hco1 hp_1).fr (fun j _ h => hf2 j (by omega))), (hmk1.fr (fun j _ h => hf2 j (by omega))), (hsr1.fr (fun j _ h => hf2 j (by omega))), _, _, _, _, _, _, _, _, _, _, k233, k234, k235, ((hf2 236 (by omega)).trans m236), k237, ((hf2 238 (by omega)).trans m238), ((hf2 239 (by omega)).trans m239), ((hf2 240 (by omega)).trans m240), ((hf2 241 (by omega)).trans m241), ((hf2 242 (by omega)).trans m242)⟩
set_option maxHeartbeats 4000000 in
set_option maxRecDepth 100000 in
theorem lc_2 {l : Launch} {D : va_G} {cA : Nat → ClassId} {ad : Nat → Nat} {E : Nat → va_E} {X : GX} {b L : Nat} {xs : Nat → Int32} (F : Fr "ThumpEarsLaw" cL_law 4 D cA X) (S : Sc X b L xs) {i : Nat} (hi : i + 4 ≤ L) (hL : L ≤ 2048) (h : LI cA ad E) (kk : ∀ E2 : Nat → va_E, LI cA ad E2 → GG room_1 4 l D X 243 5039 243 ad E2 890 (LV ad b i) []) : GG room_1 4 l D X 243 5039 243 ad E 210 (LV ad b i) [] := by
  obtain ⟨r, ne, nt, nk, nh, s1, asd, ln, txt, past, hco, hmk, hsr, bef, s3, s4, s5, lo, mo, rd, er, th, rt, h233, h234, h235, h236, h237, h238, h239, h240, h241, h242⟩ := h
  have h0 := hco.e0
  obtain ⟨hnh, hln, hI⟩ := hco.bd
  refine g_aload_n F (q := 211) (dk dL_law_1 36 rfl) rfl rfl 2 rfl ?_
  refine g_arg F S (q := 216) 1 (by omega) hL (by decide) (dk dL_law_1 37 rfl) (dk dL_law_1 38 rfl) (dk dL_law_1 39 rfl) (dk dL_law_2 0 rfl) (dk dL_law_2 1 rfl) rfl ?_
  refine g_arg F S (q := 221) 2 (by omega) hL (by decide) (dk dL_law_2 2 rfl) (dk dL_law_2 3 rfl) (dk dL_law_2 4 rfl) (dk dL_law_2 5 rfl) (dk dL_law_2 6 rfl) rfl ?_
  refine g_bool F (q := 229) (dk dL_law_2 7 rfl) (dk dL_law_2 8 rfl) (dk dL_law_2 9 rfl) (dk dL_law_2 10 rfl) rfl ?_
  refine g_callVI F (av := [.int (xs (i + 1)), .int (if (xs (i + 2)) = 0 then 0 else 1)]) (st := []) (c_X6_mute hco hmk hsr (bz01 _)) kv_X6_mute tq_333 h0 rfl (by omega) ⟨rfl, rfl⟩ (by decide) ⟨Nat.le_of_ble_eq_true rfl, Nat.le_of_ble_eq_true rfl⟩ rfl rfl (Nat.le_of_ble_eq_true rfl) (dk dL_law_2 11 rfl) rfl (fun x1 E1 hp1 => ?_)
  obtain ⟨ne2, nt2, nk2, e1, hco1, hmk1, hsr1, hf1⟩ := hp1
  have m233 := (hf1 233 (by omega)).trans h233
  have m234 := (hf1 234 (by omega)).trans h234
  have m235 := (hf1 235 (by omega)).trans h235
  have m236 := (hf1 236 (by omega)).trans h236
  have m237 := (hf1 237 (by omega)).trans h237
  have m238 := (hf1 238 (by omega)).trans h238
  have m239 := (hf1 239 (by omega)).trans h239
  have m240 := (hf1 240 (by omega)).trans h240
  have m241 := (hf1 241 (by omega)).trans h241
  have m242 := (hf1 242 (by omega)).trans h242
  refine g_aload_n F (q := 233) (dk dL_law_2 12 rfl) rfl rfl 1 rfl ?_
  refine g_arg F S (q := 238) 1 (by omega) hL (by decide) (dk dL_law_2 13 rfl) (dk dL_law_2 14 rfl) (dk dL_law_2 15 rfl) (dk dL_law_2 16 rfl) (dk dL_law_2 17 rfl) rfl ?_
  refine g_arg F S (q := 243) 2 (by omega) hL (by decide) (dk dL_law_2 18 rfl) (dk dL_law_2 19 rfl) (dk dL_law_2 20 rfl) (dk dL_law_2 21 rfl) (dk dL_law_2 22 rfl) rfl ?_
  refine g_bool F (q := 251) (dk dL_law_2 23 rfl) (dk dL_law_2 24 rfl) (dk dL_law_2 25 rfl) (dk dL_law_2 26 rfl) rfl ?_
  refine g_callVI F (av := [.int (xs (i + 1)), .int (if (xs (i + 2)) = 0 then 0 else 1)]) (st := [.int x1]) (c_X7_mute m233 m234 m235 m237 hnh hI.h0 hI.e0) kv_X7_mute tq_722 m233 rfl (by omega) ⟨rfl, rfl⟩ (by decide) ⟨Nat.le_of_ble_eq_true rfl, Nat.le_of_ble_eq_true rfl⟩ rfl rfl (Nat.le_of_ble_eq_true rfl) (dk dL_law_2 27 rfl) rfl (fun x2 E2 hp2 => ?_)
  obtain ⟨g_f, g_q, g_g, g_n2, e2, k233, k234, k235, k237, hp_1, hf2⟩ := hp2
  refine g_icmp_eq F (q := 257) (tgt := 890) (dk dL_law_2 28 rfl) (by decide) rfl (fun _ => ?_) (fun hne => absurd (e1.symm.trans e2) hne)
  exact kk _ ⟨g_f, ne2, nt2, nk2, g_n2, s1, asd, ln, txt, g_q, ((core_nx hco1 hp_1).fr (fun j _ h => hf2 j (by omega))), (hmk1.fr (fun j _ h => hf2 j (by omega))), (hsr1.fr (fun j _ h => hf2 j (by omega))), _, _, _, _, _, _, _, _, _, _, k233, k234, k235, ((hf2 236 (by omega)).trans m236), k237, ((hf2 238 (by omega)).trans m238), ((hf2 239 (by omega)).trans m239), ((hf2 240 (by omega)).trans m240), ((hf2 241 (by omega)).trans m241), ((hf2 242 (by omega)).trans m242)⟩
set_option maxHeartbeats 4000000 in
set_option maxRecDepth 100000 in
theorem lc_3 {l : Launch} {D : va_G} {cA : Nat → ClassId} {ad : Nat → Nat} {E : Nat → va_E} {X : GX} {b L : Nat} {xs : Nat → Int32} (F : Fr "ThumpEarsLaw" cL_law 4 D cA X) (S : Sc X b L xs) {i : Nat} (hi : i + 4 ≤ L) (hL : L ≤ 2048) (h : LI cA ad E) (kk : ∀ E2 : Nat → va_E, LI cA ad E2 → GG room_1 4 l D X 243 5039 243 ad E2 890 (LV ad b i) []) : GG room_1 4 l D X 243 5039 243 ad E 259 (LV ad b i) [] := by
  obtain ⟨r, ne, nt, nk, nh, s1, asd, ln, txt, past, hco, hmk, hsr, bef, s3, s4, s5, lo, mo, rd, er, th, rt, h233, h234, h235, h236, h237, h238, h239, h240, h241, h242⟩ := h
  have h0 := hco.e0
  obtain ⟨hnh, hln, hI⟩ := hco.bd
  refine g_aload_n F (q := 260) (dk dL_law_2 31 rfl) rfl rfl 2 rfl ?_
  refine g_arg F S (q := 265) 1 (by omega) hL (by decide) (dk dL_law_2 32 rfl) (dk dL_law_2 33 rfl) (dk dL_law_2 34 rfl) (dk dL_law_2 35 rfl) (dk dL_law_2 36 rfl) rfl ?_
  refine g_arg F S (q := 270) 2 (by omega) hL (by decide) (dk dL_law_2 37 rfl) (dk dL_law_2 38 rfl) (dk dL_law_2 39 rfl) (dk dL_law_3 0 rfl) (dk dL_law_3 1 rfl) rfl ?_
  refine g_callVI F (av := [.int (xs (i + 1)), .int (xs (i + 2))]) (st := []) (c_X6_set hco hmk hsr) kv_X6_set tq_344 h0 rfl (by omega) ⟨rfl, rfl⟩ (by decide) ⟨Nat.le_of_ble_eq_true rfl, Nat.le_of_ble_eq_true rfl⟩ rfl rfl (Nat.le_of_ble_eq_true rfl) (dk dL_law_3 2 rfl) rfl (fun x1 E1 hp1 => ?_)
  obtain ⟨ne2, nt2, nk2, e1, hco1, hmk1, hsr1, hf1⟩ := hp1
  have m233 := (hf1 233 (by omega)).trans h233
  have m234 := (hf1 234 (by omega)).trans h234
  have m235 := (hf1 235 (by omega)).trans h235
  have m236 := (hf1 236 (by omega)).trans h236
  have m237 := (hf1 237 (by omega)).trans h237
  have m238 := (hf1 238 (by omega)).trans h238
  have m239 := (hf1 239 (by omega)).trans h239
  have m240 := (hf1 240 (by omega)).trans h240
  have m241 := (hf1 241 (by omega)).trans h241
  have m242 := (hf1 242 (by omega)).trans h242
  refine g_aload_n F (q := 274) (dk dL_law_3 3 rfl) rfl rfl 1 rfl ?_
  refine g_arg F S (q := 279) 1 (by omega) hL (by decide) (dk dL_law_3 4 rfl) (dk dL_law_3 5 rfl) (dk dL_law_3 6 rfl) (dk dL_law_3 7 rfl) (dk dL_law_3 8 rfl) rfl ?_
  refine g_arg F S (q := 284) 2 (by omega) hL (by decide) (dk dL_law_3 9 rfl) (dk dL_law_3 10 rfl) (dk dL_law_3 11 rfl) (dk dL_law_3 12 rfl) (dk dL_law_3 13 rfl) rfl ?_
  refine g_callVI F (av := [.int (xs (i + 1)), .int (xs (i + 2))]) (st := [.int x1]) (c_X7_set m233 m234 m235 m237 hnh) kv_X7_set tq_730 m233 rfl (by omega) ⟨rfl, rfl⟩ (by decide) ⟨Nat.le_of_ble_eq_true rfl, Nat.le_of_ble_eq_true rfl⟩ rfl rfl (Nat.le_of_ble_eq_true rfl) (dk dL_law_3 14 rfl) rfl (fun x2 E2 hp2 => ?_)
  obtain ⟨g_f, g_q, g_g, g_n2, e2, k233, k234, k235, k237, hp_1, hf2⟩ := hp2
  refine g_icmp_eq F (q := 290) (tgt := 890) (dk dL_law_3 15 rfl) (by decide) rfl (fun _ => ?_) (fun hne => absurd (e1.symm.trans e2) hne)
  exact kk _ ⟨g_f, ne2, nt2, nk2, g_n2, s1, asd, ln, txt, g_q, ((core_nx hco1 hp_1).fr (fun j _ h => hf2 j (by omega))), (hmk1.fr (fun j _ h => hf2 j (by omega))), (hsr1.fr (fun j _ h => hf2 j (by omega))), _, _, _, _, _, _, _, _, _, _, k233, k234, k235, ((hf2 236 (by omega)).trans m236), k237, ((hf2 238 (by omega)).trans m238), ((hf2 239 (by omega)).trans m239), ((hf2 240 (by omega)).trans m240), ((hf2 241 (by omega)).trans m241), ((hf2 242 (by omega)).trans m242)⟩
set_option maxHeartbeats 4000000 in
set_option maxRecDepth 100000 in
theorem lc_4 {l : Launch} {D : va_G} {cA : Nat → ClassId} {ad : Nat → Nat} {E : Nat → va_E} {X : GX} {b L : Nat} {xs : Nat → Int32} (F : Fr "ThumpEarsLaw" cL_law 4 D cA X) (S : Sc X b L xs) {i : Nat} (hi : i + 4 ≤ L) (hL : L ≤ 2048) (h : LI cA ad E) (kk : ∀ E2 : Nat → va_E, LI cA ad E2 → GG room_1 4 l D X 243 5039 243 ad E2 890 (LV ad b i) []) : GG room_1 4 l D X 243 5039 243 ad E 292 (LV ad b i) [] := by
  obtain ⟨r, ne, nt, nk, nh, s1, asd, ln, txt, past, hco, hmk, hsr, bef, s3, s4, s5, lo, mo, rd, er, th, rt, h233, h234, h235, h236, h237, h238, h239, h240, h241, h242⟩ := h
  have h0 := hco.e0
  obtain ⟨hnh, hln, hI⟩ := hco.bd
  refine g_aload_n F (q := 293) (dk dL_law_3 18 rfl) rfl rfl 2 rfl ?_
  refine g_arg F S (q := 298) 1 (by omega) hL (by decide) (dk dL_law_3 19 rfl) (dk dL_law_3 20 rfl) (dk dL_law_3 21 rfl) (dk dL_law_3 22 rfl) (dk dL_law_3 23 rfl) rfl ?_
  refine g_arg F S (q := 303) 2 (by omega) hL (by decide) (dk dL_law_3 24 rfl) (dk dL_law_3 25 rfl) (dk dL_law_3 26 rfl) (dk dL_law_3 27 rfl) (dk dL_law_3 28 rfl) rfl ?_
  refine g_arg F S (q := 308) 3 (by omega) hL (by decide) (dk dL_law_3 29 rfl) (dk dL_law_3 30 rfl) (dk dL_law_3 31 rfl) (dk dL_law_3 32 rfl) (dk dL_law_3 33 rfl) rfl ?_
  refine g_callVI F (av := [.int (xs (i + 1)), .int (xs (i + 2)), .int (xs (i + 3))]) (st := []) (c_X6_thump hco hmk hsr) kv_X6_thump tq_356 h0 rfl (by omega) ⟨rfl, rfl⟩ (by decide) ⟨Nat.le_of_ble_eq_true rfl, Nat.le_of_ble_eq_true rfl⟩ rfl rfl (Nat.le_of_ble_eq_true rfl) (dk dL_law_3 34 rfl) rfl (fun x1 E1 hp1 => ?_)
  obtain ⟨ne2, nt2, nk2, e1, hco1, hmk1, hsr1, hf1⟩ := hp1
  have m233 := (hf1 233 (by omega)).trans h233
  have m234 := (hf1 234 (by omega)).trans h234
  have m235 := (hf1 235 (by omega)).trans h235
  have m236 := (hf1 236 (by omega)).trans h236
  have m237 := (hf1 237 (by omega)).trans h237
  have m238 := (hf1 238 (by omega)).trans h238
  have m239 := (hf1 239 (by omega)).trans h239
  have m240 := (hf1 240 (by omega)).trans h240
  have m241 := (hf1 241 (by omega)).trans h241
  have m242 := (hf1 242 (by omega)).trans h242
  refine g_aload_n F (q := 312) (dk dL_law_3 35 rfl) rfl rfl 1 rfl ?_
  refine g_arg F S (q := 317) 1 (by omega) hL (by decide) (dk dL_law_3 36 rfl) (dk dL_law_3 37 rfl) (dk dL_law_3 38 rfl) (dk dL_law_3 39 rfl) (dk dL_law_4 0 rfl) rfl ?_
  refine g_arg F S (q := 322) 2 (by omega) hL (by decide) (dk dL_law_4 1 rfl) (dk dL_law_4 2 rfl) (dk dL_law_4 3 rfl) (dk dL_law_4 4 rfl) (dk dL_law_4 5 rfl) rfl ?_
  refine g_arg F S (q := 327) 3 (by omega) hL (by decide) (dk dL_law_4 6 rfl) (dk dL_law_4 7 rfl) (dk dL_law_4 8 rfl) (dk dL_law_4 9 rfl) (dk dL_law_4 10 rfl) rfl ?_
  refine g_callVI F (av := [.int (xs (i + 1)), .int (xs (i + 2)), .int (xs (i + 3))]) (st := [.int x1]) (c_X7_thump m233 m234 m235 m237 hnh hI.h0 hI.e0 hI.h1 hI.e1) kv_X7_thump tq_734 m233 rfl (by omega) ⟨rfl, rfl⟩ (by decide) ⟨Nat.le_of_ble_eq_true rfl, Nat.le_of_ble_eq_true rfl⟩ rfl rfl (Nat.le_of_ble_eq_true rfl) (dk dL_law_4 11 rfl) rfl (fun x2 E2 hp2 => ?_)
  obtain ⟨g_f, g_q, g_g, g_n2, e2, k233, k234, k235, k237, hp_1, hf2⟩ := hp2
  refine g_icmp_eq F (q := 333) (tgt := 890) (dk dL_law_4 12 rfl) (by decide) rfl (fun _ => ?_) (fun hne => absurd (e1.symm.trans e2) hne)
  exact kk _ ⟨g_f, ne2, nt2, nk2, g_n2, s1, asd, ln, txt, g_q, ((core_nx hco1 hp_1).fr (fun j _ h => hf2 j (by omega))), (hmk1.fr (fun j _ h => hf2 j (by omega))), (hsr1.fr (fun j _ h => hf2 j (by omega))), _, _, _, _, _, _, _, _, _, _, k233, k234, k235, ((hf2 236 (by omega)).trans m236), k237, ((hf2 238 (by omega)).trans m238), ((hf2 239 (by omega)).trans m239), ((hf2 240 (by omega)).trans m240), ((hf2 241 (by omega)).trans m241), ((hf2 242 (by omega)).trans m242)⟩
set_option maxHeartbeats 4000000 in
set_option maxRecDepth 100000 in
theorem lc_5 {l : Launch} {D : va_G} {cA : Nat → ClassId} {ad : Nat → Nat} {E : Nat → va_E} {X : GX} {b L : Nat} {xs : Nat → Int32} (F : Fr "ThumpEarsLaw" cL_law 4 D cA X) (S : Sc X b L xs) {i : Nat} (hi : i + 4 ≤ L) (hL : L ≤ 2048) (h : LI cA ad E) (kk : ∀ E2 : Nat → va_E, LI cA ad E2 → GG room_1 4 l D X 243 5039 243 ad E2 890 (LV ad b i) []) : GG room_1 4 l D X 243 5039 243 ad E 335 (LV ad b i) [] := by
  obtain ⟨r, ne, nt, nk, nh, s1, asd, ln, txt, past, hco, hmk, hsr, bef, s3, s4, s5, lo, mo, rd, er, th, rt, h233, h234, h235, h236, h237, h238, h239, h240, h241, h242⟩ := h
  have h0 := hco.e0
  obtain ⟨hnh, hln, hI⟩ := hco.bd
  refine g_aload_n F (q := 336) (dk dL_law_4 15 rfl) rfl rfl 2 rfl ?_
  refine g_arg F S (q := 341) 1 (by omega) hL (by decide) (dk dL_law_4 16 rfl) (dk dL_law_4 17 rfl) (dk dL_law_4 18 rfl) (dk dL_law_4 19 rfl) (dk dL_law_4 20 rfl) rfl ?_
  refine g_arg F S (q := 346) 2 (by omega) hL (by decide) (dk dL_law_4 21 rfl) (dk dL_law_4 22 rfl) (dk dL_law_4 23 rfl) (dk dL_law_4 24 rfl) (dk dL_law_4 25 rfl) rfl ?_
  refine g_arg F S (q := 351) 3 (by omega) hL (by decide) (dk dL_law_4 26 rfl) (dk dL_law_4 27 rfl) (dk dL_law_4 28 rfl) (dk dL_law_4 29 rfl) (dk dL_law_4 30 rfl) rfl ?_
  refine g_callVI F (av := [.int (xs (i + 1)), .int (xs (i + 2)), .int (xs (i + 3))]) (st := []) (c_X6_knock hco hmk hsr) kv_X6_knock tq_392 h0 rfl (by omega) ⟨rfl, rfl⟩ (by decide) ⟨Nat.le_of_ble_eq_true rfl, Nat.le_of_ble_eq_true rfl⟩ rfl rfl (Nat.le_of_ble_eq_true rfl) (dk dL_law_4 31 rfl) rfl (fun x1 E1 hp1 => ?_)
  obtain ⟨ne2, nt2, nk2, e1, hco1, hmk1, hsr1, hf1⟩ := hp1
  have m233 := (hf1 233 (by omega)).trans h233
  have m234 := (hf1 234 (by omega)).trans h234
  have m235 := (hf1 235 (by omega)).trans h235
  have m236 := (hf1 236 (by omega)).trans h236
  have m237 := (hf1 237 (by omega)).trans h237
  have m238 := (hf1 238 (by omega)).trans h238
  have m239 := (hf1 239 (by omega)).trans h239
  have m240 := (hf1 240 (by omega)).trans h240
  have m241 := (hf1 241 (by omega)).trans h241
  have m242 := (hf1 242 (by omega)).trans h242
  refine g_aload_n F (q := 355) (dk dL_law_4 32 rfl) rfl rfl 1 rfl ?_
  refine g_arg F S (q := 360) 1 (by omega) hL (by decide) (dk dL_law_4 33 rfl) (dk dL_law_4 34 rfl) (dk dL_law_4 35 rfl) (dk dL_law_4 36 rfl) (dk dL_law_4 37 rfl) rfl ?_
  refine g_arg F S (q := 365) 2 (by omega) hL (by decide) (dk dL_law_4 38 rfl) (dk dL_law_4 39 rfl) (dk dL_law_5 0 rfl) (dk dL_law_5 1 rfl) (dk dL_law_5 2 rfl) rfl ?_
  refine g_arg F S (q := 370) 3 (by omega) hL (by decide) (dk dL_law_5 3 rfl) (dk dL_law_5 4 rfl) (dk dL_law_5 5 rfl) (dk dL_law_5 6 rfl) (dk dL_law_5 7 rfl) rfl ?_
  refine g_callVI F (av := [.int (xs (i + 1)), .int (xs (i + 2)), .int (xs (i + 3))]) (st := [.int x1]) (c_X7_knock m233 m234 m235 m237 hnh hI.h0 hI.e0 hI.h2 hI.e2) kv_X7_knock tq_758 m233 rfl (by omega) ⟨rfl, rfl⟩ (by decide) ⟨Nat.le_of_ble_eq_true rfl, Nat.le_of_ble_eq_true rfl⟩ rfl rfl (Nat.le_of_ble_eq_true rfl) (dk dL_law_5 8 rfl) rfl (fun x2 E2 hp2 => ?_)
  obtain ⟨g_f, g_q, g_g, g_n2, e2, k233, k234, k235, k237, hp_1, hf2⟩ := hp2
  refine g_icmp_eq F (q := 376) (tgt := 890) (dk dL_law_5 9 rfl) (by decide) rfl (fun _ => ?_) (fun hne => absurd (e1.symm.trans e2) hne)
  exact kk _ ⟨g_f, ne2, nt2, nk2, g_n2, s1, asd, ln, txt, g_q, ((core_nx hco1 hp_1).fr (fun j _ h => hf2 j (by omega))), (hmk1.fr (fun j _ h => hf2 j (by omega))), (hsr1.fr (fun j _ h => hf2 j (by omega))), _, _, _, _, _, _, _, _, _, _, k233, k234, k235, ((hf2 236 (by omega)).trans m236), k237, ((hf2 238 (by omega)).trans m238), ((hf2 239 (by omega)).trans m239), ((hf2 240 (by omega)).trans m240), ((hf2 241 (by omega)).trans m241), ((hf2 242 (by omega)).trans m242)⟩
set_option maxHeartbeats 4000000 in
set_option maxRecDepth 100000 in
theorem lc_6 {l : Launch} {D : va_G} {cA : Nat → ClassId} {ad : Nat → Nat} {E : Nat → va_E} {X : GX} {b L : Nat} {xs : Nat → Int32} (F : Fr "ThumpEarsLaw" cL_law 4 D cA X) (S : Sc X b L xs) {i : Nat} (hi : i + 4 ≤ L) (hL : L ≤ 2048) (h : LI cA ad E) (kk : ∀ E2 : Nat → va_E, LI cA ad E2 → GG room_1 4 l D X 243 5039 243 ad E2 890 (LV ad b i) []) : GG room_1 4 l D X 243 5039 243 ad E 378 (LV ad b i) [] := by
  obtain ⟨r, ne, nt, nk, nh, s1, asd, ln, txt, past, hco, hmk, hsr, bef, s3, s4, s5, lo, mo, rd, er, th, rt, h233, h234, h235, h236, h237, h238, h239, h240, h241, h242⟩ := h
  have h0 := hco.e0
  obtain ⟨hnh, hln, hI⟩ := hco.bd
  refine g_aload_n F (q := 379) (dk dL_law_5 12 rfl) rfl rfl 2 rfl ?_
  refine g_arg F S (q := 384) 1 (by omega) hL (by decide) (dk dL_law_5 13 rfl) (dk dL_law_5 14 rfl) (dk dL_law_5 15 rfl) (dk dL_law_5 16 rfl) (dk dL_law_5 17 rfl) rfl ?_
  refine g_arg F S (q := 389) 2 (by omega) hL (by decide) (dk dL_law_5 18 rfl) (dk dL_law_5 19 rfl) (dk dL_law_5 20 rfl) (dk dL_law_5 21 rfl) (dk dL_law_5 22 rfl) rfl ?_
  refine g_bool F (q := 397) (dk dL_law_5 23 rfl) (dk dL_law_5 24 rfl) (dk dL_law_5 25 rfl) (dk dL_law_5 26 rfl) rfl ?_
  refine g_callVI F (av := [.int (xs (i + 1)), .int (if (xs (i + 2)) = 0 then 0 else 1)]) (st := []) (c_X6_leaveOut hco hmk hsr (bz01 _)) kv_X6_leaveOut tq_396 h0 rfl (by omega) ⟨rfl, rfl⟩ (by decide) ⟨Nat.le_of_ble_eq_true rfl, Nat.le_of_ble_eq_true rfl⟩ rfl rfl (Nat.le_of_ble_eq_true rfl) (dk dL_law_5 27 rfl) rfl (fun x1 E1 hp1 => ?_)
  obtain ⟨ne2, nt2, nk2, e1, hco1, hmk1, hsr1, hf1⟩ := hp1
  have m233 := (hf1 233 (by omega)).trans h233
  have m234 := (hf1 234 (by omega)).trans h234
  have m235 := (hf1 235 (by omega)).trans h235
  have m236 := (hf1 236 (by omega)).trans h236
  have m237 := (hf1 237 (by omega)).trans h237
  have m238 := (hf1 238 (by omega)).trans h238
  have m239 := (hf1 239 (by omega)).trans h239
  have m240 := (hf1 240 (by omega)).trans h240
  have m241 := (hf1 241 (by omega)).trans h241
  have m242 := (hf1 242 (by omega)).trans h242
  refine g_aload_n F (q := 401) (dk dL_law_5 28 rfl) rfl rfl 1 rfl ?_
  refine g_arg F S (q := 406) 1 (by omega) hL (by decide) (dk dL_law_5 29 rfl) (dk dL_law_5 30 rfl) (dk dL_law_5 31 rfl) (dk dL_law_5 32 rfl) (dk dL_law_5 33 rfl) rfl ?_
  refine g_arg F S (q := 411) 2 (by omega) hL (by decide) (dk dL_law_5 34 rfl) (dk dL_law_5 35 rfl) (dk dL_law_5 36 rfl) (dk dL_law_5 37 rfl) (dk dL_law_5 38 rfl) rfl ?_
  refine g_bool F (q := 419) (dk dL_law_5 39 rfl) (dk dL_law_6 0 rfl) (dk dL_law_6 1 rfl) (dk dL_law_6 2 rfl) rfl ?_
  refine g_callVI F (av := [.int (xs (i + 1)), .int (if (xs (i + 2)) = 0 then 0 else 1)]) (st := [.int x1]) (c_X7_leaveOut m233 m234 m235 m237 hnh hI.h1 hI.e1) kv_X7_leaveOut tq_762 m233 rfl (by omega) ⟨rfl, rfl⟩ (by decide) ⟨Nat.le_of_ble_eq_true rfl, Nat.le_of_ble_eq_true rfl⟩ rfl rfl (Nat.le_of_ble_eq_true rfl) (dk dL_law_6 3 rfl) rfl (fun x2 E2 hp2 => ?_)
  obtain ⟨g_f, g_q, g_g, g_n2, e2, k233, k234, k235, k237, hp_1, hf2⟩ := hp2
  refine g_icmp_eq F (q := 425) (tgt := 890) (dk dL_law_6 4 rfl) (by decide) rfl (fun _ => ?_) (fun hne => absurd (e1.symm.trans e2) hne)
  exact kk _ ⟨g_f, ne2, nt2, nk2, g_n2, s1, asd, ln, txt, g_q, ((core_nx hco1 hp_1).fr (fun j _ h => hf2 j (by omega))), (hmk1.fr (fun j _ h => hf2 j (by omega))), (hsr1.fr (fun j _ h => hf2 j (by omega))), _, _, _, _, _, _, _, _, _, _, k233, k234, k235, ((hf2 236 (by omega)).trans m236), k237, ((hf2 238 (by omega)).trans m238), ((hf2 239 (by omega)).trans m239), ((hf2 240 (by omega)).trans m240), ((hf2 241 (by omega)).trans m241), ((hf2 242 (by omega)).trans m242)⟩
set_option maxHeartbeats 4000000 in
set_option maxRecDepth 100000 in
theorem lc_7 {l : Launch} {D : va_G} {cA : Nat → ClassId} {ad : Nat → Nat} {E : Nat → va_E} {X : GX} {b L : Nat} {xs : Nat → Int32} (F : Fr "ThumpEarsLaw" cL_law 4 D cA X) (S : Sc X b L xs) {i : Nat} (hi : i + 4 ≤ L) (hL : L ≤ 2048) (h : LI cA ad E) (kk : ∀ E2 : Nat → va_E, LI cA ad E2 → GG room_1 4 l D X 243 5039 243 ad E2 890 (LV ad b i) []) : GG room_1 4 l D X 243 5039 243 ad E 427 (LV ad b i) [] := by
  obtain ⟨r, ne, nt, nk, nh, s1, asd, ln, txt, past, hco, hmk, hsr, bef, s3, s4, s5, lo, mo, rd, er, th, rt, h233, h234, h235, h236, h237, h238, h239, h240, h241, h242⟩ := h
  have h0 := hco.e0
  obtain ⟨hnh, hln, hI⟩ := hco.bd
  refine g_aload_n F (q := 428) (dk dL_law_6 7 rfl) rfl rfl 2 rfl ?_
  refine g_callVI F (av := []) (st := []) (c_X6_readOrders hco hmk hsr) kv_X6_readOrders tq_404 h0 rfl (by omega) ⟨rfl, rfl⟩ (by decide) ⟨Nat.le_of_ble_eq_true rfl, Nat.le_of_ble_eq_true rfl⟩ rfl rfl (Nat.le_of_ble_eq_true rfl) (dk dL_law_6 8 rfl) rfl (fun x1 E1 hp1 => ?_)
  obtain ⟨ne2, nt2, nk2, e1, hco1, hmk1, hsr1, hf1⟩ := hp1
  have m233 := (hf1 233 (by omega)).trans h233
  have m234 := (hf1 234 (by omega)).trans h234
  have m235 := (hf1 235 (by omega)).trans h235
  have m236 := (hf1 236 (by omega)).trans h236
  have m237 := (hf1 237 (by omega)).trans h237
  have m238 := (hf1 238 (by omega)).trans h238
  have m239 := (hf1 239 (by omega)).trans h239
  have m240 := (hf1 240 (by omega)).trans h240
  have m241 := (hf1 241 (by omega)).trans h241
  have m242 := (hf1 242 (by omega)).trans h242
  refine g_aload_n F (q := 432) (dk dL_law_6 9 rfl) rfl rfl 1 rfl ?_
  refine g_callVI F (av := []) (st := [.int x1]) (c_X7_readOrders m233 m238 m234 m235 m237 hln hnh hI.h0 hI.e0 hI.h1 hI.e1 hI.h2 hI.e2) kv_X7_readOrders tq_786 m233 rfl (by omega) ⟨rfl, rfl⟩ (by decide) ⟨Nat.le_of_ble_eq_true rfl, Nat.le_of_ble_eq_true rfl⟩ rfl rfl (Nat.le_of_ble_eq_true rfl) (dk dL_law_6 10 rfl) rfl (fun x2 E2 hp2 => ?_)
  obtain ⟨g_f, g_q, g_g, g_n2, g_a2, g_t2, e2, k233, k234, k235, k237, hp_1, hf2⟩ := hp2
  refine g_icmp_eq F (q := 438) (tgt := 890) (dk dL_law_6 11 rfl) (by decide) rfl (fun _ => ?_) (fun hne => absurd (e1.symm.trans e2) hne)
  exact kk _ ⟨g_f, ne2, nt2, nk2, g_n2, s1, asd, ln, txt, g_q, ((core_nx hco1 hp_1).fr (fun j _ h => hf2 j (by omega))), (hmk1.fr (fun j _ h => hf2 j (by omega))), (hsr1.fr (fun j _ h => hf2 j (by omega))), _, _, _, _, _, _, _, _, _, _, k233, k234, k235, ((hf2 236 (by omega)).trans m236), k237, ((hf2 238 (by omega)).trans m238), ((hf2 239 (by omega)).trans m239), ((hf2 240 (by omega)).trans m240), ((hf2 241 (by omega)).trans m241), ((hf2 242 (by omega)).trans m242)⟩
set_option maxHeartbeats 4000000 in
set_option maxRecDepth 100000 in
theorem lc_8 {l : Launch} {D : va_G} {cA : Nat → ClassId} {ad : Nat → Nat} {E : Nat → va_E} {X : GX} {b L : Nat} {xs : Nat → Int32} (F : Fr "ThumpEarsLaw" cL_law 4 D cA X) (S : Sc X b L xs) {i : Nat} (hi : i + 4 ≤ L) (hL : L ≤ 2048) (h : LI cA ad E) (kk : ∀ E2 : Nat → va_E, LI cA ad E2 → GG room_1 4 l D X 243 5039 243 ad E2 890 (LV ad b i) []) : GG room_1 4 l D X 243 5039 243 ad E 440 (LV ad b i) [] := by
  obtain ⟨r, ne, nt, nk, nh, s1, asd, ln, txt, past, hco, hmk, hsr, bef, s3, s4, s5, lo, mo, rd, er, th, rt, h233, h234, h235, h236, h237, h238, h239, h240, h241, h242⟩ := h
  have h0 := hco.e0
  obtain ⟨hnh, hln, hI⟩ := hco.bd
  refine g_aload_n F (q := 441) (dk dL_law_6 14 rfl) rfl rfl 2 rfl ?_
  refine g_arg F S (q := 446) 1 (by omega) hL (by decide) (dk dL_law_6 15 rfl) (dk dL_law_6 16 rfl) (dk dL_law_6 17 rfl) (dk dL_law_6 18 rfl) (dk dL_law_6 19 rfl) rfl ?_
  refine g_i2c F (q := 447) (dk dL_law_6 20 rfl) rfl ?_
  refine g_callVI F (av := [.int ((xs (i + 1)).toUInt32 % 65536).toInt32]) (st := []) (c_X6_type hco hmk hsr (char_fits _)) kv_X6_type tq_432 h0 rfl (by omega) ⟨rfl, rfl⟩ (by decide) ⟨Nat.le_of_ble_eq_true rfl, Nat.le_of_ble_eq_true rfl⟩ rfl rfl (Nat.le_of_ble_eq_true rfl) (dk dL_law_6 21 rfl) rfl (fun x1 E1 hp1 => ?_)
  obtain ⟨e1, hco1, hmk1, hsr1, hf1⟩ := hp1
  have m233 := (hf1 233 (by omega)).trans h233
  have m234 := (hf1 234 (by omega)).trans h234
  have m235 := (hf1 235 (by omega)).trans h235
  have m236 := (hf1 236 (by omega)).trans h236
  have m237 := (hf1 237 (by omega)).trans h237
  have m238 := (hf1 238 (by omega)).trans h238
  have m239 := (hf1 239 (by omega)).trans h239
  have m240 := (hf1 240 (by omega)).trans h240
  have m241 := (hf1 241 (by omega)).trans h241
  have m242 := (hf1 242 (by omega)).trans h242
  refine g_aload_n F (q := 451) (dk dL_law_6 22 rfl) rfl rfl 1 rfl ?_
  refine g_arg F S (q := 456) 1 (by omega) hL (by decide) (dk dL_law_6 23 rfl) (dk dL_law_6 24 rfl) (dk dL_law_6 25 rfl) (dk dL_law_6 26 rfl) (dk dL_law_6 27 rfl) rfl ?_
  refine g_i2c F (q := 457) (dk dL_law_6 28 rfl) rfl ?_
  refine g_callVI F (av := [.int ((xs (i + 1)).toUInt32 % 65536).toInt32]) (st := [.int x1]) (c_X7_type m233 m238 hln (char_fits _)) kv_X7_type tq_778 m233 rfl (by omega) ⟨rfl, rfl⟩ (by decide) ⟨Nat.le_of_ble_eq_true rfl, Nat.le_of_ble_eq_true rfl⟩ rfl rfl (Nat.le_of_ble_eq_true rfl) (dk dL_law_6 29 rfl) rfl (fun x2 E2 hp2 => ?_)
  obtain ⟨e2, k233, k238, hf2⟩ := hp2
  refine g_icmp_eq F (q := 463) (tgt := 890) (dk dL_law_6 30 rfl) (by decide) rfl (fun _ => ?_) (fun hne => absurd (e1.symm.trans e2) hne)
  exact kk _ ⟨r, ne, nt, nk, nh, s1, asd, (if ln = 60 then ln else ln + 1), (if ln = 60 then txt else upd txt ln ((xs (i + 1)).toUInt32 % 65536).toInt32), past, (hco1.fr (fun j _ h => hf2 j (by omega))), (hmk1.fr (fun j _ h => hf2 j (by omega))), (hsr1.fr (fun j _ h => hf2 j (by omega))), _, _, _, _, _, _, _, _, _, _, k233, ((hf2 234 (by omega)).trans m234), ((hf2 235 (by omega)).trans m235), ((hf2 236 (by omega)).trans m236), ((hf2 237 (by omega)).trans m237), k238, ((hf2 239 (by omega)).trans m239), ((hf2 240 (by omega)).trans m240), ((hf2 241 (by omega)).trans m241), ((hf2 242 (by omega)).trans m242)⟩
set_option maxHeartbeats 4000000 in
set_option maxRecDepth 100000 in
theorem lc_9 {l : Launch} {D : va_G} {cA : Nat → ClassId} {ad : Nat → Nat} {E : Nat → va_E} {X : GX} {b L : Nat} {xs : Nat → Int32} (F : Fr "ThumpEarsLaw" cL_law 4 D cA X) (S : Sc X b L xs) {i : Nat} (hi : i + 4 ≤ L) (hL : L ≤ 2048) (h : LI cA ad E) (kk : ∀ E2 : Nat → va_E, LI cA ad E2 → GG room_1 4 l D X 243 5039 243 ad E2 890 (LV ad b i) []) : GG room_1 4 l D X 243 5039 243 ad E 465 (LV ad b i) [] := by
  obtain ⟨r, ne, nt, nk, nh, s1, asd, ln, txt, past, hco, hmk, hsr, bef, s3, s4, s5, lo, mo, rd, er, th, rt, h233, h234, h235, h236, h237, h238, h239, h240, h241, h242⟩ := h
  have h0 := hco.e0
  obtain ⟨hnh, hln, hI⟩ := hco.bd
  refine g_aload_n F (q := 466) (dk dL_law_6 33 rfl) rfl rfl 2 rfl ?_
  refine g_callVI F (av := []) (st := []) (c_X6_clearText hco hmk hsr) kv_X6_clearText tq_436 h0 rfl (by omega) ⟨rfl, rfl⟩ (by decide) ⟨Nat.le_of_ble_eq_true rfl, Nat.le_of_ble_eq_true rfl⟩ rfl rfl (Nat.le_of_ble_eq_true rfl) (dk dL_law_6 34 rfl) rfl (fun x1 E1 hp1 => ?_)
  obtain ⟨e1, hco1, hmk1, hsr1, hf1⟩ := hp1
  have m233 := (hf1 233 (by omega)).trans h233
  have m234 := (hf1 234 (by omega)).trans h234
  have m235 := (hf1 235 (by omega)).trans h235
  have m236 := (hf1 236 (by omega)).trans h236
  have m237 := (hf1 237 (by omega)).trans h237
  have m238 := (hf1 238 (by omega)).trans h238
  have m239 := (hf1 239 (by omega)).trans h239
  have m240 := (hf1 240 (by omega)).trans h240
  have m241 := (hf1 241 (by omega)).trans h241
  have m242 := (hf1 242 (by omega)).trans h242
  refine g_aload_n F (q := 470) (dk dL_law_6 35 rfl) rfl rfl 1 rfl ?_
  refine g_callVI F (av := []) (st := [.int x1]) (c_X7_clearText m233) kv_X7_clearText tq_782 m233 rfl (by omega) ⟨rfl, rfl⟩ (by decide) ⟨Nat.le_of_ble_eq_true rfl, Nat.le_of_ble_eq_true rfl⟩ rfl rfl (Nat.le_of_ble_eq_true rfl) (dk dL_law_6 36 rfl) rfl (fun x2 E2 hp2 => ?_)
  obtain ⟨e2, k233, hf2⟩ := hp2
  refine g_icmp_eq F (q := 476) (tgt := 890) (dk dL_law_6 37 rfl) (by decide) rfl (fun _ => ?_) (fun hne => absurd (e1.symm.trans e2) hne)
  exact kk _ ⟨r, ne, nt, nk, nh, s1, asd, 0, txt, past, (hco1.fr (fun j _ h => hf2 j (by omega))), (hmk1.fr (fun j _ h => hf2 j (by omega))), (hsr1.fr (fun j _ h => hf2 j (by omega))), _, _, _, _, _, _, _, _, _, _, k233, ((hf2 234 (by omega)).trans m234), ((hf2 235 (by omega)).trans m235), ((hf2 236 (by omega)).trans m236), ((hf2 237 (by omega)).trans m237), ((hf2 238 (by omega)).trans m238), ((hf2 239 (by omega)).trans m239), ((hf2 240 (by omega)).trans m240), ((hf2 241 (by omega)).trans m241), ((hf2 242 (by omega)).trans m242)⟩
set_option maxHeartbeats 4000000 in
set_option maxRecDepth 100000 in
theorem lc_10 {l : Launch} {D : va_G} {cA : Nat → ClassId} {ad : Nat → Nat} {E : Nat → va_E} {X : GX} {b L : Nat} {xs : Nat → Int32} (F : Fr "ThumpEarsLaw" cL_law 4 D cA X) (S : Sc X b L xs) {i : Nat} (hi : i + 4 ≤ L) (hL : L ≤ 2048) (h : LI cA ad E) (kk : ∀ E2 : Nat → va_E, LI cA ad E2 → GG room_1 4 l D X 243 5039 243 ad E2 890 (LV ad b i) []) : GG room_1 4 l D X 243 5039 243 ad E 478 (LV ad b i) [] := by
  obtain ⟨r, ne, nt, nk, nh, s1, asd, ln, txt, past, hco, hmk, hsr, bef, s3, s4, s5, lo, mo, rd, er, th, rt, h233, h234, h235, h236, h237, h238, h239, h240, h241, h242⟩ := h
  have h0 := hco.e0
  obtain ⟨hnh, hln, hI⟩ := hco.bd
  refine g_aload_n F (q := 479) (dk dL_law_7 0 rfl) rfl rfl 2 rfl ?_
  refine g_callVI F (av := []) (st := []) (c_X6_undo hco hmk hsr) kv_X6_undo tq_440 h0 rfl (by omega) ⟨rfl, rfl⟩ (by decide) ⟨Nat.le_of_ble_eq_true rfl, Nat.le_of_ble_eq_true rfl⟩ rfl rfl (Nat.le_of_ble_eq_true rfl) (dk dL_law_7 1 rfl) rfl (fun x1 E1 hp1 => ?_)
  obtain ⟨ne2, nt2, nk2, e1, hco1, hmk1, hsr1, hf1⟩ := hp1
  have m233 := (hf1 233 (by omega)).trans h233
  have m234 := (hf1 234 (by omega)).trans h234
  have m235 := (hf1 235 (by omega)).trans h235
  have m236 := (hf1 236 (by omega)).trans h236
  have m237 := (hf1 237 (by omega)).trans h237
  have m238 := (hf1 238 (by omega)).trans h238
  have m239 := (hf1 239 (by omega)).trans h239
  have m240 := (hf1 240 (by omega)).trans h240
  have m241 := (hf1 241 (by omega)).trans h241
  have m242 := (hf1 242 (by omega)).trans h242
  refine g_aload_n F (q := 483) (dk dL_law_7 2 rfl) rfl rfl 1 rfl ?_
  refine g_callVI F (av := []) (st := [.int x1]) (c_X7_undo m233 m234 m235 hnh) kv_X7_undo tq_675 m233 rfl (by omega) ⟨rfl, rfl⟩ (by decide) ⟨Nat.le_of_ble_eq_true rfl, Nat.le_of_ble_eq_true rfl⟩ rfl rfl (Nat.le_of_ble_eq_true rfl) (dk dL_law_7 3 rfl) rfl (fun x2 E2 hp2 => ?_)
  obtain ⟨g_f, g_n2, e2, k233, k234, hp_1, hp_2, hf2⟩ := hp2
  refine g_icmp_eq F (q := 489) (tgt := 890) (dk dL_law_7 4 rfl) (by decide) rfl (fun _ => ?_) (fun hne => absurd (e1.symm.trans e2) hne)
  subst hp_1
  exact kk _ ⟨g_f, ne2, nt2, nk2, (nh - 1), s1, asd, ln, txt, past, ((hco1.cg hp_2 (fun _ _ => eqN.rf) (Or.inr eqN.rf)).fr (fun j _ h => hf2 j (by omega))), (hmk1.fr (fun j _ h => hf2 j (by omega))), (hsr1.fr (fun j _ h => hf2 j (by omega))), _, _, _, _, _, _, _, _, _, _, k233, k234, ((hf2 235 (by omega)).trans m235), ((hf2 236 (by omega)).trans m236), ((hf2 237 (by omega)).trans m237), ((hf2 238 (by omega)).trans m238), ((hf2 239 (by omega)).trans m239), ((hf2 240 (by omega)).trans m240), ((hf2 241 (by omega)).trans m241), ((hf2 242 (by omega)).trans m242)⟩
set_option maxHeartbeats 4000000 in
set_option maxRecDepth 100000 in
theorem lc_11 {l : Launch} {D : va_G} {cA : Nat → ClassId} {ad : Nat → Nat} {E : Nat → va_E} {X : GX} {b L : Nat} {xs : Nat → Int32} (F : Fr "ThumpEarsLaw" cL_law 4 D cA X) (S : Sc X b L xs) {i : Nat} (hi : i + 4 ≤ L) (hL : L ≤ 2048) (h : LI cA ad E) (kk : ∀ E2 : Nat → va_E, LI cA ad E2 → GG room_1 4 l D X 243 5039 243 ad E2 890 (LV ad b i) []) : GG room_1 4 l D X 243 5039 243 ad E 491 (LV ad b i) [] := by
  obtain ⟨r, ne, nt, nk, nh, s1, asd, ln, txt, past, hco, hmk, hsr, bef, s3, s4, s5, lo, mo, rd, er, th, rt, h233, h234, h235, h236, h237, h238, h239, h240, h241, h242⟩ := h
  have h0 := hco.e0
  obtain ⟨hnh, hln, hI⟩ := hco.bd
  refine g_aload_n F (q := 492) (dk dL_law_7 7 rfl) rfl rfl 2 rfl ?_
  refine g_callVI F (av := []) (st := []) (c_X6_keep hco hmk hsr) kv_X6_keep tq_448 h0 rfl (by omega) ⟨rfl, rfl⟩ (by decide) ⟨Nat.le_of_ble_eq_true rfl, Nat.le_of_ble_eq_true rfl⟩ rfl rfl (Nat.le_of_ble_eq_true rfl) (dk dL_law_7 8 rfl) rfl (fun x1 E1 hp1 => ?_)
  obtain ⟨e1, hco1, hmk1, hsr1, hf1⟩ := hp1
  have m233 := (hf1 233 (by omega)).trans h233
  have m234 := (hf1 234 (by omega)).trans h234
  have m235 := (hf1 235 (by omega)).trans h235
  have m236 := (hf1 236 (by omega)).trans h236
  have m237 := (hf1 237 (by omega)).trans h237
  have m238 := (hf1 238 (by omega)).trans h238
  have m239 := (hf1 239 (by omega)).trans h239
  have m240 := (hf1 240 (by omega)).trans h240
  have m241 := (hf1 241 (by omega)).trans h241
  have m242 := (hf1 242 (by omega)).trans h242
  refine g_aload_n F (q := 496) (dk dL_law_7 9 rfl) rfl rfl 1 rfl ?_
  refine g_callVI F (av := []) (st := [.int x1]) (c_X7_keep m233 m234 m236) kv_X7_keep tq_679 m233 rfl (by omega) ⟨rfl, rfl⟩ (by decide) ⟨Nat.le_of_ble_eq_true rfl, Nat.le_of_ble_eq_true rfl⟩ rfl rfl (Nat.le_of_ble_eq_true rfl) (dk dL_law_7 10 rfl) rfl (fun x2 E2 hp2 => ?_)
  obtain ⟨g_g, e2, k233, k236, hp_1, hf2⟩ := hp2
  refine g_icmp_eq F (q := 502) (tgt := 890) (dk dL_law_7 11 rfl) (by decide) rfl (fun _ => ?_) (fun hne => absurd (e1.symm.trans e2) hne)
  exact kk _ ⟨r, ne, nt, nk, nh, 1, g_g, ln, txt, past, ((hco1.cg eqN.rf (fun _ _ => eqN.rf) (Or.inr hp_1)).fr (fun j _ h => hf2 j (by omega))), (hmk1.fr (fun j _ h => hf2 j (by omega))), (hsr1.fr (fun j _ h => hf2 j (by omega))), _, _, _, _, _, _, _, _, _, _, k233, ((hf2 234 (by omega)).trans m234), ((hf2 235 (by omega)).trans m235), k236, ((hf2 237 (by omega)).trans m237), ((hf2 238 (by omega)).trans m238), ((hf2 239 (by omega)).trans m239), ((hf2 240 (by omega)).trans m240), ((hf2 241 (by omega)).trans m241), ((hf2 242 (by omega)).trans m242)⟩
set_option maxHeartbeats 4000000 in
set_option maxRecDepth 100000 in
theorem lc_12 {l : Launch} {D : va_G} {cA : Nat → ClassId} {ad : Nat → Nat} {E : Nat → va_E} {X : GX} {b L : Nat} {xs : Nat → Int32} (F : Fr "ThumpEarsLaw" cL_law 4 D cA X) (S : Sc X b L xs) {i : Nat} (hi : i + 4 ≤ L) (hL : L ≤ 2048) (h : LI cA ad E) (kk : ∀ E2 : Nat → va_E, LI cA ad E2 → GG room_1 4 l D X 243 5039 243 ad E2 890 (LV ad b i) []) : GG room_1 4 l D X 243 5039 243 ad E 504 (LV ad b i) [] := by
  obtain ⟨r, ne, nt, nk, nh, s1, asd, ln, txt, past, hco, hmk, hsr, bef, s3, s4, s5, lo, mo, rd, er, th, rt, h233, h234, h235, h236, h237, h238, h239, h240, h241, h242⟩ := h
  have h0 := hco.e0
  obtain ⟨hnh, hln, hI⟩ := hco.bd
  refine g_aload_n F (q := 505) (dk dL_law_7 14 rfl) rfl rfl 2 rfl ?_
  refine g_callVI F (av := []) (st := []) (c_X6_restore hco hmk hsr) kv_X6_restore tq_457 h0 rfl (by omega) ⟨rfl, rfl⟩ (by decide) ⟨Nat.le_of_ble_eq_true rfl, Nat.le_of_ble_eq_true rfl⟩ rfl rfl (Nat.le_of_ble_eq_true rfl) (dk dL_law_7 15 rfl) rfl (fun x1 E1 hp1 => ?_)
  obtain ⟨ne2, nt2, nk2, e1, hco1, hmk1, hsr1, hf1⟩ := hp1
  have m233 := (hf1 233 (by omega)).trans h233
  have m234 := (hf1 234 (by omega)).trans h234
  have m235 := (hf1 235 (by omega)).trans h235
  have m236 := (hf1 236 (by omega)).trans h236
  have m237 := (hf1 237 (by omega)).trans h237
  have m238 := (hf1 238 (by omega)).trans h238
  have m239 := (hf1 239 (by omega)).trans h239
  have m240 := (hf1 240 (by omega)).trans h240
  have m241 := (hf1 241 (by omega)).trans h241
  have m242 := (hf1 242 (by omega)).trans h242
  refine g_aload_n F (q := 509) (dk dL_law_7 16 rfl) rfl rfl 1 rfl ?_
  refine g_callVI F (av := []) (st := [.int x1]) (c_X7_restore m233 m234 m235 m237 m236 hnh) kv_X7_restore tq_687 m233 rfl (by omega) ⟨rfl, rfl⟩ (by decide) ⟨Nat.le_of_ble_eq_true rfl, Nat.le_of_ble_eq_true rfl⟩ rfl rfl (Nat.le_of_ble_eq_true rfl) (dk dL_law_7 17 rfl) rfl (fun x2 E2 hp2 => ?_)
  obtain ⟨g_f, g_q, g_g, g_n2, e2, k233, k234, k235, k237, hp_1, hf2⟩ := hp2
  rw [sRes_1] at e1
  rw [sRes_2] at hco1
  refine g_icmp_eq F (q := 515) (tgt := 890) (dk dL_law_7 18 rfl) (by decide) rfl (fun _ => ?_) (fun hne => absurd (e1.symm.trans e2) hne)
  exact kk _ ⟨g_f, ne2, nt2, nk2, g_n2, s1, asd, ln, txt, g_q, ((core_nx hco1 hp_1).fr (fun j _ h => hf2 j (by omega))), (hmk1.fr (fun j _ h => hf2 j (by omega))), (hsr1.fr (fun j _ h => hf2 j (by omega))), _, _, _, _, _, _, _, _, _, _, k233, k234, k235, ((hf2 236 (by omega)).trans m236), k237, ((hf2 238 (by omega)).trans m238), ((hf2 239 (by omega)).trans m239), ((hf2 240 (by omega)).trans m240), ((hf2 241 (by omega)).trans m241), ((hf2 242 (by omega)).trans m242)⟩
set_option maxHeartbeats 4000000 in
set_option maxRecDepth 100000 in
theorem lc_13 {l : Launch} {D : va_G} {cA : Nat → ClassId} {ad : Nat → Nat} {E : Nat → va_E} {X : GX} {b L : Nat} {xs : Nat → Int32} (F : Fr "ThumpEarsLaw" cL_law 4 D cA X) (S : Sc X b L xs) {i : Nat} (hi : i + 4 ≤ L) (hL : L ≤ 2048) (h : LI cA ad E) (kk : ∀ E2 : Nat → va_E, LI cA ad E2 → GG room_1 4 l D X 243 5039 243 ad E2 890 (LV ad b i) []) : GG room_1 4 l D X 243 5039 243 ad E 517 (LV ad b i) [] := by
  obtain ⟨r, ne, nt, nk, nh, s1, asd, ln, txt, past, hco, hmk, hsr, bef, s3, s4, s5, lo, mo, rd, er, th, rt, h233, h234, h235, h236, h237, h238, h239, h240, h241, h242⟩ := h
  have h0 := hco.e0
  obtain ⟨hnh, hln, hI⟩ := hco.bd
  refine g_aload_n F (q := 518) (dk dL_law_7 21 rfl) rfl rfl 2 rfl ?_
  refine g_arg F S (q := 523) 1 (by omega) hL (by decide) (dk dL_law_7 22 rfl) (dk dL_law_7 23 rfl) (dk dL_law_7 24 rfl) (dk dL_law_7 25 rfl) (dk dL_law_7 26 rfl) rfl ?_
  refine g_arg F S (q := 528) 2 (by omega) hL (by decide) (dk dL_law_7 27 rfl) (dk dL_law_7 28 rfl) (dk dL_law_7 29 rfl) (dk dL_law_7 30 rfl) (dk dL_law_7 31 rfl) rfl ?_
  refine g_callVI F (av := [.int (xs (i + 1)), .int (xs (i + 2))]) (st := []) (c_X6_ear hco hmk hsr) kv_X6_ear tq_461 h0 rfl (by omega) ⟨rfl, rfl⟩ (by decide) ⟨Nat.le_of_ble_eq_true rfl, Nat.le_of_ble_eq_true rfl⟩ rfl rfl (Nat.le_of_ble_eq_true rfl) (dk dL_law_7 32 rfl) rfl (fun x1 E1 hp1 => ?_)
  obtain ⟨e1, hco1, hmk1, hsr1, hf1⟩ := hp1
  have m233 := (hf1 233 (by omega)).trans h233
  have m234 := (hf1 234 (by omega)).trans h234
  have m235 := (hf1 235 (by omega)).trans h235
  have m236 := (hf1 236 (by omega)).trans h236
  have m237 := (hf1 237 (by omega)).trans h237
  have m238 := (hf1 238 (by omega)).trans h238
  have m239 := (hf1 239 (by omega)).trans h239
  have m240 := (hf1 240 (by omega)).trans h240
  have m241 := (hf1 241 (by omega)).trans h241
  have m242 := (hf1 242 (by omega)).trans h242
  refine g_aload_n F (q := 532) (dk dL_law_7 33 rfl) rfl rfl 1 rfl ?_
  refine g_arg F S (q := 537) 1 (by omega) hL (by decide) (dk dL_law_7 34 rfl) (dk dL_law_7 35 rfl) (dk dL_law_7 36 rfl) (dk dL_law_7 37 rfl) (dk dL_law_7 38 rfl) rfl ?_
  refine g_arg F S (q := 542) 2 (by omega) hL (by decide) (dk dL_law_7 39 rfl) (dk dL_law_8 0 rfl) (dk dL_law_8 1 rfl) (dk dL_law_8 2 rfl) (dk dL_law_8 3 rfl) rfl ?_
  refine g_callVI F (av := [.int (xs (i + 1)), .int (xs (i + 2))]) (st := [.int x1]) (c_X7_ear m233 m234 m239 m240 m241 hI) kv_X7_ear tq_814 m233 rfl (by omega) ⟨rfl, rfl⟩ (by decide) ⟨Nat.le_of_ble_eq_true rfl, Nat.le_of_ble_eq_true rfl⟩ rfl rfl (Nat.le_of_ble_eq_true rfl) (dk dL_law_8 4 rfl) rfl (fun x2 E2 hp2 => ?_)
  obtain ⟨g_m2, g_rd1, g_er1, g_th1, e2, k233, k239, k240, k241, hf2⟩ := hp2
  refine g_icmp_eq F (q := 548) (tgt := 890) (dk dL_law_8 5 rfl) (by decide) rfl (fun _ => ?_) (fun hne => absurd (e1.symm.trans e2) hne)
  exact kk _ ⟨r, ne, nt, nk, nh, s1, asd, ln, txt, past, (hco1.fr (fun j _ h => hf2 j (by omega))), (hmk1.fr (fun j _ h => hf2 j (by omega))), (hsr1.fr (fun j _ h => hf2 j (by omega))), _, _, _, _, _, _, _, _, _, _, k233, ((hf2 234 (by omega)).trans m234), ((hf2 235 (by omega)).trans m235), ((hf2 236 (by omega)).trans m236), ((hf2 237 (by omega)).trans m237), ((hf2 238 (by omega)).trans m238), k239, k240, k241, ((hf2 242 (by omega)).trans m242)⟩
set_option maxHeartbeats 4000000 in
set_option maxRecDepth 100000 in
theorem lc_14 {l : Launch} {D : va_G} {cA : Nat → ClassId} {ad : Nat → Nat} {E : Nat → va_E} {X : GX} {b L : Nat} {xs : Nat → Int32} (F : Fr "ThumpEarsLaw" cL_law 4 D cA X) (S : Sc X b L xs) {i : Nat} (hi : i + 4 ≤ L) (hL : L ≤ 2048) (h : LI cA ad E) (kk : ∀ E2 : Nat → va_E, LI cA ad E2 → GG room_1 4 l D X 243 5039 243 ad E2 890 (LV ad b i) []) : GG room_1 4 l D X 243 5039 243 ad E 550 (LV ad b i) [] := by
  obtain ⟨r, ne, nt, nk, nh, s1, asd, ln, txt, past, hco, hmk, hsr, bef, s3, s4, s5, lo, mo, rd, er, th, rt, h233, h234, h235, h236, h237, h238, h239, h240, h241, h242⟩ := h
  have h0 := hco.e0
  obtain ⟨hnh, hln, hI⟩ := hco.bd
  refine g_aload_n F (q := 551) (dk dL_law_8 8 rfl) rfl rfl 2 rfl ?_
  refine g_arg F S (q := 556) 1 (by omega) hL (by decide) (dk dL_law_8 9 rfl) (dk dL_law_8 10 rfl) (dk dL_law_8 11 rfl) (dk dL_law_8 12 rfl) (dk dL_law_8 13 rfl) rfl ?_
  refine g_arg F S (q := 561) 2 (by omega) hL (by decide) (dk dL_law_8 14 rfl) (dk dL_law_8 15 rfl) (dk dL_law_8 16 rfl) (dk dL_law_8 17 rfl) (dk dL_law_8 18 rfl) rfl ?_
  refine g_callVI F (av := [.int (xs (i + 1)), .int (xs (i + 2))]) (st := []) (c_X6_clock hco hmk hsr) kv_X6_clock tq_484 h0 rfl (by omega) ⟨rfl, rfl⟩ (by decide) ⟨Nat.le_of_ble_eq_true rfl, Nat.le_of_ble_eq_true rfl⟩ rfl rfl (Nat.le_of_ble_eq_true rfl) (dk dL_law_8 19 rfl) rfl (fun x1 E1 hp1 => ?_)
  obtain ⟨e1, hco1, hmk1, hsr1, hf1⟩ := hp1
  have m233 := (hf1 233 (by omega)).trans h233
  have m234 := (hf1 234 (by omega)).trans h234
  have m235 := (hf1 235 (by omega)).trans h235
  have m236 := (hf1 236 (by omega)).trans h236
  have m237 := (hf1 237 (by omega)).trans h237
  have m238 := (hf1 238 (by omega)).trans h238
  have m239 := (hf1 239 (by omega)).trans h239
  have m240 := (hf1 240 (by omega)).trans h240
  have m241 := (hf1 241 (by omega)).trans h241
  have m242 := (hf1 242 (by omega)).trans h242
  refine g_aload_n F (q := 565) (dk dL_law_8 20 rfl) rfl rfl 1 rfl ?_
  refine g_arg F S (q := 570) 1 (by omega) hL (by decide) (dk dL_law_8 21 rfl) (dk dL_law_8 22 rfl) (dk dL_law_8 23 rfl) (dk dL_law_8 24 rfl) (dk dL_law_8 25 rfl) rfl ?_
  refine g_arg F S (q := 575) 2 (by omega) hL (by decide) (dk dL_law_8 26 rfl) (dk dL_law_8 27 rfl) (dk dL_law_8 28 rfl) (dk dL_law_8 29 rfl) (dk dL_law_8 30 rfl) rfl ?_
  refine g_callVI F (av := [.int (xs (i + 1)), .int (xs (i + 2))]) (st := [.int x1]) (c_X7_clock m233 m234 hI) kv_X7_clock tq_830 m233 rfl (by omega) ⟨rfl, rfl⟩ (by decide) ⟨Nat.le_of_ble_eq_true rfl, Nat.le_of_ble_eq_true rfl⟩ rfl rfl (Nat.le_of_ble_eq_true rfl) (dk dL_law_8 31 rfl) rfl (fun x2 E2 hp2 => ?_)
  obtain ⟨e2, rfl⟩ := hp2
  refine g_icmp_eq F (q := 581) (tgt := 890) (dk dL_law_8 32 rfl) (by decide) rfl (fun _ => ?_) (fun hne => absurd (e1.symm.trans e2) hne)
  exact kk _ ⟨r, ne, nt, nk, nh, s1, asd, ln, txt, past, hco1, hmk1, hsr1, _, _, _, _, _, _, _, _, _, _, m233, m234, m235, m236, m237, m238, m239, m240, m241, m242⟩
set_option maxHeartbeats 4000000 in
set_option maxRecDepth 100000 in
theorem lc_15 {l : Launch} {D : va_G} {cA : Nat → ClassId} {ad : Nat → Nat} {E : Nat → va_E} {X : GX} {b L : Nat} {xs : Nat → Int32} (F : Fr "ThumpEarsLaw" cL_law 4 D cA X) (S : Sc X b L xs) {i : Nat} (hi : i + 4 ≤ L) (hL : L ≤ 2048) (h : LI cA ad E) (kk : ∀ E2 : Nat → va_E, LI cA ad E2 → GG room_1 4 l D X 243 5039 243 ad E2 890 (LV ad b i) []) : GG room_1 4 l D X 243 5039 243 ad E 583 (LV ad b i) [] := by
  obtain ⟨r, ne, nt, nk, nh, s1, asd, ln, txt, past, hco, hmk, hsr, bef, s3, s4, s5, lo, mo, rd, er, th, rt, h233, h234, h235, h236, h237, h238, h239, h240, h241, h242⟩ := h
  have h0 := hco.e0
  obtain ⟨hnh, hln, hI⟩ := hco.bd
  refine g_aload_n F (q := 584) (dk dL_law_8 35 rfl) rfl rfl 2 rfl ?_
  refine g_arg F S (q := 589) 1 (by omega) hL (by decide) (dk dL_law_8 36 rfl) (dk dL_law_8 37 rfl) (dk dL_law_8 38 rfl) (dk dL_law_8 39 rfl) (dk dL_law_9 0 rfl) rfl ?_
  refine g_arg F S (q := 594) 2 (by omega) hL (by decide) (dk dL_law_9 1 rfl) (dk dL_law_9 2 rfl) (dk dL_law_9 3 rfl) (dk dL_law_9 4 rfl) (dk dL_law_9 5 rfl) rfl ?_
  refine g_arg F S (q := 599) 3 (by omega) hL (by decide) (dk dL_law_9 6 rfl) (dk dL_law_9 7 rfl) (dk dL_law_9 8 rfl) (dk dL_law_9 9 rfl) (dk dL_law_9 10 rfl) rfl ?_
  refine g_callVI F (av := [.int (xs (i + 1)), .int (xs (i + 2)), .int (xs (i + 3))]) (st := []) (c_X6_mark hco hmk hsr) kv_X6_mark tq_490 h0 rfl (by omega) ⟨rfl, rfl⟩ (by decide) ⟨Nat.le_of_ble_eq_true rfl, Nat.le_of_ble_eq_true rfl⟩ rfl rfl (Nat.le_of_ble_eq_true rfl) (dk dL_law_9 11 rfl) rfl (fun x1 E1 hp1 => ?_)
  obtain ⟨e1, hco1, hmk1, hsr1, hf1⟩ := hp1
  have m233 := (hf1 233 (by omega)).trans h233
  have m234 := (hf1 234 (by omega)).trans h234
  have m235 := (hf1 235 (by omega)).trans h235
  have m236 := (hf1 236 (by omega)).trans h236
  have m237 := (hf1 237 (by omega)).trans h237
  have m238 := (hf1 238 (by omega)).trans h238
  have m239 := (hf1 239 (by omega)).trans h239
  have m240 := (hf1 240 (by omega)).trans h240
  have m241 := (hf1 241 (by omega)).trans h241
  have m242 := (hf1 242 (by omega)).trans h242
  refine g_aload_n F (q := 603) (dk dL_law_9 12 rfl) rfl rfl 1 rfl ?_
  refine g_arg F S (q := 608) 1 (by omega) hL (by decide) (dk dL_law_9 13 rfl) (dk dL_law_9 14 rfl) (dk dL_law_9 15 rfl) (dk dL_law_9 16 rfl) (dk dL_law_9 17 rfl) rfl ?_
  refine g_arg F S (q := 613) 2 (by omega) hL (by decide) (dk dL_law_9 18 rfl) (dk dL_law_9 19 rfl) (dk dL_law_9 20 rfl) (dk dL_law_9 21 rfl) (dk dL_law_9 22 rfl) rfl ?_
  refine g_arg F S (q := 618) 3 (by omega) hL (by decide) (dk dL_law_9 23 rfl) (dk dL_law_9 24 rfl) (dk dL_law_9 25 rfl) (dk dL_law_9 26 rfl) (dk dL_law_9 27 rfl) rfl ?_
  refine g_callVI F (av := [.int (xs (i + 1)), .int (xs (i + 2)), .int (xs (i + 3))]) (st := [.int x1]) (c_X7_mark m233 m234 m239 m240 m241 hI) kv_X7_mark tq_835 m233 rfl (by omega) ⟨rfl, rfl⟩ (by decide) ⟨Nat.le_of_ble_eq_true rfl, Nat.le_of_ble_eq_true rfl⟩ rfl rfl (Nat.le_of_ble_eq_true rfl) (dk dL_law_9 28 rfl) rfl (fun x2 E2 hp2 => ?_)
  obtain ⟨g_m2, g_rd1, g_er1, g_th1, e2, k233, k239, k240, k241, hf2⟩ := hp2
  refine g_icmp_eq F (q := 624) (tgt := 890) (dk dL_law_9 29 rfl) (by decide) rfl (fun _ => ?_) (fun hne => absurd (e1.symm.trans e2) hne)
  exact kk _ ⟨r, ne, nt, nk, nh, s1, asd, ln, txt, past, (hco1.fr (fun j _ h => hf2 j (by omega))), (hmk1.fr (fun j _ h => hf2 j (by omega))), (hsr1.fr (fun j _ h => hf2 j (by omega))), _, _, _, _, _, _, _, _, _, _, k233, ((hf2 234 (by omega)).trans m234), ((hf2 235 (by omega)).trans m235), ((hf2 236 (by omega)).trans m236), ((hf2 237 (by omega)).trans m237), ((hf2 238 (by omega)).trans m238), k239, k240, k241, ((hf2 242 (by omega)).trans m242)⟩
set_option maxHeartbeats 4000000 in
set_option maxRecDepth 100000 in
theorem lc_16 {l : Launch} {D : va_G} {cA : Nat → ClassId} {ad : Nat → Nat} {E : Nat → va_E} {X : GX} {b L : Nat} {xs : Nat → Int32} (F : Fr "ThumpEarsLaw" cL_law 4 D cA X) (S : Sc X b L xs) {i : Nat} (hi : i + 4 ≤ L) (hL : L ≤ 2048) (h : LI cA ad E) (kk : ∀ E2 : Nat → va_E, LI cA ad E2 → GG room_1 4 l D X 243 5039 243 ad E2 890 (LV ad b i) []) : GG room_1 4 l D X 243 5039 243 ad E 626 (LV ad b i) [] := by
  obtain ⟨r, ne, nt, nk, nh, s1, asd, ln, txt, past, hco, hmk, hsr, bef, s3, s4, s5, lo, mo, rd, er, th, rt, h233, h234, h235, h236, h237, h238, h239, h240, h241, h242⟩ := h
  have h0 := hco.e0
  obtain ⟨hnh, hln, hI⟩ := hco.bd
  refine g_aload_n F (q := 627) (dk dL_law_9 32 rfl) rfl rfl 2 rfl ?_
  refine g_arg F S (q := 632) 1 (by omega) hL (by decide) (dk dL_law_9 33 rfl) (dk dL_law_9 34 rfl) (dk dL_law_9 35 rfl) (dk dL_law_9 36 rfl) (dk dL_law_9 37 rfl) rfl ?_
  refine g_arg F S (q := 637) 2 (by omega) hL (by decide) (dk dL_law_9 38 rfl) (dk dL_law_9 39 rfl) (dk dL_law_10 0 rfl) (dk dL_law_10 1 rfl) (dk dL_law_10 2 rfl) rfl ?_
  refine g_callVL F (av := [.int (xs (i + 1)), .int (xs (i + 2))]) (st := []) (c_X6_error hco hmk hsr) kv_X6_error tq_494 h0 rfl (by omega) ⟨rfl, rfl⟩ (by decide) ⟨Nat.le_of_ble_eq_true rfl, Nat.le_of_ble_eq_true rfl⟩ rfl rfl (Nat.le_of_ble_eq_true rfl) (dk dL_law_10 3 rfl) rfl (fun x1 E1 hp1 => ?_)
  obtain ⟨e1, hco1, hmk1, hsr1, hf1⟩ := hp1
  have m233 := (hf1 233 (by omega)).trans h233
  have m234 := (hf1 234 (by omega)).trans h234
  have m235 := (hf1 235 (by omega)).trans h235
  have m236 := (hf1 236 (by omega)).trans h236
  have m237 := (hf1 237 (by omega)).trans h237
  have m238 := (hf1 238 (by omega)).trans h238
  have m239 := (hf1 239 (by omega)).trans h239
  have m240 := (hf1 240 (by omega)).trans h240
  have m241 := (hf1 241 (by omega)).trans h241
  have m242 := (hf1 242 (by omega)).trans h242
  refine g_aload_n F (q := 641) (dk dL_law_10 4 rfl) rfl rfl 1 rfl ?_
  refine g_arg F S (q := 646) 1 (by omega) hL (by decide) (dk dL_law_10 5 rfl) (dk dL_law_10 6 rfl) (dk dL_law_10 7 rfl) (dk dL_law_10 8 rfl) (dk dL_law_10 9 rfl) rfl ?_
  refine g_arg F S (q := 651) 2 (by omega) hL (by decide) (dk dL_law_10 10 rfl) (dk dL_law_10 11 rfl) (dk dL_law_10 12 rfl) (dk dL_law_10 13 rfl) (dk dL_law_10 14 rfl) rfl ?_
  refine g_callVL F (av := [.int (xs (i + 1)), .int (xs (i + 2))]) (st := [.long x1]) (c_X7_error m233 m234 m239 m240 m241 hI) kv_X7_error tq_839 m233 rfl (by omega) ⟨rfl, rfl⟩ (by decide) ⟨Nat.le_of_ble_eq_true rfl, Nat.le_of_ble_eq_true rfl⟩ rfl rfl (Nat.le_of_ble_eq_true rfl) (dk dL_law_10 15 rfl) rfl (fun x2 E2 hp2 => ?_)
  obtain ⟨g_m2, g_rd1, g_er1, g_th1, e2, k233, k239, k240, k241, hf2⟩ := hp2
  refine g_lcmp_eq F (q := 658) (tgt := 890) (dk dL_law_10 16 rfl) (dk dL_law_10 17 rfl) (by decide) rfl (fun _ => ?_) (fun hne => absurd (e1.symm.trans e2) hne)
  exact kk _ ⟨r, ne, nt, nk, nh, s1, asd, ln, txt, past, (hco1.fr (fun j _ h => hf2 j (by omega))), (hmk1.fr (fun j _ h => hf2 j (by omega))), (hsr1.fr (fun j _ h => hf2 j (by omega))), _, _, _, _, _, _, _, _, _, _, k233, ((hf2 234 (by omega)).trans m234), ((hf2 235 (by omega)).trans m235), ((hf2 236 (by omega)).trans m236), ((hf2 237 (by omega)).trans m237), ((hf2 238 (by omega)).trans m238), k239, k240, k241, ((hf2 242 (by omega)).trans m242)⟩
set_option maxHeartbeats 4000000 in
set_option maxRecDepth 100000 in
theorem lc_17 {l : Launch} {D : va_G} {cA : Nat → ClassId} {ad : Nat → Nat} {E : Nat → va_E} {X : GX} {b L : Nat} {xs : Nat → Int32} (F : Fr "ThumpEarsLaw" cL_law 4 D cA X) (S : Sc X b L xs) {i : Nat} (hi : i + 4 ≤ L) (hL : L ≤ 2048) (h : LI cA ad E) (kk : ∀ E2 : Nat → va_E, LI cA ad E2 → GG room_1 4 l D X 243 5039 243 ad E2 890 (LV ad b i) []) : GG room_1 4 l D X 243 5039 243 ad E 660 (LV ad b i) [] := by
  obtain ⟨r, ne, nt, nk, nh, s1, asd, ln, txt, past, hco, hmk, hsr, bef, s3, s4, s5, lo, mo, rd, er, th, rt, h233, h234, h235, h236, h237, h238, h239, h240, h241, h242⟩ := h
  have h0 := hco.e0
  obtain ⟨hnh, hln, hI⟩ := hco.bd
  refine g_aload_n F (q := 661) (dk dL_law_10 20 rfl) rfl rfl 2 rfl ?_
  refine g_callVI F (av := []) (st := []) (c_X6_stalest hco hmk hsr) kv_X6_stalest tq_518 h0 rfl (by omega) ⟨rfl, rfl⟩ (by decide) ⟨Nat.le_of_ble_eq_true rfl, Nat.le_of_ble_eq_true rfl⟩ rfl rfl (Nat.le_of_ble_eq_true rfl) (dk dL_law_10 21 rfl) rfl (fun x1 E1 hp1 => ?_)
  obtain ⟨e1, hco1, hmk1, hsr1, hf1⟩ := hp1
  have m233 := (hf1 233 (by omega)).trans h233
  have m234 := (hf1 234 (by omega)).trans h234
  have m235 := (hf1 235 (by omega)).trans h235
  have m236 := (hf1 236 (by omega)).trans h236
  have m237 := (hf1 237 (by omega)).trans h237
  have m238 := (hf1 238 (by omega)).trans h238
  have m239 := (hf1 239 (by omega)).trans h239
  have m240 := (hf1 240 (by omega)).trans h240
  have m241 := (hf1 241 (by omega)).trans h241
  have m242 := (hf1 242 (by omega)).trans h242
  refine g_aload_n F (q := 665) (dk dL_law_10 22 rfl) rfl rfl 1 rfl ?_
  refine g_callVI F (av := []) (st := [.int x1]) (c_X7_stalest m233 m234 m239 m240 m241 hI) kv_X7_stalest tq_853 m233 rfl (by omega) ⟨rfl, rfl⟩ (by decide) ⟨Nat.le_of_ble_eq_true rfl, Nat.le_of_ble_eq_true rfl⟩ rfl rfl (Nat.le_of_ble_eq_true rfl) (dk dL_law_10 23 rfl) rfl (fun x2 E2 hp2 => ?_)
  obtain ⟨g_m2, g_rd1, g_er1, g_th1, e2, k233, k239, k240, k241, hf2⟩ := hp2
  refine g_icmp_eq F (q := 671) (tgt := 890) (dk dL_law_10 24 rfl) (by decide) rfl (fun _ => ?_) (fun hne => absurd (e1.symm.trans e2) hne)
  exact kk _ ⟨r, ne, nt, nk, nh, s1, asd, ln, txt, past, (hco1.fr (fun j _ h => hf2 j (by omega))), (hmk1.fr (fun j _ h => hf2 j (by omega))), (hsr1.fr (fun j _ h => hf2 j (by omega))), _, _, _, _, _, _, _, _, _, _, k233, ((hf2 234 (by omega)).trans m234), ((hf2 235 (by omega)).trans m235), ((hf2 236 (by omega)).trans m236), ((hf2 237 (by omega)).trans m237), ((hf2 238 (by omega)).trans m238), k239, k240, k241, ((hf2 242 (by omega)).trans m242)⟩
set_option maxHeartbeats 4000000 in
set_option maxRecDepth 100000 in
theorem lc_18 {l : Launch} {D : va_G} {cA : Nat → ClassId} {ad : Nat → Nat} {E : Nat → va_E} {X : GX} {b L : Nat} {xs : Nat → Int32} (F : Fr "ThumpEarsLaw" cL_law 4 D cA X) (S : Sc X b L xs) {i : Nat} (hi : i + 4 ≤ L) (hL : L ≤ 2048) (h : LI cA ad E) (kk : ∀ E2 : Nat → va_E, LI cA ad E2 → GG room_1 4 l D X 243 5039 243 ad E2 890 (LV ad b i) []) : GG room_1 4 l D X 243 5039 243 ad E 673 (LV ad b i) [] := by
  obtain ⟨r, ne, nt, nk, nh, s1, asd, ln, txt, past, hco, hmk, hsr, bef, s3, s4, s5, lo, mo, rd, er, th, rt, h233, h234, h235, h236, h237, h238, h239, h240, h241, h242⟩ := h
  have h0 := hco.e0
  obtain ⟨hnh, hln, hI⟩ := hco.bd
  refine g_aload_n F (q := 674) (dk dL_law_10 27 rfl) rfl rfl 2 rfl ?_
  refine g_arg F S (q := 679) 1 (by omega) hL (by decide) (dk dL_law_10 28 rfl) (dk dL_law_10 29 rfl) (dk dL_law_10 30 rfl) (dk dL_law_10 31 rfl) (dk dL_law_10 32 rfl) rfl ?_
  refine g_bool F (q := 687) (dk dL_law_10 33 rfl) (dk dL_law_10 34 rfl) (dk dL_law_10 35 rfl) (dk dL_law_10 36 rfl) rfl ?_
  refine g_arg F S (q := 692) 2 (by omega) hL (by decide) (dk dL_law_10 37 rfl) (dk dL_law_10 38 rfl) (dk dL_law_10 39 rfl) (dk dL_law_11 0 rfl) (dk dL_law_11 1 rfl) rfl ?_
  refine g_arg F S (q := 697) 3 (by omega) hL (by decide) (dk dL_law_11 2 rfl) (dk dL_law_11 3 rfl) (dk dL_law_11 4 rfl) (dk dL_law_11 5 rfl) (dk dL_law_11 6 rfl) rfl ?_
  refine g_callVI F (av := [.int (if (xs (i + 1)) = 0 then 0 else 1), .int (xs (i + 2)), .int (xs (i + 3))]) (st := []) (c_X6_heard hco hmk hsr) kv_X6_heard tq_526 h0 rfl (by omega) ⟨rfl, rfl⟩ (by decide) ⟨Nat.le_of_ble_eq_true rfl, Nat.le_of_ble_eq_true rfl⟩ rfl rfl (Nat.le_of_ble_eq_true rfl) (dk dL_law_11 7 rfl) rfl (fun x1 E1 hp1 => ?_)
  obtain ⟨e1, hco1, hmk1, hsr1, hf1⟩ := hp1
  have m233 := (hf1 233 (by omega)).trans h233
  have m234 := (hf1 234 (by omega)).trans h234
  have m235 := (hf1 235 (by omega)).trans h235
  have m236 := (hf1 236 (by omega)).trans h236
  have m237 := (hf1 237 (by omega)).trans h237
  have m238 := (hf1 238 (by omega)).trans h238
  have m239 := (hf1 239 (by omega)).trans h239
  have m240 := (hf1 240 (by omega)).trans h240
  have m241 := (hf1 241 (by omega)).trans h241
  have m242 := (hf1 242 (by omega)).trans h242
  refine g_aload_n F (q := 701) (dk dL_law_11 8 rfl) rfl rfl 1 rfl ?_
  refine g_arg F S (q := 706) 1 (by omega) hL (by decide) (dk dL_law_11 9 rfl) (dk dL_law_11 10 rfl) (dk dL_law_11 11 rfl) (dk dL_law_11 12 rfl) (dk dL_law_11 13 rfl) rfl ?_
  refine g_bool F (q := 714) (dk dL_law_11 14 rfl) (dk dL_law_11 15 rfl) (dk dL_law_11 16 rfl) (dk dL_law_11 17 rfl) rfl ?_
  refine g_arg F S (q := 719) 2 (by omega) hL (by decide) (dk dL_law_11 18 rfl) (dk dL_law_11 19 rfl) (dk dL_law_11 20 rfl) (dk dL_law_11 21 rfl) (dk dL_law_11 22 rfl) rfl ?_
  refine g_arg F S (q := 724) 3 (by omega) hL (by decide) (dk dL_law_11 23 rfl) (dk dL_law_11 24 rfl) (dk dL_law_11 25 rfl) (dk dL_law_11 26 rfl) (dk dL_law_11 27 rfl) rfl ?_
  refine g_callVI F (av := [.int (if (xs (i + 1)) = 0 then 0 else 1), .int (xs (i + 2)), .int (xs (i + 3))]) (st := [.int x1]) (c_X7_heard m233 m234 hI) kv_X7_heard tq_857 m233 rfl (by omega) ⟨rfl, rfl⟩ (by decide) ⟨Nat.le_of_ble_eq_true rfl, Nat.le_of_ble_eq_true rfl⟩ rfl rfl (Nat.le_of_ble_eq_true rfl) (dk dL_law_11 28 rfl) rfl (fun x2 E2 hp2 => ?_)
  obtain ⟨e2, rfl⟩ := hp2
  refine g_icmp_eq F (q := 730) (tgt := 890) (dk dL_law_11 29 rfl) (by decide) rfl (fun _ => ?_) (fun hne => absurd (e1.symm.trans e2) hne)
  exact kk _ ⟨r, ne, nt, nk, nh, s1, asd, ln, txt, past, hco1, hmk1, hsr1, _, _, _, _, _, _, _, _, _, _, m233, m234, m235, m236, m237, m238, m239, m240, m241, m242⟩
set_option maxHeartbeats 4000000 in
set_option maxRecDepth 100000 in
theorem lc_19 {l : Launch} {D : va_G} {cA : Nat → ClassId} {ad : Nat → Nat} {E : Nat → va_E} {X : GX} {b L : Nat} {xs : Nat → Int32} (F : Fr "ThumpEarsLaw" cL_law 4 D cA X) (S : Sc X b L xs) {i : Nat} (hi : i + 4 ≤ L) (hL : L ≤ 2048) (h : LI cA ad E) (kk : ∀ E2 : Nat → va_E, LI cA ad E2 → GG room_1 4 l D X 243 5039 243 ad E2 890 (LV ad b i) []) : GG room_1 4 l D X 243 5039 243 ad E 732 (LV ad b i) [] := by
  obtain ⟨r, ne, nt, nk, nh, s1, asd, ln, txt, past, hco, hmk, hsr, bef, s3, s4, s5, lo, mo, rd, er, th, rt, h233, h234, h235, h236, h237, h238, h239, h240, h241, h242⟩ := h
  have h0 := hco.e0
  obtain ⟨hnh, hln, hI⟩ := hco.bd
  refine g_aload_n F (q := 733) (dk dL_law_11 32 rfl) rfl rfl 2 rfl ?_
  refine g_arg F S (q := 738) 1 (by omega) hL (by decide) (dk dL_law_11 33 rfl) (dk dL_law_11 34 rfl) (dk dL_law_11 35 rfl) (dk dL_law_11 36 rfl) (dk dL_law_11 37 rfl) rfl ?_
  refine g_arg F S (q := 743) 2 (by omega) hL (by decide) (dk dL_law_11 38 rfl) (dk dL_law_11 39 rfl) (dk dL_law_12 0 rfl) (dk dL_law_12 1 rfl) (dk dL_law_12 2 rfl) rfl ?_
  refine g_callVL F (av := [.int (xs (i + 1)), .int (xs (i + 2))]) (st := []) (c_X6_putRight hco hmk hsr) kv_X6_putRight tq_531 h0 rfl (by omega) ⟨rfl, rfl⟩ (by decide) ⟨Nat.le_of_ble_eq_true rfl, Nat.le_of_ble_eq_true rfl⟩ rfl rfl (Nat.le_of_ble_eq_true rfl) (dk dL_law_12 3 rfl) rfl (fun x1 E1 hp1 => ?_)
  obtain ⟨e1, hco1, hmk1, hsr1, hf1⟩ := hp1
  have m233 := (hf1 233 (by omega)).trans h233
  have m234 := (hf1 234 (by omega)).trans h234
  have m235 := (hf1 235 (by omega)).trans h235
  have m236 := (hf1 236 (by omega)).trans h236
  have m237 := (hf1 237 (by omega)).trans h237
  have m238 := (hf1 238 (by omega)).trans h238
  have m239 := (hf1 239 (by omega)).trans h239
  have m240 := (hf1 240 (by omega)).trans h240
  have m241 := (hf1 241 (by omega)).trans h241
  have m242 := (hf1 242 (by omega)).trans h242
  refine g_aload_n F (q := 747) (dk dL_law_12 4 rfl) rfl rfl 1 rfl ?_
  refine g_arg F S (q := 752) 1 (by omega) hL (by decide) (dk dL_law_12 5 rfl) (dk dL_law_12 6 rfl) (dk dL_law_12 7 rfl) (dk dL_law_12 8 rfl) (dk dL_law_12 9 rfl) rfl ?_
  refine g_arg F S (q := 757) 2 (by omega) hL (by decide) (dk dL_law_12 10 rfl) (dk dL_law_12 11 rfl) (dk dL_law_12 12 rfl) (dk dL_law_12 13 rfl) (dk dL_law_12 14 rfl) rfl ?_
  refine g_callVL F (av := [.int (xs (i + 1)), .int (xs (i + 2))]) (st := [.long x1]) (c_X7_putRight m233 m234 m239 m240 m241 hI) kv_X7_putRight tq_861 m233 rfl (by omega) ⟨rfl, rfl⟩ (by decide) ⟨Nat.le_of_ble_eq_true rfl, Nat.le_of_ble_eq_true rfl⟩ rfl rfl (Nat.le_of_ble_eq_true rfl) (dk dL_law_12 15 rfl) rfl (fun x2 E2 hp2 => ?_)
  obtain ⟨g_m2, g_rd1, g_er1, g_th1, e2, k233, k239, k240, k241, hf2⟩ := hp2
  refine g_lcmp_eq F (q := 764) (tgt := 890) (dk dL_law_12 16 rfl) (dk dL_law_12 17 rfl) (by decide) rfl (fun _ => ?_) (fun hne => absurd (e1.symm.trans e2) hne)
  exact kk _ ⟨r, ne, nt, nk, nh, s1, asd, ln, txt, past, (hco1.fr (fun j _ h => hf2 j (by omega))), (hmk1.fr (fun j _ h => hf2 j (by omega))), (hsr1.fr (fun j _ h => hf2 j (by omega))), _, _, _, _, _, _, _, _, _, _, k233, ((hf2 234 (by omega)).trans m234), ((hf2 235 (by omega)).trans m235), ((hf2 236 (by omega)).trans m236), ((hf2 237 (by omega)).trans m237), ((hf2 238 (by omega)).trans m238), k239, k240, k241, ((hf2 242 (by omega)).trans m242)⟩
set_option maxHeartbeats 4000000 in
set_option maxRecDepth 100000 in
theorem lc_20 {l : Launch} {D : va_G} {cA : Nat → ClassId} {ad : Nat → Nat} {E : Nat → va_E} {X : GX} {b L : Nat} {xs : Nat → Int32} (F : Fr "ThumpEarsLaw" cL_law 4 D cA X) (S : Sc X b L xs) {i : Nat} (hi : i + 4 ≤ L) (hL : L ≤ 2048) (h : LI cA ad E) (kk : ∀ E2 : Nat → va_E, LI cA ad E2 → GG room_1 4 l D X 243 5039 243 ad E2 890 (LV ad b i) []) : GG room_1 4 l D X 243 5039 243 ad E 766 (LV ad b i) [] := by
  obtain ⟨r, ne, nt, nk, nh, s1, asd, ln, txt, past, hco, hmk, hsr, bef, s3, s4, s5, lo, mo, rd, er, th, rt, h233, h234, h235, h236, h237, h238, h239, h240, h241, h242⟩ := h
  have h0 := hco.e0
  obtain ⟨hnh, hln, hI⟩ := hco.bd
  refine g_aload_n F (q := 767) (dk dL_law_12 20 rfl) rfl rfl 2 rfl ?_
  refine g_arg F S (q := 772) 1 (by omega) hL (by decide) (dk dL_law_12 21 rfl) (dk dL_law_12 22 rfl) (dk dL_law_12 23 rfl) (dk dL_law_12 24 rfl) (dk dL_law_12 25 rfl) rfl ?_
  refine g_arg F S (q := 777) 2 (by omega) hL (by decide) (dk dL_law_12 26 rfl) (dk dL_law_12 27 rfl) (dk dL_law_12 28 rfl) (dk dL_law_12 29 rfl) (dk dL_law_12 30 rfl) rfl ?_
  refine g_callVL F (av := [.int (xs (i + 1)), .int (xs (i + 2))]) (st := []) (c_X6_found hco hmk hsr) kv_X6_found tq_540 h0 rfl (by omega) ⟨rfl, rfl⟩ (by decide) ⟨Nat.le_of_ble_eq_true rfl, Nat.le_of_ble_eq_true rfl⟩ rfl rfl (Nat.le_of_ble_eq_true rfl) (dk dL_law_12 31 rfl) rfl (fun x1 E1 hp1 => ?_)
  obtain ⟨e1, hco1, hmk1, hsr1, hf1⟩ := hp1
  have m233 := (hf1 233 (by omega)).trans h233
  have m234 := (hf1 234 (by omega)).trans h234
  have m235 := (hf1 235 (by omega)).trans h235
  have m236 := (hf1 236 (by omega)).trans h236
  have m237 := (hf1 237 (by omega)).trans h237
  have m238 := (hf1 238 (by omega)).trans h238
  have m239 := (hf1 239 (by omega)).trans h239
  have m240 := (hf1 240 (by omega)).trans h240
  have m241 := (hf1 241 (by omega)).trans h241
  have m242 := (hf1 242 (by omega)).trans h242
  refine g_aload_n F (q := 781) (dk dL_law_12 32 rfl) rfl rfl 1 rfl ?_
  refine g_arg F S (q := 786) 1 (by omega) hL (by decide) (dk dL_law_12 33 rfl) (dk dL_law_12 34 rfl) (dk dL_law_12 35 rfl) (dk dL_law_12 36 rfl) (dk dL_law_12 37 rfl) rfl ?_
  refine g_arg F S (q := 791) 2 (by omega) hL (by decide) (dk dL_law_12 38 rfl) (dk dL_law_12 39 rfl) (dk dL_law_13 0 rfl) (dk dL_law_13 1 rfl) (dk dL_law_13 2 rfl) rfl ?_
  refine g_callVL F (av := [.int (xs (i + 1)), .int (xs (i + 2))]) (st := [.long x1]) (c_X7_found m233 m234 m239 m240 m241 m242 hI) kv_X7_found tq_869 m233 rfl (by omega) ⟨rfl, rfl⟩ (by decide) ⟨Nat.le_of_ble_eq_true rfl, Nat.le_of_ble_eq_true rfl⟩ rfl rfl (Nat.le_of_ble_eq_true rfl) (dk dL_law_13 3 rfl) rfl (fun x2 E2 hp2 => ?_)
  obtain ⟨g_m2, g_l2, g_mo2, g_rd1, g_er1, g_th1, g_rt1, e2, k233, k239, k240, k241, k242, hf2⟩ := hp2
  refine g_lcmp_eq F (q := 798) (tgt := 890) (dk dL_law_13 4 rfl) (dk dL_law_13 5 rfl) (by decide) rfl (fun _ => ?_) (fun hne => absurd (e1.symm.trans e2) hne)
  exact kk _ ⟨r, ne, nt, nk, nh, s1, asd, ln, txt, past, (hco1.fr (fun j _ h => hf2 j (by omega))), (hmk1.fr (fun j _ h => hf2 j (by omega))), (hsr1.fr (fun j _ h => hf2 j (by omega))), _, _, _, _, _, _, _, _, _, _, k233, ((hf2 234 (by omega)).trans m234), ((hf2 235 (by omega)).trans m235), ((hf2 236 (by omega)).trans m236), ((hf2 237 (by omega)).trans m237), ((hf2 238 (by omega)).trans m238), k239, k240, k241, k242⟩
set_option maxHeartbeats 4000000 in
set_option maxRecDepth 100000 in
theorem lc_21 {l : Launch} {D : va_G} {cA : Nat → ClassId} {ad : Nat → Nat} {E : Nat → va_E} {X : GX} {b L : Nat} {xs : Nat → Int32} (F : Fr "ThumpEarsLaw" cL_law 4 D cA X) (S : Sc X b L xs) {i : Nat} (hi : i + 4 ≤ L) (hL : L ≤ 2048) (h : LI cA ad E) (kk : ∀ E2 : Nat → va_E, LI cA ad E2 → GG room_1 4 l D X 243 5039 243 ad E2 890 (LV ad b i) []) : GG room_1 4 l D X 243 5039 243 ad E 800 (LV ad b i) [] := by
  obtain ⟨r, ne, nt, nk, nh, s1, asd, ln, txt, past, hco, hmk, hsr, bef, s3, s4, s5, lo, mo, rd, er, th, rt, h233, h234, h235, h236, h237, h238, h239, h240, h241, h242⟩ := h
  have h0 := hco.e0
  obtain ⟨hnh, hln, hI⟩ := hco.bd
  refine g_aload_n F (q := 801) (dk dL_law_13 8 rfl) rfl rfl 2 rfl ?_
  refine g_arg F S (q := 806) 1 (by omega) hL (by decide) (dk dL_law_13 9 rfl) (dk dL_law_13 10 rfl) (dk dL_law_13 11 rfl) (dk dL_law_13 12 rfl) (dk dL_law_13 13 rfl) rfl ?_
  refine g_arg F S (q := 811) 2 (by omega) hL (by decide) (dk dL_law_13 14 rfl) (dk dL_law_13 15 rfl) (dk dL_law_13 16 rfl) (dk dL_law_13 17 rfl) (dk dL_law_13 18 rfl) rfl ?_
  refine g_callVL F (av := [.int (xs (i + 1)), .int (xs (i + 2))]) (st := []) (c_X6_spread hco hmk hsr) kv_X6_spread tq_594 h0 rfl (by omega) ⟨rfl, rfl⟩ (by decide) ⟨Nat.le_of_ble_eq_true rfl, Nat.le_of_ble_eq_true rfl⟩ rfl rfl (Nat.le_of_ble_eq_true rfl) (dk dL_law_13 19 rfl) rfl (fun x1 E1 hp1 => ?_)
  obtain ⟨e1, hco1, hmk1, hsr1, hf1⟩ := hp1
  have m233 := (hf1 233 (by omega)).trans h233
  have m234 := (hf1 234 (by omega)).trans h234
  have m235 := (hf1 235 (by omega)).trans h235
  have m236 := (hf1 236 (by omega)).trans h236
  have m237 := (hf1 237 (by omega)).trans h237
  have m238 := (hf1 238 (by omega)).trans h238
  have m239 := (hf1 239 (by omega)).trans h239
  have m240 := (hf1 240 (by omega)).trans h240
  have m241 := (hf1 241 (by omega)).trans h241
  have m242 := (hf1 242 (by omega)).trans h242
  refine g_aload_n F (q := 815) (dk dL_law_13 20 rfl) rfl rfl 1 rfl ?_
  refine g_arg F S (q := 820) 1 (by omega) hL (by decide) (dk dL_law_13 21 rfl) (dk dL_law_13 22 rfl) (dk dL_law_13 23 rfl) (dk dL_law_13 24 rfl) (dk dL_law_13 25 rfl) rfl ?_
  refine g_arg F S (q := 825) 2 (by omega) hL (by decide) (dk dL_law_13 26 rfl) (dk dL_law_13 27 rfl) (dk dL_law_13 28 rfl) (dk dL_law_13 29 rfl) (dk dL_law_13 30 rfl) rfl ?_
  refine g_callVL F (av := [.int (xs (i + 1)), .int (xs (i + 2))]) (st := [.long x1]) (c_X7_spread m233 m234 m239 m240 m241 m242 hI) kv_X7_spread tq_899 m233 rfl (by omega) ⟨rfl, rfl⟩ (by decide) ⟨Nat.le_of_ble_eq_true rfl, Nat.le_of_ble_eq_true rfl⟩ rfl rfl (Nat.le_of_ble_eq_true rfl) (dk dL_law_13 31 rfl) rfl (fun x2 E2 hp2 => ?_)
  obtain ⟨g_m2, g_l2, g_mo2, g_rd1, g_er1, g_th1, g_rt1, e2, k233, k239, k240, k241, k242, hf2⟩ := hp2
  refine g_lcmp_eq F (q := 832) (tgt := 890) (dk dL_law_13 32 rfl) (dk dL_law_13 33 rfl) (by decide) rfl (fun _ => ?_) (fun hne => absurd (e1.symm.trans e2) hne)
  exact kk _ ⟨r, ne, nt, nk, nh, s1, asd, ln, txt, past, (hco1.fr (fun j _ h => hf2 j (by omega))), (hmk1.fr (fun j _ h => hf2 j (by omega))), (hsr1.fr (fun j _ h => hf2 j (by omega))), _, _, _, _, _, _, _, _, _, _, k233, ((hf2 234 (by omega)).trans m234), ((hf2 235 (by omega)).trans m235), ((hf2 236 (by omega)).trans m236), ((hf2 237 (by omega)).trans m237), ((hf2 238 (by omega)).trans m238), k239, k240, k241, k242⟩
set_option maxHeartbeats 4000000 in
set_option maxRecDepth 100000 in
theorem lc_22 {l : Launch} {D : va_G} {cA : Nat → ClassId} {ad : Nat → Nat} {E : Nat → va_E} {X : GX} {b L : Nat} {xs : Nat → Int32} (F : Fr "ThumpEarsLaw" cL_law 4 D cA X) (S : Sc X b L xs) {i : Nat} (hi : i + 4 ≤ L) (hL : L ≤ 2048) (h : LI cA ad E) (kk : ∀ E2 : Nat → va_E, LI cA ad E2 → GG room_1 4 l D X 243 5039 243 ad E2 890 (LV ad b i) []) : GG room_1 4 l D X 243 5039 243 ad E 834 (LV ad b i) [] := by
  obtain ⟨r, ne, nt, nk, nh, s1, asd, ln, txt, past, hco, hmk, hsr, bef, s3, s4, s5, lo, mo, rd, er, th, rt, h233, h234, h235, h236, h237, h238, h239, h240, h241, h242⟩ := h
  have h0 := hco.e0
  obtain ⟨hnh, hln, hI⟩ := hco.bd
  refine g_aload_n F (q := 835) (dk dL_law_13 36 rfl) rfl rfl 2 rfl ?_
  refine g_arg F S (q := 840) 1 (by omega) hL (by decide) (dk dL_law_13 37 rfl) (dk dL_law_13 38 rfl) (dk dL_law_13 39 rfl) (dk dL_law_14 0 rfl) (dk dL_law_14 1 rfl) rfl ?_
  refine g_arg F S (q := 845) 2 (by omega) hL (by decide) (dk dL_law_14 2 rfl) (dk dL_law_14 3 rfl) (dk dL_law_14 4 rfl) (dk dL_law_14 5 rfl) (dk dL_law_14 6 rfl) rfl ?_
  refine g_callVI F (av := [.int (xs (i + 1)), .int (xs (i + 2))]) (st := []) (c_X6_truth hco hmk hsr) kv_X6_truth tq_599 h0 rfl (by omega) ⟨rfl, rfl⟩ (by decide) ⟨Nat.le_of_ble_eq_true rfl, Nat.le_of_ble_eq_true rfl⟩ rfl rfl (Nat.le_of_ble_eq_true rfl) (dk dL_law_14 7 rfl) rfl (fun x1 E1 hp1 => ?_)
  obtain ⟨e1, hco1, hmk1, hsr1, hf1⟩ := hp1
  have m233 := (hf1 233 (by omega)).trans h233
  have m234 := (hf1 234 (by omega)).trans h234
  have m235 := (hf1 235 (by omega)).trans h235
  have m236 := (hf1 236 (by omega)).trans h236
  have m237 := (hf1 237 (by omega)).trans h237
  have m238 := (hf1 238 (by omega)).trans h238
  have m239 := (hf1 239 (by omega)).trans h239
  have m240 := (hf1 240 (by omega)).trans h240
  have m241 := (hf1 241 (by omega)).trans h241
  have m242 := (hf1 242 (by omega)).trans h242
  refine g_aload_n F (q := 849) (dk dL_law_14 8 rfl) rfl rfl 1 rfl ?_
  refine g_arg F S (q := 854) 1 (by omega) hL (by decide) (dk dL_law_14 9 rfl) (dk dL_law_14 10 rfl) (dk dL_law_14 11 rfl) (dk dL_law_14 12 rfl) (dk dL_law_14 13 rfl) rfl ?_
  refine g_arg F S (q := 859) 2 (by omega) hL (by decide) (dk dL_law_14 14 rfl) (dk dL_law_14 15 rfl) (dk dL_law_14 16 rfl) (dk dL_law_14 17 rfl) (dk dL_law_14 18 rfl) rfl ?_
  refine g_callVI F (av := [.int (xs (i + 1)), .int (xs (i + 2))]) (st := [.int x1]) (c_X7_truth m233 m234 m239 m240 m241 m242 hI) kv_X7_truth tq_903 m233 rfl (by omega) ⟨rfl, rfl⟩ (by decide) ⟨Nat.le_of_ble_eq_true rfl, Nat.le_of_ble_eq_true rfl⟩ rfl rfl (Nat.le_of_ble_eq_true rfl) (dk dL_law_14 19 rfl) rfl (fun x2 E2 hp2 => ?_)
  obtain ⟨g_m2, g_l2, g_mo2, g_rd1, g_er1, g_th1, g_rt1, e2, k233, k239, k240, k241, k242, hf2⟩ := hp2
  refine g_icmp_eq F (q := 865) (tgt := 890) (dk dL_law_14 20 rfl) (by decide) rfl (fun _ => ?_) (fun hne => absurd (e1.symm.trans e2) hne)
  exact kk _ ⟨r, ne, nt, nk, nh, s1, asd, ln, txt, past, (hco1.fr (fun j _ h => hf2 j (by omega))), (hmk1.fr (fun j _ h => hf2 j (by omega))), (hsr1.fr (fun j _ h => hf2 j (by omega))), _, _, _, _, _, _, _, _, _, _, k233, ((hf2 234 (by omega)).trans m234), ((hf2 235 (by omega)).trans m235), ((hf2 236 (by omega)).trans m236), ((hf2 237 (by omega)).trans m237), ((hf2 238 (by omega)).trans m238), k239, k240, k241, k242⟩
set_option maxHeartbeats 4000000 in
set_option maxRecDepth 100000 in
theorem lc_23 {l : Launch} {D : va_G} {cA : Nat → ClassId} {ad : Nat → Nat} {E : Nat → va_E} {X : GX} {b L : Nat} {xs : Nat → Int32} (F : Fr "ThumpEarsLaw" cL_law 4 D cA X) (S : Sc X b L xs) {i : Nat} (hi : i + 4 ≤ L) (hL : L ≤ 2048) (h : LI cA ad E) (kk : ∀ E2 : Nat → va_E, LI cA ad E2 → GG room_1 4 l D X 243 5039 243 ad E2 890 (LV ad b i) []) : GG room_1 4 l D X 243 5039 243 ad E 867 (LV ad b i) [] := by
  obtain ⟨r, ne, nt, nk, nh, s1, asd, ln, txt, past, hco, hmk, hsr, bef, s3, s4, s5, lo, mo, rd, er, th, rt, h233, h234, h235, h236, h237, h238, h239, h240, h241, h242⟩ := h
  have h0 := hco.e0
  obtain ⟨hnh, hln, hI⟩ := hco.bd
  refine g_aload_n F (q := 868) (dk dL_law_14 23 rfl) rfl rfl 2 rfl ?_
  refine g_arg F S (q := 873) 1 (by omega) hL (by decide) (dk dL_law_14 24 rfl) (dk dL_law_14 25 rfl) (dk dL_law_14 26 rfl) (dk dL_law_14 27 rfl) (dk dL_law_14 28 rfl) rfl ?_
  refine g_callVI F (av := [.int (xs (i + 1))]) (st := []) (c_X6_count hco hmk hsr) kv_X6_count tq_608 h0 rfl (by omega) ⟨rfl, rfl⟩ (by decide) ⟨Nat.le_of_ble_eq_true rfl, Nat.le_of_ble_eq_true rfl⟩ rfl rfl (Nat.le_of_ble_eq_true rfl) (dk dL_law_14 29 rfl) rfl (fun x1 E1 hp1 => ?_)
  obtain ⟨e1, hco1, hmk1, hsr1, hf1⟩ := hp1
  have m233 := (hf1 233 (by omega)).trans h233
  have m234 := (hf1 234 (by omega)).trans h234
  have m235 := (hf1 235 (by omega)).trans h235
  have m236 := (hf1 236 (by omega)).trans h236
  have m237 := (hf1 237 (by omega)).trans h237
  have m238 := (hf1 238 (by omega)).trans h238
  have m239 := (hf1 239 (by omega)).trans h239
  have m240 := (hf1 240 (by omega)).trans h240
  have m241 := (hf1 241 (by omega)).trans h241
  have m242 := (hf1 242 (by omega)).trans h242
  refine g_aload_n F (q := 877) (dk dL_law_14 30 rfl) rfl rfl 1 rfl ?_
  refine g_arg F S (q := 882) 1 (by omega) hL (by decide) (dk dL_law_14 31 rfl) (dk dL_law_14 32 rfl) (dk dL_law_14 33 rfl) (dk dL_law_14 34 rfl) (dk dL_law_14 35 rfl) rfl ?_
  refine g_callVI F (av := [.int (xs (i + 1))]) (st := [.int x1]) (c_X7_count m233 m234 m239 m240 m241 m242 hI) kv_X7_count tq_907 m233 rfl (by omega) ⟨rfl, rfl⟩ (by decide) ⟨Nat.le_of_ble_eq_true rfl, Nat.le_of_ble_eq_true rfl⟩ rfl rfl (Nat.le_of_ble_eq_true rfl) (dk dL_law_14 36 rfl) rfl (fun x2 E2 hp2 => ?_)
  obtain ⟨g_m2, g_l2, g_mo2, g_rd1, g_er1, g_th1, g_rt1, e2, k233, k239, k240, k241, k242, hf2⟩ := hp2
  refine g_icmp_eq F (q := 888) (tgt := 890) (dk dL_law_14 37 rfl) (by decide) rfl (fun _ => ?_) (fun hne => absurd (e1.symm.trans e2) hne)
  exact kk _ ⟨r, ne, nt, nk, nh, s1, asd, ln, txt, past, (hco1.fr (fun j _ h => hf2 j (by omega))), (hmk1.fr (fun j _ h => hf2 j (by omega))), (hsr1.fr (fun j _ h => hf2 j (by omega))), _, _, _, _, _, _, _, _, _, _, k233, ((hf2 234 (by omega)).trans m234), ((hf2 235 (by omega)).trans m235), ((hf2 236 (by omega)).trans m236), ((hf2 237 (by omega)).trans m237), ((hf2 238 (by omega)).trans m238), k239, k240, k241, k242⟩
