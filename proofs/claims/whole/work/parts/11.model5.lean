abbrev rm_X7_orders_a : Room := { frames := 4, cells := 0, slots := 0, locals := 91 }
set_option maxHeartbeats 4000000 in
set_option maxRecDepth 100000 in
theorem c_X7_orders_a {l : Launch} {D : va_G} {cA : Nat → ClassId} {ad : Nat → Nat} {E : Nat → va_E} {ln : Nat} {s0 s1 s3 s4 s5 : Int32} {lo mo : Int64} {txt : Nat → Int32}  (h233 : E 233 = .inr (7, [.ref (ad 234), .ref (ad 235), .ref (ad 236), .ref (ad 237), .int s0, .int s1, .ref (ad 238), .int (nI ln), .int s3, .int s4, .int s5, .ref (ad 239), .ref (ad 240), .ref (ad 241), .long lo, .long mo, .ref (ad 242)])) (h238 : E 238 = .inl (cA 3, 60, .inl txt))  (hln : ln ≤ 60) : CtI l D cA yX7_orders cX7_orders 4 .int rm_X7_orders_a 243 ad E [.ref (ad 233), .int 0] (fun x E' => ∃ (q : Nat) (tld : Int32), E' 233 = .inr (7, [.ref (ad 234), .ref (ad 235), .ref (ad 236), .ref (ad 237), .int s0, .int s1, .ref (ad 238), .int (nI ln), .int (nI q), .int tld, .int s5, .ref (ad 239), .ref (ad 240), .ref (ad 241), .long lo, .long mo, .ref (ad 242)]) ∧ ((x = -5 ∧ (prs txt ln 61 0).2 = some q) ∨ ((prs txt ln 61 0).2 = none ∧ x = nI (prs txt ln 61 0).1.length ∧ (prs txt ln 61 0).1.length ≤ 60)) ∧ ∀ j, (j ≠ 233) → E' j = E j) := by
  refine CtI.of (by decide +kernel) (Nat.le_of_ble_eq_true rfl) (fun X F hret => ?_)
  have F : Fr "ThumpEarsModel" cX7_orders 4 D cA X := F
  refine (show GG rm_X7_orders_a 4 l D X 0 0 243 ad E 0 [(0, .ref (ad 233)), (1, .int 0)] [] from ?_)
  refine g_aload_n F (q := 1) (dk dX7_orders 0 rfl) rfl rfl 0 rfl ?_
  refine g_iconst F (q := 2) (v := 0) (dk dX7_orders 1 rfl) rfl (by decide) ?_
  refine g_putf F (q := 5) (ty := .int) h233 rfl inX7 tyX7 tyX7_ok nmX7 (by omega) (j := 8) (by decide) tq_631 rfl rfl (by decide +kernel) rfl rfl (Nat.le_of_ble_eq_true rfl) (dk dX7_orders 2 rfl) rfl (fun E2 hE2 hO2 => ?_)
  have hE2 : E2 233 = .inr (7, [.ref (ad 234), .ref (ad 235), .ref (ad 236), .ref (ad 237), .int s0, .int s1, .ref (ad 238), .int (nI ln), .int 0, .int s4, .int s5, .ref (ad 239), .ref (ad 240), .ref (ad 241), .long lo, .long mo, .ref (ad 242)]) := hE2
  refine g_iconst F (q := 6) (v := 0) (dk dX7_orders 3 rfl) rfl (by decide) ?_
  refine g_istore_n F (q := 7) (lv' := [(2, .int 0), (0, .ref (ad 233)), (1, .int 0)]) (dk dX7_orders 4 rfl) rfl rfl (Nat.le_of_ble_eq_true rfl) rfl ?_
  refine g_iconst F (q := 8) (v := 1) (dk dX7_orders 5 rfl) rfl (by decide) ?_
  refine g_istore_n F (q := 9) (lv' := [(3, .int 1), (2, .int 0), (0, .ref (ad 233)), (1, .int 0)]) (dk dX7_orders 6 rfl) rfl rfl (Nat.le_of_ble_eq_true rfl) rfl ?_
  refine g_iload_n F (q := 10) (dk dX7_orders 7 rfl) rfl rfl 0 rfl ?_
  refine g_if_eq F (q := 13) (tgt := 49) (dk dX7_orders 8 rfl) (by decide) rfl (fun h => absurd h (by decide)) (fun _ => ?_)
  have K13 : ∀ (fu : Nat) (p : Nat) (n : Nat) (f : Nat) (pre : List Ord) (tld : Int32) (E1 : Nat → va_E), f < fu → (h3 : E1 233 = .inr (7, [.ref (ad 234), .ref (ad 235), .ref (ad 236), .ref (ad 237), .int s0, .int s1, .ref (ad 238), .int (nI ln), .int (nI p), .int tld, .int s5, .ref (ad 239), .ref (ad 240), .ref (ad 241), .long lo, .long mo, .ref (ad 242)])) → (hfr13 : ∀ j, (j ≠ 233) → E1 j = E2 j) → (hp : p ≤ ln) → (hf : ln - p < f) → (hnp : n ≤ p) → (hn : pre.length = n) → (hP : prs txt ln 61 0 = (pre ++ (prs txt ln f p).1, (prs txt ln f p).2)) → GG rm_X7_orders_a 4 l D X 0 0 243 ad E1 13 [(0, .ref (ad 233)), (1, .int 0), (2, .int (nI n))] [] := by
    intro fu
    induction fu with
    | zero => intro p n f pre tld E1 hfu_; exact absurd hfu_ (Nat.not_lt_zero _)
    | succ fu ih =>
      intro p n f pre tld E1 hfu_ h3 hfr13 hp hf hnp hn hP
      obtain ⟨g, rfl⟩ : ∃ g, f = g + 1 := ⟨f - 1, by omega⟩
      refine g_aload_n F (q := 14) (dk dX7_orders 9 rfl) rfl rfl 0 rfl ?_
      refine g_iload_n F (q := 15) (dk dX7_orders 10 rfl) rfl rfl 1 rfl ?_
      have hc1 := (hO2 238 (by omega)).trans h238
      have hc2 := (hfr13 238 (by omega)).trans hc1
      refine g_callVI F (q := 18) (av := [.int 0]) (st := []) (c_X7_order_a h3 hc2 (by first | assumption | decide | omega) (by first | assumption | decide | omega)) kv_X7_order tq_794 h3 rfl (by omega) ⟨rfl, rfl⟩ (by decide) ⟨Nat.le_refl _, Nat.le_refl _⟩ rfl rfl (Nat.le_of_ble_eq_true rfl) (dk dX7_orders 11 rfl) rfl (fun r15 E15 hp15 => ?_)
      rcases hp15 with ⟨rfl, q_15, o_15, hK233_15, ho_15, hF15⟩ | ⟨rfl, q_15, hK233_15, ho_15, hF15⟩
      · have hos := ordP_s ho_15
        refine g_if_ne F (q := 21) (tgt := 24) (dk dX7_orders 12 rfl) (by decide) rfl (fun _ => ?_) (fun h => absurd h (by decide))
        refine g_aload_n F (q := 25) (dk dX7_orders 15 rfl) rfl rfl 0 rfl ?_
        refine g_getf F (q := 28) hK233_15 rfl inX7 (by omega) (j := 9) (by decide) tq_632 rfl rfl (dk dX7_orders 16 rfl) rfl ?_
        refine g_if_ge F (q := 31) (tgt := 36) (dk dX7_orders 17 rfl) (by decide) rfl (fun _ => ?_) (fun h => absurd h (by decide))
        refine g_iinc F (q := 39) (v := (nI ((n + 1)))) (lv' := [(2, .int (nI ((n + 1)))), (0, .ref (ad 233)), (1, .int 0)]) (dk dX7_orders 21 rfl) rfl 2 rfl (nI_1 _) (Nat.le_of_ble_eq_true rfl) rfl ?_
        refine g_aload_n F (q := 40) (dk dX7_orders 22 rfl) rfl rfl 1 rfl ?_
        refine g_bipush F (q := 42) (v := 59) (dk dX7_orders 23 rfl) rfl (by decide) ?_
        have hc3 := (hF15 238 (by omega)).trans hc2
        refine g_callVI F (q := 45) (av := [.int 59]) (st := []) (c_X7_takes (ch := 59) hK233_15 hc3 (by first | assumption | decide | omega) (by omega)) kv_X7_takes tq_806 hK233_15 rfl (by omega) ⟨rfl, rfl⟩ (by decide) ⟨Nat.le_refl _, Nat.le_refl _⟩ rfl rfl (Nat.le_of_ble_eq_true rfl) (dk dX7_orders 24 rfl) rfl (fun r42 E42 hp42 => ?_)
        rcases hp42 with ⟨rfl, hK233_42, hc_42, hF42⟩ | ⟨rfl, hK233_42, hc_42, hF42⟩
        · refine g_istore_n F (q := 46) (lv' := [(3, .int 1), (2, .int (nI ((n + 1)))), (0, .ref (ad 233)), (1, .int 0)]) (dk dX7_orders 25 rfl) rfl rfl (Nat.le_of_ble_eq_true rfl) rfl ?_
          refine g_goto F (tgt := 9) (dk dX7_orders 26 rfl) (by decide) ?_
          refine g_iload_n F (q := 10) (dk dX7_orders 7 rfl) rfl rfl 0 rfl ?_
          refine g_if_eq F (q := 13) (tgt := 49) (dk dX7_orders 8 rfl) (by decide) rfl (fun h => absurd h (by decide)) (fun _ => ?_)
          refine g_lv (lv' := [(0, .ref (ad 233)), (1, .int 0), (2, .int (nI ((n + 1))))]) [2, 3, 1] rfl ?_
          exact ih (q_15 + 1) (n + 1) g (pre ++ [o_15]) 0 E42 (by omega) hK233_42 (fun j hj => (((hF42 j (by omega)).trans (hF15 j (by omega))).trans (hfr13 j (by omega)))) (by omega) (by omega) (by omega) (by simp [hn]) (by rw [hP, prs_c ho_15 hc_42]; simp)
        · refine g_istore_n F (q := 46) (lv' := [(3, .int 0), (2, .int (nI ((n + 1)))), (0, .ref (ad 233)), (1, .int 0)]) (dk dX7_orders 25 rfl) rfl rfl (Nat.le_of_ble_eq_true rfl) rfl ?_
          refine g_goto F (tgt := 9) (dk dX7_orders 26 rfl) (by decide) ?_
          refine g_iload_n F (q := 10) (dk dX7_orders 7 rfl) rfl rfl 0 rfl ?_
          refine g_if_eq F (q := 13) (tgt := 49) (dk dX7_orders 8 rfl) (by decide) rfl (fun _ => ?_) (fun h => absurd h (by decide))
          refine g_aload_n F (q := 50) (dk dX7_orders 27 rfl) rfl rfl 2 rfl ?_
          refine g_getf F (q := 53) hK233_42 rfl inX7 (by omega) (j := 8) (by decide) tq_631 rfl rfl (dk dX7_orders 28 rfl) rfl ?_
          refine g_aload_n F (q := 54) (dk dX7_orders 29 rfl) rfl rfl 2 rfl ?_
          refine g_getf F (q := 57) hK233_42 rfl inX7 (by omega) (j := 7) (by decide) tq_630 rfl rfl (dk dX7_orders 30 rfl) rfl ?_
          refine g_icmp_ge F (q := 60) (tgt := 65) (dk dX7_orders 31 rfl) (by decide) rfl (fun c57 => ?_) (fun c57 => ?_)
          · have nc57 : ln ≤ q_15 := (nI_leI (a := ln) (b := q_15) (by omega) (by omega)).mp c57
            refine g_iload_n F (q := 66) (dk dX7_orders 34 rfl) rfl rfl 1 rfl ?_
            refine hret (nI ((n + 1))) E42 _ _ (dk dX7_orders 35 rfl) (nint _) ?_
            exact ⟨q_15, _, hK233_42, (Or.inr ⟨by rw [hP, prs_e ho_15 hc_42]; exact if_neg (by omega), by rw [hP, prs_e ho_15 hc_42]; simp [hn], by rw [hP, prs_e ho_15 hc_42]; simp [hn]; omega⟩), (fun j hj => ((((hF42 j (by omega)).trans (hF15 j (by omega))).trans (hfr13 j (by omega))).trans (hO2 j (by omega))))⟩
          · have nc57 : ¬ ln ≤ q_15 := fun h => c57 ((nI_leI (a := ln) (b := q_15) (by omega) (by omega)).mpr h)
            refine g_bipush F (q := 62) (v := (-5)) (dk dX7_orders 32 rfl) rfl (by decide) ?_
            refine g_goto F (tgt := 66) (dk dX7_orders 33 rfl) (by decide) ?_
            refine hret (-5) E42 _ _ (dk dX7_orders 35 rfl) (nint _) ?_
            exact ⟨q_15, _, hK233_42, (Or.inl ⟨rfl, by rw [hP, prs_e ho_15 hc_42]; exact if_pos (by omega)⟩), (fun j hj => ((((hF42 j (by omega)).trans (hF15 j (by omega))).trans (hfr13 j (by omega))).trans (hO2 j (by omega))))⟩
      · refine g_if_ne F (q := 21) (tgt := 24) (dk dX7_orders 12 rfl) (by decide) rfl (fun h => absurd h (by decide)) (fun _ => ?_)
        refine g_bipush F (q := 23) (v := (-5)) (dk dX7_orders 13 rfl) rfl (by decide) ?_
        refine hret (-5) E15 _ _ (dk dX7_orders 14 rfl) (nint _) ?_
        exact ⟨q_15, _, hK233_15, (Or.inl ⟨rfl, by rw [hP, prs_n ho_15]⟩), (fun j hj => (((hF15 j (by omega)).trans (hfr13 j (by omega))).trans (hO2 j (by omega))))⟩
  refine g_lv (lv' := [(0, .ref (ad 233)), (1, .int 0), (2, .int 0)]) [2, 3, 1] rfl ?_
  exact K13 _ 0 0 61 ([]) s4 E2 (Nat.lt_succ_self _) hE2 (fun j _ => rfl) (by omega) (by omega) (by omega) rfl (by simp)
theorem kv_X7_orders : KV yX7_orders "ThumpEarsModel" cX7_orders 4 (some .int) 1 := ⟨tq_792, tq_21, tq_47, tq_793, by decide +kernel⟩
abbrev rm_X7_orders_b : Room := { frames := 4, cells := 0, slots := 0, locals := 102 }
set_option maxHeartbeats 4000000 in
set_option maxRecDepth 100000 in
theorem c_X7_orders_b {l : Launch} {D : va_G} {cA : Nat → ClassId} {ad : Nat → Nat} {E : Nat → va_E} {ln : Nat} {s0 s1 s3 s4 s5 : Int32} {lo mo : Int64} {txt r : Nat → Int32} {ne nt nk : Nat} (h233 : E 233 = .inr (7, [.ref (ad 234), .ref (ad 235), .ref (ad 236), .ref (ad 237), .int s0, .int s1, .ref (ad 238), .int (nI ln), .int s3, .int s4, .int s5, .ref (ad 239), .ref (ad 240), .ref (ad 241), .long lo, .long mo, .ref (ad 242)])) (h238 : E 238 = .inl (cA 3, 60, .inl txt)) (h234 : E 234 = .inl (cA 0, 346, .inl r))  (hln : ln ≤ 60) (h0 : r 0 = nI ne) (hne : ne ≤ 10) (h1 : r 1 = nI nt) (hnt : nt ≤ 10) (h2 : r 2 = nI nk) (hnk : nk ≤ 10) (hok : (prs txt ln 61 0).2 = none) : CtI l D cA yX7_orders cX7_orders 4 .int rm_X7_orders_b 243 ad E [.ref (ad 233), .int 1] (fun x E' => ∃ (q : Nat) (tld : Int32), E' 233 = .inr (7, [.ref (ad 234), .ref (ad 235), .ref (ad 236), .ref (ad 237), .int s0, .int s1, .ref (ad 238), .int (nI ln), .int (nI q), .int tld, .int s5, .ref (ad 239), .ref (ad 240), .ref (ad 241), .long lo, .long mo, .ref (ad 242)]) ∧ E' 234 = .inl (cA 0, 346, .inl (rl ne (prs txt ln 61 0).1 r nt nk).2) ∧ (((rl ne (prs txt ln 61 0).1 r nt nk).1 < 0 ∧ x = (rl ne (prs txt ln 61 0).1 r nt nk).1) ∨ (¬ (rl ne (prs txt ln 61 0).1 r nt nk).1 < 0 ∧ x = nI (prs txt ln 61 0).1.length)) ∧ ∀ j, (j ≠ 233 ∧ j ≠ 234) → E' j = E j) := by
  refine CtI.of (by decide +kernel) (Nat.le_of_ble_eq_true rfl) (fun X F hret => ?_)
  have F : Fr "ThumpEarsModel" cX7_orders 4 D cA X := F
  refine (show GG rm_X7_orders_b 4 l D X 0 0 243 ad E 0 [(0, .ref (ad 233)), (1, .int 1)] [] from ?_)
  refine g_aload_n F (q := 1) (dk dX7_orders 0 rfl) rfl rfl 0 rfl ?_
  refine g_iconst F (q := 2) (v := 0) (dk dX7_orders 1 rfl) rfl (by decide) ?_
  refine g_putf F (q := 5) (ty := .int) h233 rfl inX7 tyX7 tyX7_ok nmX7 (by omega) (j := 8) (by decide) tq_631 rfl rfl (by decide +kernel) rfl rfl (Nat.le_of_ble_eq_true rfl) (dk dX7_orders 2 rfl) rfl (fun E2 hE2 hO2 => ?_)
  have hE2 : E2 233 = .inr (7, [.ref (ad 234), .ref (ad 235), .ref (ad 236), .ref (ad 237), .int s0, .int s1, .ref (ad 238), .int (nI ln), .int 0, .int s4, .int s5, .ref (ad 239), .ref (ad 240), .ref (ad 241), .long lo, .long mo, .ref (ad 242)]) := hE2
  refine g_iconst F (q := 6) (v := 0) (dk dX7_orders 3 rfl) rfl (by decide) ?_
  refine g_istore_n F (q := 7) (lv' := [(2, .int 0), (0, .ref (ad 233)), (1, .int 1)]) (dk dX7_orders 4 rfl) rfl rfl (Nat.le_of_ble_eq_true rfl) rfl ?_
  refine g_iconst F (q := 8) (v := 1) (dk dX7_orders 5 rfl) rfl (by decide) ?_
  refine g_istore_n F (q := 9) (lv' := [(3, .int 1), (2, .int 0), (0, .ref (ad 233)), (1, .int 1)]) (dk dX7_orders 6 rfl) rfl rfl (Nat.le_of_ble_eq_true rfl) rfl ?_
  refine g_iload_n F (q := 10) (dk dX7_orders 7 rfl) rfl rfl 0 rfl ?_
  refine g_if_eq F (q := 13) (tgt := 49) (dk dX7_orders 8 rfl) (by decide) rfl (fun h => absurd h (by decide)) (fun _ => ?_)
  have K13 : ∀ (fu : Nat) (p : Nat) (n : Nat) (f : Nat) (pre : List Ord) (tld : Int32) (rw2 : Nat → Int32) (nt2 : Nat) (nk2 : Nat) (E1 : Nat → va_E), f < fu → (h3 : E1 233 = .inr (7, [.ref (ad 234), .ref (ad 235), .ref (ad 236), .ref (ad 237), .int s0, .int s1, .ref (ad 238), .int (nI ln), .int (nI p), .int tld, .int s5, .ref (ad 239), .ref (ad 240), .ref (ad 241), .long lo, .long mo, .ref (ad 242)])) → (h4 : E1 234 = .inl (cA 0, 346, .inl rw2)) → (hfr13 : ∀ j, (j ≠ 233 ∧ j ≠ 234) → E1 j = E2 j) → (hp : p ≤ ln) → (hf : ln - p < f) → (hnp : n ≤ p) → (hn : pre.length = n) → (hP : prs txt ln 61 0 = (pre ++ (prs txt ln f p).1, (prs txt ln f p).2)) → (g0 : rw2 0 = nI ne) → (g1 : rw2 1 = nI nt2) → (g2 : rw2 2 = nI nk2) → (gt : nt2 ≤ 10) → (gk : nk2 ≤ 10) → (hR : (rl ne (prs txt ln 61 0).1 r nt nk) = rl ne (prs txt ln f p).1 rw2 nt2 nk2) → GG rm_X7_orders_b 4 l D X 0 0 243 ad E1 13 [(0, .ref (ad 233)), (1, .int 1), (2, .int (nI n))] [] := by
    intro fu
    induction fu with
    | zero => intro p n f pre tld rw2 nt2 nk2 E1 hfu_; exact absurd hfu_ (Nat.not_lt_zero _)
    | succ fu ih =>
      intro p n f pre tld rw2 nt2 nk2 E1 hfu_ h3 h4 hfr13 hp hf hnp hn hP g0 g1 g2 gt gk hR
      obtain ⟨g, rfl⟩ : ∃ g, f = g + 1 := ⟨f - 1, by omega⟩
      refine g_aload_n F (q := 14) (dk dX7_orders 9 rfl) rfl rfl 0 rfl ?_
      refine g_iload_n F (q := 15) (dk dX7_orders 10 rfl) rfl rfl 1 rfl ?_
      have hc1 := (hO2 238 (by omega)).trans h238
      have hc2 := (hfr13 238 (by omega)).trans hc1
      refine g_callVI F (q := 18) (av := [.int 1]) (st := []) (c_X7_order_b h3 hc2 h4 (by first | assumption | decide | omega) (by first | assumption | decide | omega) g0 (by first | assumption | decide | omega) g1 gt g2 gk) kv_X7_order tq_794 h3 rfl (by omega) ⟨rfl, rfl⟩ (by decide) ⟨Nat.le_refl _, Nat.le_refl _⟩ rfl rfl (Nat.le_of_ble_eq_true rfl) (dk dX7_orders 11 rfl) rfl (fun r15 E15 hp15 => ?_)
      rcases hp15 with ⟨rfl, q_15, k_15, pl_15, ti_15, re_15, hK233_15, hK234_15, ho_15, hF15⟩ | ⟨rfl, q_15, hK233_15, ho_15, hF15⟩
      · have hos := ordP_s ho_15
        refine g_if_ne F (q := 21) (tgt := 24) (dk dX7_orders 12 rfl) (by decide) rfl (fun _ => ?_) (fun h => absurd h (by decide))
        refine g_aload_n F (q := 25) (dk dX7_orders 15 rfl) rfl rfl 0 rfl ?_
        refine g_getf F (q := 28) hK233_15 rfl inX7 (by omega) (j := 9) (by decide) tq_632 rfl rfl (dk dX7_orders 16 rfl) rfl ?_
        refine g_if_ge F (q := 31) (tgt := 36) (dk dX7_orders 17 rfl) (by decide) rfl (fun c28 => ?_) (fun c28 => ?_)
        · refine g_iinc F (q := 39) (v := (nI ((n + 1)))) (lv' := [(2, .int (nI ((n + 1)))), (0, .ref (ad 233)), (1, .int 1)]) (dk dX7_orders 21 rfl) rfl 2 rfl (nI_1 _) (Nat.le_of_ble_eq_true rfl) rfl ?_
          refine g_aload_n F (q := 40) (dk dX7_orders 22 rfl) rfl rfl 1 rfl ?_
          refine g_bipush F (q := 42) (v := 59) (dk dX7_orders 23 rfl) rfl (by decide) ?_
          have hc3 := (hF15 238 (by omega)).trans hc2
          refine g_callVI F (q := 45) (av := [.int 59]) (st := []) (c_X7_takes (ch := 59) hK233_15 hc3 (by first | assumption | decide | omega) (by omega)) kv_X7_takes tq_806 hK233_15 rfl (by omega) ⟨rfl, rfl⟩ (by decide) ⟨Nat.le_refl _, Nat.le_refl _⟩ rfl rfl (Nat.le_of_ble_eq_true rfl) (dk dX7_orders 24 rfl) rfl (fun r42 E42 hp42 => ?_)
          rcases hp42 with ⟨rfl, hK233_42, hc_42, hF42⟩ | ⟨rfl, hK233_42, hc_42, hF42⟩
          · refine g_istore_n F (q := 46) (lv' := [(3, .int 1), (2, .int (nI ((n + 1)))), (0, .ref (ad 233)), (1, .int 1)]) (dk dX7_orders 25 rfl) rfl rfl (Nat.le_of_ble_eq_true rfl) rfl ?_
            refine g_goto F (tgt := 9) (dk dX7_orders 26 rfl) (by decide) ?_
            refine g_iload_n F (q := 10) (dk dX7_orders 7 rfl) rfl rfl 0 rfl ?_
            refine g_if_eq F (q := 13) (tgt := 49) (dk dX7_orders 8 rfl) (by decide) rfl (fun h => absurd h (by decide)) (fun _ => ?_)
            have hcn := mkS_cnt hos.1 (Int32.not_lt.mpr c28) g0 g1 g2 gt gk
            refine g_lv (lv' := [(0, .ref (ad 233)), (1, .int 1), (2, .int (nI ((n + 1))))]) [2, 3, 1] rfl ?_
            have hc4 := (hF42 234 (by omega)).trans hK234_15
            exact ih (q_15 + 1) (n + 1) g (pre ++ [(k_15, pl_15, ti_15, re_15)]) ((mkS rw2 ne k_15 (if k_15 = 0 then nt2 else nk2) pl_15 ti_15 re_15).1) ((mkS rw2 ne k_15 (if k_15 = 0 then nt2 else nk2) pl_15 ti_15 re_15).2) _ _ E42 (by omega) hK233_42 hc4 (fun j hj => (((hF42 j (by omega)).trans (hF15 j (by omega))).trans (hfr13 j (by omega)))) (by omega) (by omega) (by omega) (by simp [hn]) (by rw [hP, prs_c ho_15 hc_42]; simp) hcn.1 hcn.2.1 hcn.2.2.1 hcn.2.2.2.1 hcn.2.2.2.2 (by rw [hR, prs_c ho_15 hc_42, rl_pos (Int32.not_lt.mpr c28)])
          · refine g_istore_n F (q := 46) (lv' := [(3, .int 0), (2, .int (nI ((n + 1)))), (0, .ref (ad 233)), (1, .int 1)]) (dk dX7_orders 25 rfl) rfl rfl (Nat.le_of_ble_eq_true rfl) rfl ?_
            refine g_goto F (tgt := 9) (dk dX7_orders 26 rfl) (by decide) ?_
            refine g_iload_n F (q := 10) (dk dX7_orders 7 rfl) rfl rfl 0 rfl ?_
            refine g_if_eq F (q := 13) (tgt := 49) (dk dX7_orders 8 rfl) (by decide) rfl (fun _ => ?_) (fun h => absurd h (by decide))
            refine g_aload_n F (q := 50) (dk dX7_orders 27 rfl) rfl rfl 2 rfl ?_
            refine g_getf F (q := 53) hK233_42 rfl inX7 (by omega) (j := 8) (by decide) tq_631 rfl rfl (dk dX7_orders 28 rfl) rfl ?_
            refine g_aload_n F (q := 54) (dk dX7_orders 29 rfl) rfl rfl 2 rfl ?_
            refine g_getf F (q := 57) hK233_42 rfl inX7 (by omega) (j := 7) (by decide) tq_630 rfl rfl (dk dX7_orders 30 rfl) rfl ?_
            refine g_icmp_ge F (q := 60) (tgt := 65) (dk dX7_orders 31 rfl) (by decide) rfl (fun c57 => ?_) (fun c57 => absurd c57 (fun h => absurd hok (by rw [hP, prs_e ho_15 hc_42]; dsimp only; rw [if_pos (Nat.lt_of_not_le (fun h9 => h (nI_le h9 (by omega))))]; exact fun h8 => by cases h8)))
            have nc57 : ln ≤ q_15 := (nI_leI (a := ln) (b := q_15) (by omega) (by omega)).mp c57
            refine g_iload_n F (q := 66) (dk dX7_orders 34 rfl) rfl rfl 1 rfl ?_
            have hR2 : (rl ne (prs txt ln 61 0).1 r nt nk) = (0, (mkS rw2 ne k_15 (if k_15 = 0 then nt2 else nk2) pl_15 ti_15 re_15).2) := by rw [hR, prs_e ho_15 hc_42, rl_pos (Int32.not_lt.mpr c28)]; rfl
            have hc5 := (hF42 234 (by omega)).trans hK234_15
            refine hret (nI ((n + 1))) E42 _ _ (dk dX7_orders 35 rfl) (nint _) ?_
            exact ⟨q_15, _, hK233_42, (by rw [hR2]; exact hc5), (Or.inr ⟨by rw [hR2]; exact (by decide : ¬ (0 : Int32) < 0), by rw [hP, prs_e ho_15 hc_42]; simp [hn]⟩), (fun j hj => ((((hF42 j (by omega)).trans (hF15 j (by omega))).trans (hfr13 j (by omega))).trans (hO2 j (by omega))))⟩
        · refine g_aload_n F (q := 32) (dk dX7_orders 18 rfl) rfl rfl 0 rfl ?_
          refine g_getf F (q := 35) hK233_15 rfl inX7 (by omega) (j := 9) (by decide) tq_632 rfl rfl (dk dX7_orders 19 rfl) rfl ?_
          obtain ⟨os, hos2⟩ := prs_ne (f := g) ho_15
          have hR2 : (rl ne (prs txt ln 61 0).1 r nt nk) = mkS rw2 ne k_15 (if k_15 = 0 then nt2 else nk2) pl_15 ti_15 re_15 := by rw [hR, hos2, rl_neg (Int32.not_le.mp c28)]
          refine hret ((mkS rw2 ne k_15 (if k_15 = 0 then nt2 else nk2) pl_15 ti_15 re_15).1) E15 _ _ (dk dX7_orders 20 rfl) (nint _) ?_
          exact ⟨q_15, _, hK233_15, (by rw [hR2]; exact hK234_15), (Or.inl ⟨by rw [hR2]; exact Int32.not_le.mp c28, by rw [hR2]⟩), (fun j hj => (((hF15 j (by omega)).trans (hfr13 j (by omega))).trans (hO2 j (by omega))))⟩
      · exact absurd (show (prs txt ln 61 0).2 = some q_15 by rw [hP, prs_n ho_15]) (by rw [hok]; exact fun h => by cases h)
  refine g_lv (lv' := [(0, .ref (ad 233)), (1, .int 1), (2, .int 0)]) [2, 3, 1] rfl ?_
  have hc6 := (hO2 234 (by omega)).trans h234
  exact K13 _ 0 0 61 ([]) s4 r nt nk E2 (Nat.lt_succ_self _) hE2 hc6 (fun j _ => rfl) (by omega) (by omega) (by omega) rfl (by simp) h0 h1 h2 hnt hnk rfl
abbrev rm_X7_readOrders : Room := { frames := 5, cells := 0, slots := 0, locals := 125 }
set_option maxHeartbeats 4000000 in
set_option maxRecDepth 100000 in
theorem c_X7_readOrders {l : Launch} {D : va_G} {cA : Nat → ClassId} {ad : Nat → Nat} {E : Nat → va_E} {ln nh : Nat} {s1 s3 s4 s5 : Int32} {lo mo : Int64} {txt r past bef : Nat → Int32} {ne nt nk : Nat} (h233 : E 233 = .inr (7, [.ref (ad 234), .ref (ad 235), .ref (ad 236), .ref (ad 237), .int (nI nh), .int s1, .ref (ad 238), .int (nI ln), .int s3, .int s4, .int s5, .ref (ad 239), .ref (ad 240), .ref (ad 241), .long lo, .long mo, .ref (ad 242)])) (h238 : E 238 = .inl (cA 3, 60, .inl txt)) (h234 : E 234 = .inl (cA 0, 346, .inl r)) (h235 : E 235 = .inl (cA 0, 1384, .inl past)) (h237 : E 237 = .inl (cA 0, 346, .inl bef))  (hln : ln ≤ 60) (hnh : nh ≤ 4) (h0 : r 0 = nI ne) (hne : ne ≤ 10) (h1 : r 1 = nI nt) (hnt : nt ≤ 10) (h2 : r 2 = nI nk) (hnk : nk ≤ 10) : CtI l D cA yX7_readOrders cX7_readOrders 2 .int rm_X7_readOrders 243 ad E [.ref (ad 233)] (fun x E' => ∃ (f : Nat → Int32) (q : Nat → Int32) (g : Nat → Int32) (n2 : Nat) (a2 : Int32) (t2 : Int32), (sRead r ne nt nk txt ln).1 = x ∧ E' 233 = .inr (7, [.ref (ad 234), .ref (ad 235), .ref (ad 236), .ref (ad 237), .int (nI n2), .int s1, .ref (ad 238), .int (nI ln), .int a2, .int t2, .int s5, .ref (ad 239), .ref (ad 240), .ref (ad 241), .long lo, .long mo, .ref (ad 242)]) ∧ E' 234 = .inl (cA 0, 346, .inl f) ∧ E' 235 = .inl (cA 0, 1384, .inl q) ∧ E' 237 = .inl (cA 0, 346, .inl g) ∧ (NX ((sRead r ne nt nk txt ln).2) r past nh f q n2) ∧ ∀ j, (j ≠ 233 ∧ j ≠ 234 ∧ j ≠ 235 ∧ j ≠ 237) → E' j = E j) := by
  refine CtI.of (by decide +kernel) (Nat.le_of_ble_eq_true rfl) (fun X F hret => ?_)
  have F : Fr "ThumpEarsModel" cX7_readOrders 2 D cA X := F
  refine (show GG rm_X7_readOrders 2 l D X 0 0 243 ad E 0 [(0, .ref (ad 233))] [] from ?_)
  refine g_aload_n F (q := 1) (dk dX7_readOrders 0 rfl) rfl rfl 0 rfl ?_
  refine g_iconst F (q := 2) (v := 0) (dk dX7_readOrders 1 rfl) rfl (by decide) ?_
  refine g_callVI F (q := 5) (av := [.int 0]) (st := []) (c_X7_orders_a h233 h238 (by first | assumption | decide | omega)) kv_X7_orders tq_790 h233 rfl (by omega) ⟨rfl, rfl⟩ (by decide) ⟨Nat.le_refl _, Nat.le_refl _⟩ rfl rfl (Nat.le_of_ble_eq_true rfl) (dk dX7_readOrders 2 rfl) rfl (fun r2 E2 hp2 => ?_)
  obtain ⟨q_2, tld_2, hK233_2, hr_2, hF2⟩ := hp2
  rcases hr_2 with ⟨rfl, hq⟩ | ⟨hok, rfl, hlen⟩
  · refine g_if_ge F (q := 8) (tgt := 16) (dk dX7_readOrders 3 rfl) (by decide) rfl (fun h => absurd h (by decide)) (fun _ => ?_)
    refine g_bipush F (q := 10) (v := (-100)) (dk dX7_readOrders 4 rfl) rfl (by decide) ?_
    refine g_aload_n F (q := 11) (dk dX7_readOrders 5 rfl) rfl rfl 0 rfl ?_
    refine g_getf F (q := 14) hK233_2 rfl inX7 (by omega) (j := 8) (by decide) tq_631 rfl rfl (dk dX7_readOrders 6 rfl) rfl ?_
    refine g_isub F (q := 15) (dk dX7_readOrders 7 rfl) rfl ?_
    have hs : sRead r ne nt nk txt ln = (-100 - nI q_2, none) := by unfold sRead; rw [hq]
    have hc1 := (hF2 234 (by omega)).trans h234
    have hc2 := (hF2 235 (by omega)).trans h235
    have hc3 := (hF2 237 (by omega)).trans h237
    refine hret ((-100) - (nI q_2)) E2 _ _ (dk dX7_readOrders 8 rfl) (nint _) ?_
    exact ⟨r, past, bef, nh, _, _, (by rw [hs]), hK233_2, hc1, hc2, hc3, (by rw [hs]; exact NX.nil), (fun j hj => (hF2 j (by omega)))⟩
  · refine g_if_ge F (q := 8) (tgt := 16) (dk dX7_readOrders 3 rfl) (by decide) rfl (fun c5 => ?_) (fun c5 => absurd c5 (fun h => h (nI_pos' (by omega))))
    refine g_aload_n F (q := 17) (dk dX7_readOrders 9 rfl) rfl rfl 0 rfl ?_
    have hc4 := (hF2 234 (by omega)).trans h234
    have hc5 := (hF2 237 (by omega)).trans h237
    refine g_callVV F (q := 20) (av := []) (st := []) (c_X7_remember hK233_2 hc4 hc5) kv_X7_remember tq_695 hK233_2 rfl (by omega) ⟨rfl, rfl⟩ (by decide) ⟨Nat.le_refl _, Nat.le_refl _⟩ rfl rfl (Nat.le_of_ble_eq_true rfl) (dk dX7_readOrders 10 rfl) rfl (fun E17 hp17 => ?_)
    obtain ⟨g_17, hK237_17, hg2_17, hF17⟩ := hp17
    refine g_aload_n F (q := 21) (dk dX7_readOrders 11 rfl) rfl rfl 0 rfl ?_
    refine g_iconst F (q := 22) (v := 1) (dk dX7_readOrders 12 rfl) rfl (by decide) ?_
    have hc6 := (hF17 233 (by omega)).trans hK233_2
    have hc7 := (hF2 238 (by omega)).trans h238
    have hc8 := (hF17 238 (by omega)).trans hc7
    have hc9 := (hF17 234 (by omega)).trans hc4
    refine g_callVI F (q := 25) (av := [.int 1]) (st := []) (c_X7_orders_b hc6 hc8 hc9 (by first | assumption | decide | omega) (by first | assumption | decide | omega) (by first | assumption | decide | omega) (by first | assumption | decide | omega) (by first | assumption | decide | omega) (by first | assumption | decide | omega) (by first | assumption | decide | omega) (by first | assumption | decide | omega)) kv_X7_orders tq_790 hc6 rfl (by omega) ⟨rfl, rfl⟩ (by decide) ⟨Nat.le_refl _, Nat.le_refl _⟩ rfl rfl (Nat.le_of_ble_eq_true rfl) (dk dX7_readOrders 13 rfl) rfl (fun r22 E22 hp22 => ?_)
    obtain ⟨q_22, tld_22, hK233_22, hK234_22, hr_22, hF22⟩ := hp22
    refine g_istore_n F (q := 26) (lv' := [(1, .int r22), (0, .ref (ad 233))]) (dk dX7_readOrders 14 rfl) rfl rfl (Nat.le_of_ble_eq_true rfl) rfl ?_
    rcases hr_22 with ⟨hneg, rfl⟩ | ⟨hneg, rfl⟩
    · refine g_iload_n F (q := 27) (dk dX7_readOrders 15 rfl) rfl rfl 0 rfl ?_
      refine g_if_ge F (q := 30) (tgt := 36) (dk dX7_readOrders 16 rfl) (by decide) rfl (fun c27 => absurd c27 (Int32.not_le.mpr hneg)) (fun c27 => ?_)
      refine g_aload_n F (q := 31) (dk dX7_readOrders 17 rfl) rfl rfl 1 rfl ?_
      have hc10 := (hF22 237 (by omega)).trans hK237_17
      refine g_callVV F (q := 34) (av := []) (st := []) (c_X7_goBack hK233_22 hc10 hK234_22) kv_X7_goBack tq_810 hK233_22 rfl (by omega) ⟨rfl, rfl⟩ (by decide) ⟨Nat.le_refl _, Nat.le_refl _⟩ rfl rfl (Nat.le_of_ble_eq_true rfl) (dk dX7_readOrders 18 rfl) rfl (fun E31 hp31 => ?_)
      obtain ⟨g_31, hK234_31, hg2_31, hF31⟩ := hp31
      refine g_iload_n F (q := 35) (dk dX7_readOrders 19 rfl) rfl rfl 0 rfl ?_
      have hs : sRead r ne nt nk txt ln = ((rl ne (prs txt ln 61 0).1 r nt nk).1, none) := by unfold sRead; rw [hok]; exact if_pos hneg
      have hc11 := (hF31 233 (by omega)).trans hK233_22
      have hc12 := (hF2 235 (by omega)).trans h235
      have hc13 := (hF17 235 (by omega)).trans hc12
      have hc14 := (hF22 235 (by omega)).trans hc13
      have hc15 := (hF31 235 (by omega)).trans hc14
      have hc16 := (hF31 237 (by omega)).trans hc10
      refine hret (rl ne (prs txt ln 61 0).1 r nt nk).1 E31 _ _ (dk dX7_readOrders 20 rfl) (nint _) ?_
      exact ⟨_, past, _, nh, _, _, (by rw [hs]), hc11, hK234_31, hc15, hc16, (by rw [hs]; exact ⟨rfl, fun k hk => (hg2_31 k hk).trans (hg2_17 k hk), fun _ _ => eqN.rf⟩), (fun j hj => ((((hF31 j (by omega)).trans (hF22 j (by omega))).trans (hF17 j (by omega))).trans (hF2 j (by omega))))⟩
    · refine g_iload_n F (q := 27) (dk dX7_readOrders 15 rfl) rfl rfl 0 rfl ?_
      refine g_if_ge F (q := 30) (tgt := 36) (dk dX7_readOrders 16 rfl) (by decide) rfl (fun c27 => ?_) (fun c27 => absurd c27 (fun h => h (nI_pos' (by omega))))
      refine g_aload_n F (q := 37) (dk dX7_readOrders 21 rfl) rfl rfl 1 rfl ?_
      have hc17 := (hF2 235 (by omega)).trans h235
      have hc18 := (hF17 235 (by omega)).trans hc17
      have hc19 := (hF22 235 (by omega)).trans hc18
      have hc20 := (hF22 237 (by omega)).trans hK237_17
      refine g_callVV F (q := 40) (av := []) (st := []) (c_X7_record hK233_22 hc19 hc20 (by first | assumption | decide | omega)) kv_X7_record tq_699 hK233_22 rfl (by omega) ⟨rfl, rfl⟩ (by decide) ⟨Nat.le_refl _, Nat.le_refl _⟩ rfl rfl (Nat.le_of_ble_eq_true rfl) (dk dX7_readOrders 22 rfl) rfl (fun E37 hp37 => ?_)
      obtain ⟨q_37, hK233_37, hK235_37, hp_37, hF37⟩ := hp37
      refine g_iload_n F (q := 41) (dk dX7_readOrders 23 rfl) rfl rfl 0 rfl ?_
      have hs : sRead r ne nt nk txt ln = (nI (prs txt ln 61 0).1.length, some (rl ne (prs txt ln 61 0).1 r nt nk).2) := by unfold sRead; rw [hok]; exact if_neg hneg
      have hc21 := (hF37 234 (by omega)).trans hK234_22
      have hc22 := (hF37 237 (by omega)).trans hc20
      refine hret (nI (((prs txt ln 61 0).1.length))) E37 _ _ (dk dX7_readOrders 24 rfl) (nint _) ?_
      exact ⟨_, _, _, (nup nh), _, _, (by rw [hs]), hK233_37, hc21, hK235_37, hc22, (by rw [hs]; exact ⟨rfl, eqN.rf, hpush_cg hg2_17 hp_37⟩), (fun j hj => ((((hF37 j (by omega)).trans (hF22 j (by omega))).trans (hF17 j (by omega))).trans (hF2 j (by omega))))⟩
theorem kv_X7_readOrders : KV yX7_readOrders "ThumpEarsModel" cX7_readOrders 2 (some .int) 0 := ⟨tq_787, tq_788, tq_47, tq_789, by decide +kernel⟩
