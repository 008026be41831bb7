abbrev rm_X6_refusalOfOrders : Room := { frames := 2, cells := 0, slots := 0, locals := 46 }
set_option maxHeartbeats 4000000 in
set_option maxRecDepth 100000 in
theorem c_X6_refusalOfOrders {l : Launch} {D : va_G} {cA : Nat → ClassId} {ad : Nat → Nat} {E : Nat → va_E} {s1 v00 v01 v02 lt po nu : Int32} {ln nt nk n : Nat} {os : List Ord} {ar pla ti re : Nat → Int32}  (h0 : E 0 = .inr (6, [.ref (ad 1), .ref (ad 37), .int s1, .ref (ad 73), .ref (ad 219), .ref (ad 225), .ref (ad 229)])) (h1 : E 1 = .inr (5, [.ref (ad 2), .ref (ad 3), .ref (ad 4), .ref (ad 5), .ref (ad 6), .ref (ad 7), .ref (ad 22), .int v00, .int v01, .int v02, .int lt])) (h7 : E 7 = .inr (3, [.ref (ad 8), .ref (ad 9), .ref (ad 10), .ref (ad 11), .int (nI nt)])) (h22 : E 22 = .inr (3, [.ref (ad 23), .ref (ad 24), .ref (ad 25), .ref (ad 26), .int (nI nk)])) (h219 : E 219 = .inr (2, [.ref (ad 220), .int (nI ln), .ref (ad 221), .ref (ad 222), .ref (ad 223), .ref (ad 224), .int (nI n), .int po, .int nu])) (htar : E 221 = .inl (cA 2, 60, .inl ar)) (htpla : E 222 = .inl (cA 0, 60, .inl pla)) (htti : E 223 = .inl (cA 0, 60, .inl ti)) (htre : E 224 = .inl (cA 0, 60, .inl re))  (hO : oH os ar pla ti re) (hlen : os.length = n) (hn : n ≤ 60) (hnt : nt ≤ 10) (hnk : nk ≤ 10) : CtI l D cA yX6_refusalOfOrders cX6_refusalOfOrders 7 .int rm_X6_refusalOfOrders 235 ad E [.ref (ad 0)] (fun x E' => (rfL os nt nk lt) = x ∧ E = E') := by
  refine CtI.of (by decide +kernel) (Nat.le_of_ble_eq_true rfl) (fun X F hret => ?_)
  have F : Fr "ThumpEars" cX6_refusalOfOrders 7 D cA X := F
  refine (show GG rm_X6_refusalOfOrders 7 l D X 0 0 235 ad E 0 [(0, .ref (ad 0))] [] from ?_)
  refine g_aload_n F (q := 1) (dk dX6_refusalOfOrders 0 rfl) rfl rfl 0 rfl ?_
  refine g_getf F (q := 4) h0 rfl inX6 (by omega) (j := 0) (by decide) tq_240 rfl rfl (dk dX6_refusalOfOrders 1 rfl) rfl ?_
  refine g_getf F (q := 7) h1 rfl inX5 (by omega) (j := 5) (by decide) tq_88 rfl rfl (dk dX6_refusalOfOrders 2 rfl) rfl ?_
  refine g_getf F (q := 10) h7 rfl inX3 (by omega) (j := 4) (by decide) tq_60 rfl rfl (dk dX6_refusalOfOrders 3 rfl) rfl ?_
  refine g_istore_n F (q := 11) (lv' := [(1, .int (nI nt)), (0, .ref (ad 0))]) (dk dX6_refusalOfOrders 4 rfl) rfl rfl (Nat.le_of_ble_eq_true rfl) rfl ?_
  refine g_aload_n F (q := 12) (dk dX6_refusalOfOrders 5 rfl) rfl rfl 1 rfl ?_
  refine g_getf F (q := 15) h0 rfl inX6 (by omega) (j := 0) (by decide) tq_240 rfl rfl (dk dX6_refusalOfOrders 6 rfl) rfl ?_
  refine g_getf F (q := 18) h1 rfl inX5 (by omega) (j := 6) (by decide) tq_91 rfl rfl (dk dX6_refusalOfOrders 7 rfl) rfl ?_
  refine g_getf F (q := 21) h22 rfl inX3 (by omega) (j := 4) (by decide) tq_60 rfl rfl (dk dX6_refusalOfOrders 8 rfl) rfl ?_
  refine g_istore_n F (q := 22) (lv' := [(2, .int (nI nk)), (1, .int (nI nt)), (0, .ref (ad 0))]) (dk dX6_refusalOfOrders 9 rfl) rfl rfl (Nat.le_of_ble_eq_true rfl) rfl ?_
  refine g_aload_n F (q := 23) (dk dX6_refusalOfOrders 10 rfl) rfl rfl 2 rfl ?_
  refine g_getf F (q := 26) h0 rfl inX6 (by omega) (j := 0) (by decide) tq_240 rfl rfl (dk dX6_refusalOfOrders 11 rfl) rfl ?_
  refine g_getf F (q := 29) h1 rfl inX5 (by omega) (j := 10) (by decide) tq_100 rfl rfl (dk dX6_refusalOfOrders 12 rfl) rfl ?_
  refine g_istore_n F (q := 30) (lv' := [(3, .int lt), (2, .int (nI nk)), (1, .int (nI nt)), (0, .ref (ad 0))]) (dk dX6_refusalOfOrders 13 rfl) rfl rfl (Nat.le_of_ble_eq_true rfl) rfl ?_
  refine g_iconst F (q := 31) (v := 0) (dk dX6_refusalOfOrders 14 rfl) rfl (by decide) ?_
  refine g_istore F (q := 33) (lv' := [(4, .int 0), (3, .int lt), (2, .int (nI nk)), (1, .int (nI nt)), (0, .ref (ad 0))]) (dk dX6_refusalOfOrders 15 rfl) rfl (Nat.le_of_ble_eq_true rfl) rfl ?_
  have K33 : ∀ (fu : Nat) (i : Nat) (os2 : List Ord) (nt1 : Nat) (nk1 : Nat) (l1 : Int32), n - i < fu → (hi : i ≤ n) → (hnt1 : nt1 ≤ 10) → (hnk1 : nk1 ≤ 10) → (hd : os.drop i = os2) → (hL : rfL os nt nk lt = rfL os2 nt1 nk1 l1) → GG rm_X6_refusalOfOrders 7 l D X 0 0 235 ad E 33 [(0, .ref (ad 0)), (1, .int (nI nt1)), (2, .int (nI nk1)), (3, .int l1), (4, .int (nI i))] [] := by
    intro fu
    induction fu with
    | zero => intro i os2 nt1 nk1 l1 hfu_; exact absurd hfu_ (Nat.not_lt_zero _)
    | succ fu ih =>
      intro i os2 nt1 nk1 l1 hfu_ hi hnt1 hnk1 hd hL
      refine g_iload F (q := 35) (dk dX6_refusalOfOrders 16 rfl) rfl 4 rfl ?_
      refine g_aload_n F (q := 36) (dk dX6_refusalOfOrders 17 rfl) rfl rfl 0 rfl ?_
      refine g_getf F (q := 39) h0 rfl inX6 (by omega) (j := 4) (by decide) tq_244 rfl rfl (dk dX6_refusalOfOrders 18 rfl) rfl ?_
      refine g_getf F (q := 42) h219 rfl inX2 (by omega) (j := 6) (by decide) tq_160 rfl rfl (dk dX6_refusalOfOrders 19 rfl) rfl ?_
      refine g_icmp_ge F (q := 45) (tgt := 150) (dk dX6_refusalOfOrders 20 rfl) (by decide) rfl (fun c42 => ?_) (fun c42 => ?_)
      · have nc42 : n ≤ i := (nI_leI (a := n) (b := i) (by omega) (by omega)).mp c42
        refine g_iconst F (q := 151) (v := 0) (dk dX6_refusalOfOrders 71 rfl) rfl (by decide) ?_
        refine hret 0 E _ _ (dk dX6_refusalOfOrders 72 rfl) (nint _) ?_
        have he := ord_end hlen (show n ≤ i by omega) hd
        subst he
        exact ⟨hL, rfl⟩
      · have nc42 : ¬ n ≤ i := fun h => c42 ((nI_leI (a := n) (b := i) (by omega) (by omega)).mpr h)
        obtain ⟨k, os3, rfl, hd3, hA, hmem⟩ := ord_at hO hlen (show i < n by omega) hd
        by_cases hk0 : k = 0
        · rw [if_pos hk0] at hA
          refine g_aload_n F (q := 46) (dk dX6_refusalOfOrders 21 rfl) rfl rfl 0 rfl ?_
          refine g_getf F (q := 49) h0 rfl inX6 (by omega) (j := 4) (by decide) tq_244 rfl rfl (dk dX6_refusalOfOrders 22 rfl) rfl ?_
          refine g_getf F (q := 52) h219 rfl inX2 (by omega) (j := 2) (by decide) tq_152 rfl rfl (dk dX6_refusalOfOrders 23 rfl) rfl ?_
          refine g_iload F (q := 54) (dk dX6_refusalOfOrders 24 rfl) rfl 4 rfl ?_
          refine g_zald F (q := 55) i htar (by omega) rfl (by omega) (by decide) (dk dX6_refusalOfOrders 25 rfl) rfl ?_
          refine g_sti (y := 1) hA ?_
          refine g_if_eq F (q := 58) (tgt := 62) (dk dX6_refusalOfOrders 26 rfl) (by decide) rfl (fun h => absurd h (by decide)) (fun _ => ?_)
          refine g_iload_n F (q := 59) (dk dX6_refusalOfOrders 27 rfl) rfl rfl 1 rfl ?_
          refine g_goto F (tgt := 63) (dk dX6_refusalOfOrders 28 rfl) (by decide) ?_
          refine g_istore F (q := 65) (lv' := [(5, .int (nI nt1)), (0, .ref (ad 0)), (1, .int (nI nt1)), (2, .int (nI nk1)), (3, .int l1), (4, .int (nI i))]) (dk dX6_refusalOfOrders 30 rfl) rfl (Nat.le_of_ble_eq_true rfl) rfl ?_
          refine g_aload_n F (q := 66) (dk dX6_refusalOfOrders 31 rfl) rfl rfl 1 rfl ?_
          refine g_getf F (q := 69) h0 rfl inX6 (by omega) (j := 4) (by decide) tq_244 rfl rfl (dk dX6_refusalOfOrders 32 rfl) rfl ?_
          refine g_getf F (q := 72) h219 rfl inX2 (by omega) (j := 3) (by decide) tq_154 rfl rfl (dk dX6_refusalOfOrders 33 rfl) rfl ?_
          refine g_iload F (q := 74) (dk dX6_refusalOfOrders 34 rfl) rfl 5 rfl ?_
          refine g_iald F (q := 75) i htpla (by omega) rfl (by omega) (by decide) (dk dX6_refusalOfOrders 35 rfl) rfl ?_
          refine g_aload_n F (q := 76) (dk dX6_refusalOfOrders 36 rfl) rfl rfl 1 rfl ?_
          refine g_getf F (q := 79) h0 rfl inX6 (by omega) (j := 4) (by decide) tq_244 rfl rfl (dk dX6_refusalOfOrders 37 rfl) rfl ?_
          refine g_getf F (q := 82) h219 rfl inX2 (by omega) (j := 4) (by decide) tq_156 rfl rfl (dk dX6_refusalOfOrders 38 rfl) rfl ?_
          refine g_iload F (q := 84) (dk dX6_refusalOfOrders 39 rfl) rfl 5 rfl ?_
          refine g_iald F (q := 85) i htti (by omega) rfl (by omega) (by decide) (dk dX6_refusalOfOrders 40 rfl) rfl ?_
          refine g_aload_n F (q := 86) (dk dX6_refusalOfOrders 41 rfl) rfl rfl 1 rfl ?_
          refine g_getf F (q := 89) h0 rfl inX6 (by omega) (j := 4) (by decide) tq_244 rfl rfl (dk dX6_refusalOfOrders 42 rfl) rfl ?_
          refine g_getf F (q := 92) h219 rfl inX2 (by omega) (j := 5) (by decide) tq_158 rfl rfl (dk dX6_refusalOfOrders 43 rfl) rfl ?_
          refine g_iload F (q := 94) (dk dX6_refusalOfOrders 44 rfl) rfl 5 rfl ?_
          refine g_iald F (q := 95) i htre (by omega) rfl (by omega) (by decide) (dk dX6_refusalOfOrders 45 rfl) rfl ?_
          refine g_iload_n F (q := 96) (dk dX6_refusalOfOrders 46 rfl) rfl rfl 4 rfl ?_
          refine g_iload F (q := 98) (dk dX6_refusalOfOrders 47 rfl) rfl 0 rfl ?_
          refine g_callSI F (q := 101) (av := [.int (pla i), .int (ti i), .int (re i), .int l1, .int (nI nt1)]) (st := []) (c_X6_refusal (p := (pla i)) (t := (ti i)) (c := (re i)) (lt := l1) (m := nt1) (by first | assumption | decide | omega)) ks_X6_refusal tq_555 ⟨rfl, rfl⟩ (by decide) ⟨Nat.le_refl _, Nat.le_refl _⟩ rfl rfl (Nat.le_of_ble_eq_true rfl) (dk dX6_refusalOfOrders 48 rfl) rfl (fun r98 E98 hp98 => ?_)
          obtain ⟨rfl, rfl⟩ := hp98
          refine g_istore F (q := 103) (lv' := [(6, .int (rfS (pla i) (ti i) (re i) l1 nt1)), (5, .int (nI nt1)), (0, .ref (ad 0)), (1, .int (nI nt1)), (2, .int (nI nk1)), (3, .int l1), (4, .int (nI i))]) (dk dX6_refusalOfOrders 49 rfl) rfl (Nat.le_of_ble_eq_true rfl) rfl ?_
          refine g_iload F (q := 105) (dk dX6_refusalOfOrders 50 rfl) rfl 0 rfl ?_
          refine g_if_eq F (q := 108) (tgt := 111) (dk dX6_refusalOfOrders 51 rfl) (by decide) rfl (fun c105 => ?_) (fun c105 => ?_)
          · refine g_aload_n F (q := 112) (dk dX6_refusalOfOrders 54 rfl) rfl rfl 2 rfl ?_
            refine g_getf F (q := 115) h0 rfl inX6 (by omega) (j := 4) (by decide) tq_244 rfl rfl (dk dX6_refusalOfOrders 55 rfl) rfl ?_
            refine g_getf F (q := 118) h219 rfl inX2 (by omega) (j := 2) (by decide) tq_152 rfl rfl (dk dX6_refusalOfOrders 56 rfl) rfl ?_
            refine g_iload F (q := 120) (dk dX6_refusalOfOrders 57 rfl) rfl 6 rfl ?_
            refine g_zald F (q := 121) i htar (by omega) rfl (by omega) (by decide) (dk dX6_refusalOfOrders 58 rfl) rfl ?_
            refine g_sti (y := 1) hA ?_
            refine g_if_eq F (q := 124) (tgt := 130) (dk dX6_refusalOfOrders 59 rfl) (by decide) rfl (fun h => absurd h (by decide)) (fun _ => ?_)
            refine g_iinc F (q := 127) (v := (nI ((nt1 + 1)))) (lv' := [(1, .int (nI ((nt1 + 1)))), (6, .int (rfS (pla i) (ti i) (re i) l1 nt1)), (5, .int (nI nt1)), (0, .ref (ad 0)), (2, .int (nI nk1)), (3, .int l1), (4, .int (nI i))]) (dk dX6_refusalOfOrders 60 rfl) rfl 3 rfl (nI_1 _) (Nat.le_of_ble_eq_true rfl) rfl ?_
            refine g_goto F (tgt := 133) (dk dX6_refusalOfOrders 61 rfl) (by decide) ?_
            refine g_aload_n F (q := 134) (dk dX6_refusalOfOrders 63 rfl) rfl rfl 3 rfl ?_
            refine g_getf F (q := 137) h0 rfl inX6 (by omega) (j := 4) (by decide) tq_244 rfl rfl (dk dX6_refusalOfOrders 64 rfl) rfl ?_
            refine g_getf F (q := 140) h219 rfl inX2 (by omega) (j := 4) (by decide) tq_156 rfl rfl (dk dX6_refusalOfOrders 65 rfl) rfl ?_
            refine g_iload F (q := 142) (dk dX6_refusalOfOrders 66 rfl) rfl 6 rfl ?_
            refine g_iald F (q := 143) i htti (by omega) rfl (by omega) (by decide) (dk dX6_refusalOfOrders 67 rfl) rfl ?_
            refine g_istore_n F (q := 144) (lv' := [(3, .int (ti i)), (1, .int (nI ((nt1 + 1)))), (6, .int (rfS (pla i) (ti i) (re i) l1 nt1)), (5, .int (nI nt1)), (0, .ref (ad 0)), (2, .int (nI nk1)), (4, .int (nI i))]) (dk dX6_refusalOfOrders 68 rfl) rfl rfl (Nat.le_of_ble_eq_true rfl) rfl ?_
            refine g_iinc F (q := 147) (v := (nI ((i + 1)))) (lv' := [(4, .int (nI ((i + 1)))), (3, .int (ti i)), (1, .int (nI ((nt1 + 1)))), (6, .int (rfS (pla i) (ti i) (re i) l1 nt1)), (5, .int (nI nt1)), (0, .ref (ad 0)), (2, .int (nI nk1))]) (dk dX6_refusalOfOrders 69 rfl) rfl 6 rfl (nI_1 _) (Nat.le_of_ble_eq_true rfl) rfl ?_
            refine g_goto F (tgt := 33) (dk dX6_refusalOfOrders 70 rfl) (by decide) ?_
            have hz : rfS (pla i) (ti i) (re i) l1 (if k = 0 then nt1 else nk1) = 0 := by rw [if_pos hk0]; exact c105
            have hm := rfS_m c105
            refine g_lv (lv' := [(0, .ref (ad 0)), (1, .int (nI ((nt1 + 1)))), (2, .int (nI nk1)), (3, .int (ti i)), (4, .int (nI ((i + 1))))]) [5, 2, 6, 1, 0] rfl ?_
            exact ih (i + 1) os3 (nt1 + 1) nk1 (ti i) (by omega) (by omega) (by omega) (by omega) hd3 (by rw [hL, rfL_t hz, if_pos hk0, if_pos hk0])
          · refine g_iload F (q := 110) (dk dX6_refusalOfOrders 52 rfl) rfl 0 rfl ?_
            refine hret (rfS (pla i) (ti i) (re i) l1 nt1) E _ _ (dk dX6_refusalOfOrders 53 rfl) (nint _) ?_
            exact ⟨by rw [hL, rfL_f (by rw [if_pos hk0]; exact c105), if_pos hk0], rfl⟩
        · rw [if_neg hk0] at hA
          refine g_aload_n F (q := 46) (dk dX6_refusalOfOrders 21 rfl) rfl rfl 0 rfl ?_
          refine g_getf F (q := 49) h0 rfl inX6 (by omega) (j := 4) (by decide) tq_244 rfl rfl (dk dX6_refusalOfOrders 22 rfl) rfl ?_
          refine g_getf F (q := 52) h219 rfl inX2 (by omega) (j := 2) (by decide) tq_152 rfl rfl (dk dX6_refusalOfOrders 23 rfl) rfl ?_
          refine g_iload F (q := 54) (dk dX6_refusalOfOrders 24 rfl) rfl 4 rfl ?_
          refine g_zald F (q := 55) i htar (by omega) rfl (by omega) (by decide) (dk dX6_refusalOfOrders 25 rfl) rfl ?_
          refine g_sti (y := 0) hA ?_
          refine g_if_eq F (q := 58) (tgt := 62) (dk dX6_refusalOfOrders 26 rfl) (by decide) rfl (fun _ => ?_) (fun h => absurd h (by decide))
          refine g_iload_n F (q := 63) (dk dX6_refusalOfOrders 29 rfl) rfl rfl 2 rfl ?_
          refine g_istore F (q := 65) (lv' := [(5, .int (nI nk1)), (0, .ref (ad 0)), (1, .int (nI nt1)), (2, .int (nI nk1)), (3, .int l1), (4, .int (nI i))]) (dk dX6_refusalOfOrders 30 rfl) rfl (Nat.le_of_ble_eq_true rfl) rfl ?_
          refine g_aload_n F (q := 66) (dk dX6_refusalOfOrders 31 rfl) rfl rfl 1 rfl ?_
          refine g_getf F (q := 69) h0 rfl inX6 (by omega) (j := 4) (by decide) tq_244 rfl rfl (dk dX6_refusalOfOrders 32 rfl) rfl ?_
          refine g_getf F (q := 72) h219 rfl inX2 (by omega) (j := 3) (by decide) tq_154 rfl rfl (dk dX6_refusalOfOrders 33 rfl) rfl ?_
          refine g_iload F (q := 74) (dk dX6_refusalOfOrders 34 rfl) rfl 5 rfl ?_
          refine g_iald F (q := 75) i htpla (by omega) rfl (by omega) (by decide) (dk dX6_refusalOfOrders 35 rfl) rfl ?_
          refine g_aload_n F (q := 76) (dk dX6_refusalOfOrders 36 rfl) rfl rfl 1 rfl ?_
          refine g_getf F (q := 79) h0 rfl inX6 (by omega) (j := 4) (by decide) tq_244 rfl rfl (dk dX6_refusalOfOrders 37 rfl) rfl ?_
          refine g_getf F (q := 82) h219 rfl inX2 (by omega) (j := 4) (by decide) tq_156 rfl rfl (dk dX6_refusalOfOrders 38 rfl) rfl ?_
          refine g_iload F (q := 84) (dk dX6_refusalOfOrders 39 rfl) rfl 5 rfl ?_
          refine g_iald F (q := 85) i htti (by omega) rfl (by omega) (by decide) (dk dX6_refusalOfOrders 40 rfl) rfl ?_
          refine g_aload_n F (q := 86) (dk dX6_refusalOfOrders 41 rfl) rfl rfl 1 rfl ?_
          refine g_getf F (q := 89) h0 rfl inX6 (by omega) (j := 4) (by decide) tq_244 rfl rfl (dk dX6_refusalOfOrders 42 rfl) rfl ?_
          refine g_getf F (q := 92) h219 rfl inX2 (by omega) (j := 5) (by decide) tq_158 rfl rfl (dk dX6_refusalOfOrders 43 rfl) rfl ?_
          refine g_iload F (q := 94) (dk dX6_refusalOfOrders 44 rfl) rfl 5 rfl ?_
          refine g_iald F (q := 95) i htre (by omega) rfl (by omega) (by decide) (dk dX6_refusalOfOrders 45 rfl) rfl ?_
          refine g_iload_n F (q := 96) (dk dX6_refusalOfOrders 46 rfl) rfl rfl 4 rfl ?_
          refine g_iload F (q := 98) (dk dX6_refusalOfOrders 47 rfl) rfl 0 rfl ?_
          refine g_callSI F (q := 101) (av := [.int (pla i), .int (ti i), .int (re i), .int l1, .int (nI nk1)]) (st := []) (c_X6_refusal (p := (pla i)) (t := (ti i)) (c := (re i)) (lt := l1) (m := nk1) (by first | assumption | decide | omega)) ks_X6_refusal tq_555 ⟨rfl, rfl⟩ (by decide) ⟨Nat.le_refl _, Nat.le_refl _⟩ rfl rfl (Nat.le_of_ble_eq_true rfl) (dk dX6_refusalOfOrders 48 rfl) rfl (fun r98 E98 hp98 => ?_)
          obtain ⟨rfl, rfl⟩ := hp98
          refine g_istore F (q := 103) (lv' := [(6, .int (rfS (pla i) (ti i) (re i) l1 nk1)), (5, .int (nI nk1)), (0, .ref (ad 0)), (1, .int (nI nt1)), (2, .int (nI nk1)), (3, .int l1), (4, .int (nI i))]) (dk dX6_refusalOfOrders 49 rfl) rfl (Nat.le_of_ble_eq_true rfl) rfl ?_
          refine g_iload F (q := 105) (dk dX6_refusalOfOrders 50 rfl) rfl 0 rfl ?_
          refine g_if_eq F (q := 108) (tgt := 111) (dk dX6_refusalOfOrders 51 rfl) (by decide) rfl (fun c105 => ?_) (fun c105 => ?_)
          · refine g_aload_n F (q := 112) (dk dX6_refusalOfOrders 54 rfl) rfl rfl 2 rfl ?_
            refine g_getf F (q := 115) h0 rfl inX6 (by omega) (j := 4) (by decide) tq_244 rfl rfl (dk dX6_refusalOfOrders 55 rfl) rfl ?_
            refine g_getf F (q := 118) h219 rfl inX2 (by omega) (j := 2) (by decide) tq_152 rfl rfl (dk dX6_refusalOfOrders 56 rfl) rfl ?_
            refine g_iload F (q := 120) (dk dX6_refusalOfOrders 57 rfl) rfl 6 rfl ?_
            refine g_zald F (q := 121) i htar (by omega) rfl (by omega) (by decide) (dk dX6_refusalOfOrders 58 rfl) rfl ?_
            refine g_sti (y := 0) hA ?_
            refine g_if_eq F (q := 124) (tgt := 130) (dk dX6_refusalOfOrders 59 rfl) (by decide) rfl (fun _ => ?_) (fun h => absurd h (by decide))
            refine g_iinc F (q := 133) (v := (nI ((nk1 + 1)))) (lv' := [(2, .int (nI ((nk1 + 1)))), (6, .int (rfS (pla i) (ti i) (re i) l1 nk1)), (5, .int (nI nk1)), (0, .ref (ad 0)), (1, .int (nI nt1)), (3, .int l1), (4, .int (nI i))]) (dk dX6_refusalOfOrders 62 rfl) rfl 4 rfl (nI_1 _) (Nat.le_of_ble_eq_true rfl) rfl ?_
            refine g_aload_n F (q := 134) (dk dX6_refusalOfOrders 63 rfl) rfl rfl 3 rfl ?_
            refine g_getf F (q := 137) h0 rfl inX6 (by omega) (j := 4) (by decide) tq_244 rfl rfl (dk dX6_refusalOfOrders 64 rfl) rfl ?_
            refine g_getf F (q := 140) h219 rfl inX2 (by omega) (j := 4) (by decide) tq_156 rfl rfl (dk dX6_refusalOfOrders 65 rfl) rfl ?_
            refine g_iload F (q := 142) (dk dX6_refusalOfOrders 66 rfl) rfl 6 rfl ?_
            refine g_iald F (q := 143) i htti (by omega) rfl (by omega) (by decide) (dk dX6_refusalOfOrders 67 rfl) rfl ?_
            refine g_istore_n F (q := 144) (lv' := [(3, .int (ti i)), (2, .int (nI ((nk1 + 1)))), (6, .int (rfS (pla i) (ti i) (re i) l1 nk1)), (5, .int (nI nk1)), (0, .ref (ad 0)), (1, .int (nI nt1)), (4, .int (nI i))]) (dk dX6_refusalOfOrders 68 rfl) rfl rfl (Nat.le_of_ble_eq_true rfl) rfl ?_
            refine g_iinc F (q := 147) (v := (nI ((i + 1)))) (lv' := [(4, .int (nI ((i + 1)))), (3, .int (ti i)), (2, .int (nI ((nk1 + 1)))), (6, .int (rfS (pla i) (ti i) (re i) l1 nk1)), (5, .int (nI nk1)), (0, .ref (ad 0)), (1, .int (nI nt1))]) (dk dX6_refusalOfOrders 69 rfl) rfl 6 rfl (nI_1 _) (Nat.le_of_ble_eq_true rfl) rfl ?_
            refine g_goto F (tgt := 33) (dk dX6_refusalOfOrders 70 rfl) (by decide) ?_
            have hz : rfS (pla i) (ti i) (re i) l1 (if k = 0 then nt1 else nk1) = 0 := by rw [if_neg hk0]; exact c105
            have hm := rfS_m c105
            refine g_lv (lv' := [(0, .ref (ad 0)), (1, .int (nI nt1)), (2, .int (nI ((nk1 + 1)))), (3, .int (ti i)), (4, .int (nI ((i + 1))))]) [5, 6, 2, 1, 0] rfl ?_
            exact ih (i + 1) os3 nt1 (nk1 + 1) (ti i) (by omega) (by omega) (by omega) (by omega) hd3 (by rw [hL, rfL_t hz, if_neg hk0, if_neg hk0])
          · refine g_iload F (q := 110) (dk dX6_refusalOfOrders 52 rfl) rfl 0 rfl ?_
            refine hret (rfS (pla i) (ti i) (re i) l1 nk1) E _ _ (dk dX6_refusalOfOrders 53 rfl) (nint _) ?_
            exact ⟨by rw [hL, rfL_f (by rw [if_neg hk0]; exact c105), if_neg hk0], rfl⟩
  refine g_lv (lv' := [(0, .ref (ad 0)), (1, .int (nI nt)), (2, .int (nI nk)), (3, .int lt), (4, .int 0)]) [4, 3, 2, 1, 0] rfl ?_
  exact K33 _ 0 os nt nk lt (Nat.lt_succ_self _) (by omega) (by omega) (by omega) rfl rfl
theorem kv_X6_refusalOfOrders : KV yX6_refusalOfOrders "ThumpEars" cX6_refusalOfOrders 7 (some .int) 0 := ⟨tq_608, tq_7, tq_9, tq_609, by decide +kernel⟩
