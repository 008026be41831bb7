abbrev rm_X2_readOrder : Room := { frames := 2, cells := 0, slots := 0, locals := 41 }
set_option maxHeartbeats 4000000 in
set_option maxRecDepth 100000 in
theorem c_X2_readOrder {l : Launch} {D : va_G} {cA : Nat → ClassId} {ad : Nat → Nat} {E : Nat → va_E} {ln p n : Nat} {nu : Int32} {txt ar pla ti re : Nat → Int32}  (h219 : E 219 = .inr (2, [.ref (ad 220), .int (nI ln), .ref (ad 221), .ref (ad 222), .ref (ad 223), .ref (ad 224), .int (nI n), .int (nI p), .int nu])) (httxt : E 220 = .inl (cA 3, 60, .inl txt)) (htar : E 221 = .inl (cA 2, 60, .inl ar)) (htpla : E 222 = .inl (cA 0, 60, .inl pla)) (htti : E 223 = .inl (cA 0, 60, .inl ti)) (htre : E 224 = .inl (cA 0, 60, .inl re))  (hln : ln ≤ 60) (hp : p ≤ ln) (hn : n < 60) : CtI l D cA yX2_readOrder cX2_readOrder 1 .boolean rm_X2_readOrder 235 ad E [.ref (ad 219)] (fun x E' => (1 = x ∧ (∃ (q : Nat) (k : Nat) (f : Int32) (pl : Int32) (t : Int32) (c : Int32) (nu2 : Int32), E' 219 = .inr (2, [.ref (ad 220), .int (nI ln), .ref (ad 221), .ref (ad 222), .ref (ad 223), .ref (ad 224), .int (nI n), .int (nI q), .int nu2]) ∧ E' 221 = .inl (cA 2, 60, .inl (upd ar n f)) ∧ E' 222 = .inl (cA 0, 60, .inl (upd pla n pl)) ∧ E' 223 = .inl (cA 0, 60, .inl (upd ti n t)) ∧ E' 224 = .inl (cA 0, 60, .inl (upd re n c)) ∧ (ordP txt ln p = (q, some (k, pl, t, c))) ∧ (f = (if k = 0 then 1 else 0)) ∧ ∀ j, (j ≠ 219 ∧ j ≠ 221 ∧ j ≠ 222 ∧ j ≠ 223 ∧ j ≠ 224) → E' j = E j)) ∨ (0 = x ∧ (∃ (q : Nat) (nu2 : Int32) (ar2 : Nat → Int32) (pla2 : Nat → Int32) (ti2 : Nat → Int32), E' 219 = .inr (2, [.ref (ad 220), .int (nI ln), .ref (ad 221), .ref (ad 222), .ref (ad 223), .ref (ad 224), .int (nI n), .int (nI q), .int nu2]) ∧ E' 221 = .inl (cA 2, 60, .inl ar2) ∧ E' 222 = .inl (cA 0, 60, .inl pla2) ∧ E' 223 = .inl (cA 0, 60, .inl ti2) ∧ (ordP txt ln p = (q, none)) ∧ ∀ j, (j ≠ 219 ∧ j ≠ 221 ∧ j ≠ 222 ∧ j ≠ 223) → E' j = E j))) := by
  refine CtI.of (by decide +kernel) (Nat.le_of_ble_eq_true rfl) (fun X F hret => ?_)
  have F : Fr "ThumpEars$OrderText" cX2_readOrder 1 D cA X := F
  refine (show GG rm_X2_readOrder 1 l D X 0 0 235 ad E 0 [(0, .ref (ad 219))] [] from ?_)
  refine g_aload_n F (q := 1) (dk dX2_readOrder 0 rfl) rfl rfl 0 rfl ?_
  refine g_getf F (q := 4) h219 rfl inX2 (by omega) (j := 2) (by decide) tq_151 rfl rfl (dk dX2_readOrder 1 rfl) rfl ?_
  refine g_aload_n F (q := 5) (dk dX2_readOrder 2 rfl) rfl rfl 0 rfl ?_
  refine g_getf F (q := 8) h219 rfl inX2 (by omega) (j := 6) (by decide) tq_159 rfl rfl (dk dX2_readOrder 3 rfl) rfl ?_
  refine g_aload_n F (q := 9) (dk dX2_readOrder 4 rfl) rfl rfl 0 rfl ?_
  refine g_bipush F (q := 11) (v := 116) (dk dX2_readOrder 5 rfl) rfl (by decide) ?_
  refine g_callVI F (q := 14) (av := [.int 116]) (st := [.int (nI n), .ref (ad 221)]) (c_X2_skips (ch := 116) h219 httxt (by first | assumption | decide | omega) (by first | omega | exact numP_le (by omega))) kv_X2_skips tq_594 h219 rfl (by omega) ⟨rfl, rfl⟩ (by decide) ⟨Nat.le_refl _, Nat.le_refl _⟩ rfl rfl (Nat.le_of_ble_eq_true rfl) (dk dX2_readOrder 6 rfl) rfl (fun r11 E11 hp11 => ?_)
  rcases hp11 with ⟨rfl, hK219_11, hc_11, hF11⟩ | ⟨rfl, hc_11, rfl⟩
  · have hc1 := (hF11 221 (by omega)).trans htar
    refine g_zast F (q := 15) n hc1 (by omega) rfl (by omega) (by decide) (by decide) (dk dX2_readOrder 7 rfl) rfl (fun E14 hE14 hO14 => ?_)
    refine g_aload_n F (q := 16) (dk dX2_readOrder 8 rfl) rfl rfl 0 rfl ?_
    have hc2 := (hO14 219 (by omega)).trans hK219_11
    refine g_getf F (q := 19) hc2 rfl inX2 (by omega) (j := 2) (by decide) tq_151 rfl rfl (dk dX2_readOrder 9 rfl) rfl ?_
    refine g_aload_n F (q := 20) (dk dX2_readOrder 10 rfl) rfl rfl 0 rfl ?_
    refine g_getf F (q := 23) hc2 rfl inX2 (by omega) (j := 6) (by decide) tq_159 rfl rfl (dk dX2_readOrder 11 rfl) rfl ?_
    refine g_zald F (q := 24) n hE14 (by omega) rfl (by omega) (by decide) (dk dX2_readOrder 12 rfl) rfl ?_
    refine g_sti (y := 1) upd_s ?_
    refine g_if_ne F (q := 27) (tgt := 38) (dk dX2_readOrder 13 rfl) (by decide) rfl (fun _ => ?_) (fun h => absurd h (by decide))
    refine g_aload_n F (q := 39) (dk dX2_readOrder 20 rfl) rfl rfl 0 rfl ?_
    have hc3 := (hF11 220 (by omega)).trans httxt
    have hc4 := (hO14 220 (by omega)).trans hc3
    refine g_callVI F (q := 42) (av := []) (st := []) (c_X2_readNumber hc2 hc4 (by first | assumption | decide | omega) (by first | omega | exact numP_le (by omega))) kv_X2_readNumber tq_598 hc2 rfl (by omega) ⟨rfl, rfl⟩ (by decide) ⟨Nat.le_refl _, Nat.le_refl _⟩ rfl rfl (Nat.le_of_ble_eq_true rfl) (dk dX2_readOrder 21 rfl) rfl (fun r39 E39 hp39 => ?_)
    rcases hp39 with ⟨rfl, hK219_39, hd_39, hF39⟩ | ⟨rfl, hK219_39, hd_39, hF39⟩
    · refine g_if_ne F (q := 45) (tgt := 47) (dk dX2_readOrder 22 rfl) (by decide) rfl (fun _ => ?_) (fun h => absurd h (by decide))
      refine g_aload_n F (q := 48) (dk dX2_readOrder 25 rfl) rfl rfl 0 rfl ?_
      refine g_getf F (q := 51) hK219_39 rfl inX2 (by omega) (j := 3) (by decide) tq_153 rfl rfl (dk dX2_readOrder 26 rfl) rfl ?_
      refine g_aload_n F (q := 52) (dk dX2_readOrder 27 rfl) rfl rfl 0 rfl ?_
      refine g_getf F (q := 55) hK219_39 rfl inX2 (by omega) (j := 6) (by decide) tq_159 rfl rfl (dk dX2_readOrder 28 rfl) rfl ?_
      refine g_aload_n F (q := 56) (dk dX2_readOrder 29 rfl) rfl rfl 0 rfl ?_
      refine g_getf F (q := 59) hK219_39 rfl inX2 (by omega) (j := 8) (by decide) tq_162 rfl rfl (dk dX2_readOrder 30 rfl) rfl ?_
      have hc5 := (hF11 222 (by omega)).trans htpla
      have hc6 := (hO14 222 (by omega)).trans hc5
      have hc7 := (hF39 222 (by omega)).trans hc6
      refine g_iast F (q := 60) n hc7 (by omega) rfl (by omega) (by decide) (dk dX2_readOrder 31 rfl) rfl (fun E59 hE59 hO59 => ?_)
      refine g_aload_n F (q := 61) (dk dX2_readOrder 32 rfl) rfl rfl 0 rfl ?_
      refine g_bipush F (q := 63) (v := 64) (dk dX2_readOrder 33 rfl) rfl (by decide) ?_
      have hc8 := (hO59 219 (by omega)).trans hK219_39
      have hc9 := (hF39 220 (by omega)).trans hc4
      have hc10 := (hO59 220 (by omega)).trans hc9
      refine g_callVI F (q := 66) (av := [.int 64]) (st := []) (c_X2_skips (ch := 64) hc8 hc10 (by first | assumption | decide | omega) (by first | omega | exact numP_le (by omega))) kv_X2_skips tq_594 hc8 rfl (by omega) ⟨rfl, rfl⟩ (by decide) ⟨Nat.le_refl _, Nat.le_refl _⟩ rfl rfl (Nat.le_of_ble_eq_true rfl) (dk dX2_readOrder 34 rfl) rfl (fun r63 E63 hp63 => ?_)
      rcases hp63 with ⟨rfl, hK219_63, hc_63, hF63⟩ | ⟨rfl, hc_63, rfl⟩
      · refine g_if_eq F (q := 69) (tgt := 76) (dk dX2_readOrder 35 rfl) (by decide) rfl (fun h => absurd h (by decide)) (fun _ => ?_)
        refine g_aload_n F (q := 70) (dk dX2_readOrder 36 rfl) rfl rfl 0 rfl ?_
        have hc11 := (hF63 220 (by omega)).trans hc10
        refine g_callVI F (q := 73) (av := []) (st := []) (c_X2_readNumber hK219_63 hc11 (by first | assumption | decide | omega) (by first | omega | exact numP_le (by omega))) kv_X2_readNumber tq_598 hK219_63 rfl (by omega) ⟨rfl, rfl⟩ (by decide) ⟨Nat.le_refl _, Nat.le_refl _⟩ rfl rfl (Nat.le_of_ble_eq_true rfl) (dk dX2_readOrder 37 rfl) rfl (fun r70 E70 hp70 => ?_)
        rcases hp70 with ⟨rfl, hK219_70, hd_70, hF70⟩ | ⟨rfl, hK219_70, hd_70, hF70⟩
        · refine g_if_ne F (q := 76) (tgt := 78) (dk dX2_readOrder 38 rfl) (by decide) rfl (fun _ => ?_) (fun h => absurd h (by decide))
          refine g_aload_n F (q := 79) (dk dX2_readOrder 41 rfl) rfl rfl 0 rfl ?_
          refine g_getf F (q := 82) hK219_70 rfl inX2 (by omega) (j := 4) (by decide) tq_155 rfl rfl (dk dX2_readOrder 42 rfl) rfl ?_
          refine g_aload_n F (q := 83) (dk dX2_readOrder 43 rfl) rfl rfl 0 rfl ?_
          refine g_getf F (q := 86) hK219_70 rfl inX2 (by omega) (j := 6) (by decide) tq_159 rfl rfl (dk dX2_readOrder 44 rfl) rfl ?_
          refine g_aload_n F (q := 87) (dk dX2_readOrder 45 rfl) rfl rfl 0 rfl ?_
          refine g_getf F (q := 90) hK219_70 rfl inX2 (by omega) (j := 8) (by decide) tq_162 rfl rfl (dk dX2_readOrder 46 rfl) rfl ?_
          have hc12 := (hF11 223 (by omega)).trans htti
          have hc13 := (hO14 223 (by omega)).trans hc12
          have hc14 := (hF39 223 (by omega)).trans hc13
          have hc15 := (hO59 223 (by omega)).trans hc14
          have hc16 := (hF63 223 (by omega)).trans hc15
          have hc17 := (hF70 223 (by omega)).trans hc16
          refine g_iast F (q := 91) n hc17 (by omega) rfl (by omega) (by decide) (dk dX2_readOrder 47 rfl) rfl (fun E90 hE90 hO90 => ?_)
          refine g_aload_n F (q := 92) (dk dX2_readOrder 48 rfl) rfl rfl 0 rfl ?_
          refine g_sipush F (q := 95) (v := 1000) (dk dX2_readOrder 49 rfl) rfl (by decide) ?_
          have hc18 := (hO90 219 (by omega)).trans hK219_70
          refine g_putf F (q := 98) (ty := .int) hc18 rfl inX2 tyX2 tyX2_ok nmX2 (by omega) (j := 8) (by decide) tq_162 rfl rfl (by decide +kernel) rfl rfl (Nat.le_of_ble_eq_true rfl) (dk dX2_readOrder 50 rfl) rfl (fun E95 hE95 hO95 => ?_)
          have hE95 : E95 219 = .inr (2, [.ref (ad 220), .int (nI ln), .ref (ad 221), .ref (ad 222), .ref (ad 223), .ref (ad 224), .int (nI n), .int (nI ((numP txt ln ((numP txt ln (p + 1)) + 1)))), .int 1000]) := hE95
          refine g_aload_n F (q := 99) (dk dX2_readOrder 51 rfl) rfl rfl 0 rfl ?_
          refine g_bipush F (q := 101) (v := 42) (dk dX2_readOrder 52 rfl) rfl (by decide) ?_
          have hc19 := (hF70 220 (by omega)).trans hc11
          have hc20 := (hO90 220 (by omega)).trans hc19
          have hc21 := (hO95 220 (by omega)).trans hc20
          refine g_callVI F (q := 104) (av := [.int 42]) (st := []) (c_X2_skips (ch := 42) hE95 hc21 (by first | assumption | decide | omega) (by first | omega | exact numP_le (by omega))) kv_X2_skips tq_594 hE95 rfl (by omega) ⟨rfl, rfl⟩ (by decide) ⟨Nat.le_refl _, Nat.le_refl _⟩ rfl rfl (Nat.le_of_ble_eq_true rfl) (dk dX2_readOrder 53 rfl) rfl (fun r101 E101 hp101 => ?_)
          rcases hp101 with ⟨rfl, hK219_101, hc_101, hF101⟩ | ⟨rfl, hc_101, rfl⟩
          · refine g_if_eq F (q := 107) (tgt := 116) (dk dX2_readOrder 54 rfl) (by decide) rfl (fun h => absurd h (by decide)) (fun _ => ?_)
            refine g_aload_n F (q := 108) (dk dX2_readOrder 55 rfl) rfl rfl 0 rfl ?_
            have hc22 := (hF101 220 (by omega)).trans hc21
            refine g_callVI F (q := 111) (av := []) (st := []) (c_X2_readNumber hK219_101 hc22 (by first | assumption | decide | omega) (by first | omega | exact numP_le (by omega))) kv_X2_readNumber tq_598 hK219_101 rfl (by omega) ⟨rfl, rfl⟩ (by decide) ⟨Nat.le_refl _, Nat.le_refl _⟩ rfl rfl (Nat.le_of_ble_eq_true rfl) (dk dX2_readOrder 56 rfl) rfl (fun r108 E108 hp108 => ?_)
            rcases hp108 with ⟨rfl, hK219_108, hd_108, hF108⟩ | ⟨rfl, hK219_108, hd_108, hF108⟩
            · refine g_if_ne F (q := 114) (tgt := 116) (dk dX2_readOrder 57 rfl) (by decide) rfl (fun _ => ?_) (fun h => absurd h (by decide))
              refine g_aload_n F (q := 117) (dk dX2_readOrder 60 rfl) rfl rfl 0 rfl ?_
              refine g_getf F (q := 120) hK219_108 rfl inX2 (by omega) (j := 5) (by decide) tq_157 rfl rfl (dk dX2_readOrder 61 rfl) rfl ?_
              refine g_aload_n F (q := 121) (dk dX2_readOrder 62 rfl) rfl rfl 0 rfl ?_
              refine g_getf F (q := 124) hK219_108 rfl inX2 (by omega) (j := 6) (by decide) tq_159 rfl rfl (dk dX2_readOrder 63 rfl) rfl ?_
              refine g_aload_n F (q := 125) (dk dX2_readOrder 64 rfl) rfl rfl 0 rfl ?_
              refine g_getf F (q := 128) hK219_108 rfl inX2 (by omega) (j := 8) (by decide) tq_162 rfl rfl (dk dX2_readOrder 65 rfl) rfl ?_
              have hc23 := (hF11 224 (by omega)).trans htre
              have hc24 := (hO14 224 (by omega)).trans hc23
              have hc25 := (hF39 224 (by omega)).trans hc24
              have hc26 := (hO59 224 (by omega)).trans hc25
              have hc27 := (hF63 224 (by omega)).trans hc26
              have hc28 := (hF70 224 (by omega)).trans hc27
              have hc29 := (hO90 224 (by omega)).trans hc28
              have hc30 := (hO95 224 (by omega)).trans hc29
              have hc31 := (hF101 224 (by omega)).trans hc30
              have hc32 := (hF108 224 (by omega)).trans hc31
              refine g_iast F (q := 129) n hc32 (by omega) rfl (by omega) (by decide) (dk dX2_readOrder 66 rfl) rfl (fun E128 hE128 hO128 => ?_)
              refine g_iconst F (q := 130) (v := 1) (dk dX2_readOrder 67 rfl) rfl (by decide) ?_
              have hc33 := (hO128 219 (by omega)).trans hK219_108
              have hc34 := (hF39 221 (by omega)).trans hE14
              have hc35 := (hO59 221 (by omega)).trans hc34
              have hc36 := (hF63 221 (by omega)).trans hc35
              have hc37 := (hF70 221 (by omega)).trans hc36
              have hc38 := (hO90 221 (by omega)).trans hc37
              have hc39 := (hO95 221 (by omega)).trans hc38
              have hc40 := (hF101 221 (by omega)).trans hc39
              have hc41 := (hF108 221 (by omega)).trans hc40
              have hc42 := (hO128 221 (by omega)).trans hc41
              have hc43 := (hF63 222 (by omega)).trans hE59
              have hc44 := (hF70 222 (by omega)).trans hc43
              have hc45 := (hO90 222 (by omega)).trans hc44
              have hc46 := (hO95 222 (by omega)).trans hc45
              have hc47 := (hF101 222 (by omega)).trans hc46
              have hc48 := (hF108 222 (by omega)).trans hc47
              have hc49 := (hO128 222 (by omega)).trans hc48
              have hc50 := (hO95 223 (by omega)).trans hE90
              have hc51 := (hF101 223 (by omega)).trans hc50
              have hc52 := (hF108 223 (by omega)).trans hc51
              have hc53 := (hO128 223 (by omega)).trans hc52
              refine hret 1 E128 _ _ (dk dX2_readOrder 68 rfl) rfl ?_
              exact Or.inl ⟨rfl, _, 0, _, (numV txt ln (p + 1)), (numV txt ln ((numP txt ln (p + 1)) + 1)), (numV txt ln ((numP txt ln ((numP txt ln (p + 1)) + 1)) + 1)), _, hc33, hc42, hc49, hc53, hE128, (by unfold ordP; rw [if_pos hc_11]; unfold ordQ; rw [if_pos hd_39, if_pos hc_63, if_pos hd_70, if_pos hc_101, if_pos hd_108]), rfl, (fun j hj => (((((((((((hO128 j (by omega)).trans (hF108 j (by omega))).trans (hF101 j (by omega))).trans (hO95 j (by omega))).trans (hO90 j (by omega))).trans (hF70 j (by omega))).trans (hF63 j (by omega))).trans (hO59 j (by omega))).trans (hF39 j (by omega))).trans (hO14 j (by omega))).trans (hF11 j (by omega))))⟩
            · refine g_if_ne F (q := 114) (tgt := 116) (dk dX2_readOrder 57 rfl) (by decide) rfl (fun h => absurd h (by decide)) (fun _ => ?_)
              refine g_iconst F (q := 115) (v := 0) (dk dX2_readOrder 58 rfl) rfl (by decide) ?_
              have hc54 := (hF39 221 (by omega)).trans hE14
              have hc55 := (hO59 221 (by omega)).trans hc54
              have hc56 := (hF63 221 (by omega)).trans hc55
              have hc57 := (hF70 221 (by omega)).trans hc56
              have hc58 := (hO90 221 (by omega)).trans hc57
              have hc59 := (hO95 221 (by omega)).trans hc58
              have hc60 := (hF101 221 (by omega)).trans hc59
              have hc61 := (hF108 221 (by omega)).trans hc60
              have hc62 := (hF63 222 (by omega)).trans hE59
              have hc63 := (hF70 222 (by omega)).trans hc62
              have hc64 := (hO90 222 (by omega)).trans hc63
              have hc65 := (hO95 222 (by omega)).trans hc64
              have hc66 := (hF101 222 (by omega)).trans hc65
              have hc67 := (hF108 222 (by omega)).trans hc66
              have hc68 := (hO95 223 (by omega)).trans hE90
              have hc69 := (hF101 223 (by omega)).trans hc68
              have hc70 := (hF108 223 (by omega)).trans hc69
              refine hret 0 E108 _ _ (dk dX2_readOrder 59 rfl) rfl ?_
              exact Or.inr ⟨rfl, _, _, _, _, _, hK219_108, hc61, hc67, hc70, (by unfold ordP; rw [if_pos hc_11]; unfold ordQ; rw [if_pos hd_39, if_pos hc_63, if_pos hd_70, if_pos hc_101, if_neg hd_108]), (fun j hj => ((((((((((hF108 j (by omega)).trans (hF101 j (by omega))).trans (hO95 j (by omega))).trans (hO90 j (by omega))).trans (hF70 j (by omega))).trans (hF63 j (by omega))).trans (hO59 j (by omega))).trans (hF39 j (by omega))).trans (hO14 j (by omega))).trans (hF11 j (by omega))))⟩
          · refine g_if_eq F (q := 107) (tgt := 116) (dk dX2_readOrder 54 rfl) (by decide) rfl (fun _ => ?_) (fun h => absurd h (by decide))
            refine g_aload_n F (q := 117) (dk dX2_readOrder 60 rfl) rfl rfl 0 rfl ?_
            refine g_getf F (q := 120) hE95 rfl inX2 (by omega) (j := 5) (by decide) tq_157 rfl rfl (dk dX2_readOrder 61 rfl) rfl ?_
            refine g_aload_n F (q := 121) (dk dX2_readOrder 62 rfl) rfl rfl 0 rfl ?_
            refine g_getf F (q := 124) hE95 rfl inX2 (by omega) (j := 6) (by decide) tq_159 rfl rfl (dk dX2_readOrder 63 rfl) rfl ?_
            refine g_aload_n F (q := 125) (dk dX2_readOrder 64 rfl) rfl rfl 0 rfl ?_
            refine g_getf F (q := 128) hE95 rfl inX2 (by omega) (j := 8) (by decide) tq_162 rfl rfl (dk dX2_readOrder 65 rfl) rfl ?_
            have hc71 := (hF11 224 (by omega)).trans htre
            have hc72 := (hO14 224 (by omega)).trans hc71
            have hc73 := (hF39 224 (by omega)).trans hc72
            have hc74 := (hO59 224 (by omega)).trans hc73
            have hc75 := (hF63 224 (by omega)).trans hc74
            have hc76 := (hF70 224 (by omega)).trans hc75
            have hc77 := (hO90 224 (by omega)).trans hc76
            have hc78 := (hO95 224 (by omega)).trans hc77
            refine g_iast F (q := 129) n hc78 (by omega) rfl (by omega) (by decide) (dk dX2_readOrder 66 rfl) rfl (fun E128 hE128 hO128 => ?_)
            refine g_iconst F (q := 130) (v := 1) (dk dX2_readOrder 67 rfl) rfl (by decide) ?_
            have hc79 := (hO128 219 (by omega)).trans hE95
            have hc80 := (hF39 221 (by omega)).trans hE14
            have hc81 := (hO59 221 (by omega)).trans hc80
            have hc82 := (hF63 221 (by omega)).trans hc81
            have hc83 := (hF70 221 (by omega)).trans hc82
            have hc84 := (hO90 221 (by omega)).trans hc83
            have hc85 := (hO95 221 (by omega)).trans hc84
            have hc86 := (hO128 221 (by omega)).trans hc85
            have hc87 := (hF63 222 (by omega)).trans hE59
            have hc88 := (hF70 222 (by omega)).trans hc87
            have hc89 := (hO90 222 (by omega)).trans hc88
            have hc90 := (hO95 222 (by omega)).trans hc89
            have hc91 := (hO128 222 (by omega)).trans hc90
            have hc92 := (hO95 223 (by omega)).trans hE90
            have hc93 := (hO128 223 (by omega)).trans hc92
            refine hret 1 E128 _ _ (dk dX2_readOrder 68 rfl) rfl ?_
            exact Or.inl ⟨rfl, _, 0, _, (numV txt ln (p + 1)), (numV txt ln ((numP txt ln (p + 1)) + 1)), 1000, _, hc79, hc86, hc91, hc93, hE128, (by unfold ordP; rw [if_pos hc_11]; unfold ordQ; rw [if_pos hd_39, if_pos hc_63, if_pos hd_70, if_neg hc_101]), rfl, (fun j hj => (((((((((hO128 j (by omega)).trans (hO95 j (by omega))).trans (hO90 j (by omega))).trans (hF70 j (by omega))).trans (hF63 j (by omega))).trans (hO59 j (by omega))).trans (hF39 j (by omega))).trans (hO14 j (by omega))).trans (hF11 j (by omega))))⟩
        · refine g_if_ne F (q := 76) (tgt := 78) (dk dX2_readOrder 38 rfl) (by decide) rfl (fun h => absurd h (by decide)) (fun _ => ?_)
          refine g_iconst F (q := 77) (v := 0) (dk dX2_readOrder 39 rfl) rfl (by decide) ?_
          have hc94 := (hF39 221 (by omega)).trans hE14
          have hc95 := (hO59 221 (by omega)).trans hc94
          have hc96 := (hF63 221 (by omega)).trans hc95
          have hc97 := (hF70 221 (by omega)).trans hc96
          have hc98 := (hF63 222 (by omega)).trans hE59
          have hc99 := (hF70 222 (by omega)).trans hc98
          have hc100 := (hF11 223 (by omega)).trans htti
          have hc101 := (hO14 223 (by omega)).trans hc100
          have hc102 := (hF39 223 (by omega)).trans hc101
          have hc103 := (hO59 223 (by omega)).trans hc102
          have hc104 := (hF63 223 (by omega)).trans hc103
          have hc105 := (hF70 223 (by omega)).trans hc104
          refine hret 0 E70 _ _ (dk dX2_readOrder 40 rfl) rfl ?_
          exact Or.inr ⟨rfl, _, _, _, _, _, hK219_70, hc97, hc99, hc105, (by unfold ordP; rw [if_pos hc_11]; unfold ordQ; rw [if_pos hd_39, if_pos hc_63, if_neg hd_70]), (fun j hj => ((((((hF70 j (by omega)).trans (hF63 j (by omega))).trans (hO59 j (by omega))).trans (hF39 j (by omega))).trans (hO14 j (by omega))).trans (hF11 j (by omega))))⟩
      · refine g_if_eq F (q := 69) (tgt := 76) (dk dX2_readOrder 35 rfl) (by decide) rfl (fun _ => ?_) (fun h => absurd h (by decide))
        refine g_iconst F (q := 77) (v := 0) (dk dX2_readOrder 39 rfl) rfl (by decide) ?_
        have hc106 := (hF39 221 (by omega)).trans hE14
        have hc107 := (hO59 221 (by omega)).trans hc106
        have hc108 := (hF11 223 (by omega)).trans htti
        have hc109 := (hO14 223 (by omega)).trans hc108
        have hc110 := (hF39 223 (by omega)).trans hc109
        have hc111 := (hO59 223 (by omega)).trans hc110
        refine hret 0 E59 _ _ (dk dX2_readOrder 40 rfl) rfl ?_
        exact Or.inr ⟨rfl, _, _, _, _, _, hc8, hc107, hE59, hc111, (by unfold ordP; rw [if_pos hc_11]; unfold ordQ; rw [if_pos hd_39, if_neg hc_63]), (fun j hj => ((((hO59 j (by omega)).trans (hF39 j (by omega))).trans (hO14 j (by omega))).trans (hF11 j (by omega))))⟩
    · refine g_if_ne F (q := 45) (tgt := 47) (dk dX2_readOrder 22 rfl) (by decide) rfl (fun h => absurd h (by decide)) (fun _ => ?_)
      refine g_iconst F (q := 46) (v := 0) (dk dX2_readOrder 23 rfl) rfl (by decide) ?_
      have hc112 := (hF39 221 (by omega)).trans hE14
      have hc113 := (hF11 222 (by omega)).trans htpla
      have hc114 := (hO14 222 (by omega)).trans hc113
      have hc115 := (hF39 222 (by omega)).trans hc114
      have hc116 := (hF11 223 (by omega)).trans htti
      have hc117 := (hO14 223 (by omega)).trans hc116
      have hc118 := (hF39 223 (by omega)).trans hc117
      refine hret 0 E39 _ _ (dk dX2_readOrder 24 rfl) rfl ?_
      exact Or.inr ⟨rfl, _, _, _, _, _, hK219_39, hc112, hc115, hc118, (by unfold ordP; rw [if_pos hc_11]; unfold ordQ; rw [if_neg hd_39]), (fun j hj => (((hF39 j (by omega)).trans (hO14 j (by omega))).trans (hF11 j (by omega))))⟩
  · refine g_zast F (q := 15) n htar (by omega) rfl (by omega) (by decide) (by decide) (dk dX2_readOrder 7 rfl) rfl (fun E14 hE14 hO14 => ?_)
    refine g_aload_n F (q := 16) (dk dX2_readOrder 8 rfl) rfl rfl 0 rfl ?_
    have hc119 := (hO14 219 (by omega)).trans h219
    refine g_getf F (q := 19) hc119 rfl inX2 (by omega) (j := 2) (by decide) tq_151 rfl rfl (dk dX2_readOrder 9 rfl) rfl ?_
    refine g_aload_n F (q := 20) (dk dX2_readOrder 10 rfl) rfl rfl 0 rfl ?_
    refine g_getf F (q := 23) hc119 rfl inX2 (by omega) (j := 6) (by decide) tq_159 rfl rfl (dk dX2_readOrder 11 rfl) rfl ?_
    refine g_zald F (q := 24) n hE14 (by omega) rfl (by omega) (by decide) (dk dX2_readOrder 12 rfl) rfl ?_
    refine g_sti (y := 0) upd_s ?_
    refine g_if_ne F (q := 27) (tgt := 38) (dk dX2_readOrder 13 rfl) (by decide) rfl (fun h => absurd h (by decide)) (fun _ => ?_)
    refine g_aload_n F (q := 28) (dk dX2_readOrder 14 rfl) rfl rfl 0 rfl ?_
    refine g_bipush F (q := 30) (v := 107) (dk dX2_readOrder 15 rfl) rfl (by decide) ?_
    have hc120 := (hO14 220 (by omega)).trans httxt
    refine g_callVI F (q := 33) (av := [.int 107]) (st := []) (c_X2_skips (ch := 107) hc119 hc120 (by first | assumption | decide | omega) (by first | omega | exact numP_le (by omega))) kv_X2_skips tq_594 hc119 rfl (by omega) ⟨rfl, rfl⟩ (by decide) ⟨Nat.le_refl _, Nat.le_refl _⟩ rfl rfl (Nat.le_of_ble_eq_true rfl) (dk dX2_readOrder 16 rfl) rfl (fun r30 E30 hp30 => ?_)
    rcases hp30 with ⟨rfl, hK219_30, hc_30, hF30⟩ | ⟨rfl, hc_30, rfl⟩
    · refine g_if_ne F (q := 36) (tgt := 38) (dk dX2_readOrder 17 rfl) (by decide) rfl (fun _ => ?_) (fun h => absurd h (by decide))
      refine g_aload_n F (q := 39) (dk dX2_readOrder 20 rfl) rfl rfl 0 rfl ?_
      have hc121 := (hF30 220 (by omega)).trans hc120
      refine g_callVI F (q := 42) (av := []) (st := []) (c_X2_readNumber hK219_30 hc121 (by first | assumption | decide | omega) (by first | omega | exact numP_le (by omega))) kv_X2_readNumber tq_598 hK219_30 rfl (by omega) ⟨rfl, rfl⟩ (by decide) ⟨Nat.le_refl _, Nat.le_refl _⟩ rfl rfl (Nat.le_of_ble_eq_true rfl) (dk dX2_readOrder 21 rfl) rfl (fun r39 E39 hp39 => ?_)
      rcases hp39 with ⟨rfl, hK219_39, hd_39, hF39⟩ | ⟨rfl, hK219_39, hd_39, hF39⟩
      · refine g_if_ne F (q := 45) (tgt := 47) (dk dX2_readOrder 22 rfl) (by decide) rfl (fun _ => ?_) (fun h => absurd h (by decide))
        refine g_aload_n F (q := 48) (dk dX2_readOrder 25 rfl) rfl rfl 0 rfl ?_
        refine g_getf F (q := 51) hK219_39 rfl inX2 (by omega) (j := 3) (by decide) tq_153 rfl rfl (dk dX2_readOrder 26 rfl) rfl ?_
        refine g_aload_n F (q := 52) (dk dX2_readOrder 27 rfl) rfl rfl 0 rfl ?_
        refine g_getf F (q := 55) hK219_39 rfl inX2 (by omega) (j := 6) (by decide) tq_159 rfl rfl (dk dX2_readOrder 28 rfl) rfl ?_
        refine g_aload_n F (q := 56) (dk dX2_readOrder 29 rfl) rfl rfl 0 rfl ?_
        refine g_getf F (q := 59) hK219_39 rfl inX2 (by omega) (j := 8) (by decide) tq_162 rfl rfl (dk dX2_readOrder 30 rfl) rfl ?_
        have hc122 := (hO14 222 (by omega)).trans htpla
        have hc123 := (hF30 222 (by omega)).trans hc122
        have hc124 := (hF39 222 (by omega)).trans hc123
        refine g_iast F (q := 60) n hc124 (by omega) rfl (by omega) (by decide) (dk dX2_readOrder 31 rfl) rfl (fun E59 hE59 hO59 => ?_)
        refine g_aload_n F (q := 61) (dk dX2_readOrder 32 rfl) rfl rfl 0 rfl ?_
        refine g_bipush F (q := 63) (v := 64) (dk dX2_readOrder 33 rfl) rfl (by decide) ?_
        have hc125 := (hO59 219 (by omega)).trans hK219_39
        have hc126 := (hF39 220 (by omega)).trans hc121
        have hc127 := (hO59 220 (by omega)).trans hc126
        refine g_callVI F (q := 66) (av := [.int 64]) (st := []) (c_X2_skips (ch := 64) hc125 hc127 (by first | assumption | decide | omega) (by first | omega | exact numP_le (by omega))) kv_X2_skips tq_594 hc125 rfl (by omega) ⟨rfl, rfl⟩ (by decide) ⟨Nat.le_refl _, Nat.le_refl _⟩ rfl rfl (Nat.le_of_ble_eq_true rfl) (dk dX2_readOrder 34 rfl) rfl (fun r63 E63 hp63 => ?_)
        rcases hp63 with ⟨rfl, hK219_63, hc_63, hF63⟩ | ⟨rfl, hc_63, rfl⟩
        · refine g_if_eq F (q := 69) (tgt := 76) (dk dX2_readOrder 35 rfl) (by decide) rfl (fun h => absurd h (by decide)) (fun _ => ?_)
          refine g_aload_n F (q := 70) (dk dX2_readOrder 36 rfl) rfl rfl 0 rfl ?_
          have hc128 := (hF63 220 (by omega)).trans hc127
          refine g_callVI F (q := 73) (av := []) (st := []) (c_X2_readNumber hK219_63 hc128 (by first | assumption | decide | omega) (by first | omega | exact numP_le (by omega))) kv_X2_readNumber tq_598 hK219_63 rfl (by omega) ⟨rfl, rfl⟩ (by decide) ⟨Nat.le_refl _, Nat.le_refl _⟩ rfl rfl (Nat.le_of_ble_eq_true rfl) (dk dX2_readOrder 37 rfl) rfl (fun r70 E70 hp70 => ?_)
          rcases hp70 with ⟨rfl, hK219_70, hd_70, hF70⟩ | ⟨rfl, hK219_70, hd_70, hF70⟩
          · refine g_if_ne F (q := 76) (tgt := 78) (dk dX2_readOrder 38 rfl) (by decide) rfl (fun _ => ?_) (fun h => absurd h (by decide))
            refine g_aload_n F (q := 79) (dk dX2_readOrder 41 rfl) rfl rfl 0 rfl ?_
            refine g_getf F (q := 82) hK219_70 rfl inX2 (by omega) (j := 4) (by decide) tq_155 rfl rfl (dk dX2_readOrder 42 rfl) rfl ?_
            refine g_aload_n F (q := 83) (dk dX2_readOrder 43 rfl) rfl rfl 0 rfl ?_
            refine g_getf F (q := 86) hK219_70 rfl inX2 (by omega) (j := 6) (by decide) tq_159 rfl rfl (dk dX2_readOrder 44 rfl) rfl ?_
            refine g_aload_n F (q := 87) (dk dX2_readOrder 45 rfl) rfl rfl 0 rfl ?_
            refine g_getf F (q := 90) hK219_70 rfl inX2 (by omega) (j := 8) (by decide) tq_162 rfl rfl (dk dX2_readOrder 46 rfl) rfl ?_
            have hc129 := (hO14 223 (by omega)).trans htti
            have hc130 := (hF30 223 (by omega)).trans hc129
            have hc131 := (hF39 223 (by omega)).trans hc130
            have hc132 := (hO59 223 (by omega)).trans hc131
            have hc133 := (hF63 223 (by omega)).trans hc132
            have hc134 := (hF70 223 (by omega)).trans hc133
            refine g_iast F (q := 91) n hc134 (by omega) rfl (by omega) (by decide) (dk dX2_readOrder 47 rfl) rfl (fun E90 hE90 hO90 => ?_)
            refine g_aload_n F (q := 92) (dk dX2_readOrder 48 rfl) rfl rfl 0 rfl ?_
            refine g_sipush F (q := 95) (v := 1000) (dk dX2_readOrder 49 rfl) rfl (by decide) ?_
            have hc135 := (hO90 219 (by omega)).trans hK219_70
            refine g_putf F (q := 98) (ty := .int) hc135 rfl inX2 tyX2 tyX2_ok nmX2 (by omega) (j := 8) (by decide) tq_162 rfl rfl (by decide +kernel) rfl rfl (Nat.le_of_ble_eq_true rfl) (dk dX2_readOrder 50 rfl) rfl (fun E95 hE95 hO95 => ?_)
            have hE95 : E95 219 = .inr (2, [.ref (ad 220), .int (nI ln), .ref (ad 221), .ref (ad 222), .ref (ad 223), .ref (ad 224), .int (nI n), .int (nI ((numP txt ln ((numP txt ln (p + 1)) + 1)))), .int 1000]) := hE95
            refine g_aload_n F (q := 99) (dk dX2_readOrder 51 rfl) rfl rfl 0 rfl ?_
            refine g_bipush F (q := 101) (v := 42) (dk dX2_readOrder 52 rfl) rfl (by decide) ?_
            have hc136 := (hF70 220 (by omega)).trans hc128
            have hc137 := (hO90 220 (by omega)).trans hc136
            have hc138 := (hO95 220 (by omega)).trans hc137
            refine g_callVI F (q := 104) (av := [.int 42]) (st := []) (c_X2_skips (ch := 42) hE95 hc138 (by first | assumption | decide | omega) (by first | omega | exact numP_le (by omega))) kv_X2_skips tq_594 hE95 rfl (by omega) ⟨rfl, rfl⟩ (by decide) ⟨Nat.le_refl _, Nat.le_refl _⟩ rfl rfl (Nat.le_of_ble_eq_true rfl) (dk dX2_readOrder 53 rfl) rfl (fun r101 E101 hp101 => ?_)
            rcases hp101 with ⟨rfl, hK219_101, hc_101, hF101⟩ | ⟨rfl, hc_101, rfl⟩
            · refine g_if_eq F (q := 107) (tgt := 116) (dk dX2_readOrder 54 rfl) (by decide) rfl (fun h => absurd h (by decide)) (fun _ => ?_)
              refine g_aload_n F (q := 108) (dk dX2_readOrder 55 rfl) rfl rfl 0 rfl ?_
              have hc139 := (hF101 220 (by omega)).trans hc138
              refine g_callVI F (q := 111) (av := []) (st := []) (c_X2_readNumber hK219_101 hc139 (by first | assumption | decide | omega) (by first | omega | exact numP_le (by omega))) kv_X2_readNumber tq_598 hK219_101 rfl (by omega) ⟨rfl, rfl⟩ (by decide) ⟨Nat.le_refl _, Nat.le_refl _⟩ rfl rfl (Nat.le_of_ble_eq_true rfl) (dk dX2_readOrder 56 rfl) rfl (fun r108 E108 hp108 => ?_)
              rcases hp108 with ⟨rfl, hK219_108, hd_108, hF108⟩ | ⟨rfl, hK219_108, hd_108, hF108⟩
              · refine g_if_ne F (q := 114) (tgt := 116) (dk dX2_readOrder 57 rfl) (by decide) rfl (fun _ => ?_) (fun h => absurd h (by decide))
                refine g_aload_n F (q := 117) (dk dX2_readOrder 60 rfl) rfl rfl 0 rfl ?_
                refine g_getf F (q := 120) hK219_108 rfl inX2 (by omega) (j := 5) (by decide) tq_157 rfl rfl (dk dX2_readOrder 61 rfl) rfl ?_
                refine g_aload_n F (q := 121) (dk dX2_readOrder 62 rfl) rfl rfl 0 rfl ?_
                refine g_getf F (q := 124) hK219_108 rfl inX2 (by omega) (j := 6) (by decide) tq_159 rfl rfl (dk dX2_readOrder 63 rfl) rfl ?_
                refine g_aload_n F (q := 125) (dk dX2_readOrder 64 rfl) rfl rfl 0 rfl ?_
                refine g_getf F (q := 128) hK219_108 rfl inX2 (by omega) (j := 8) (by decide) tq_162 rfl rfl (dk dX2_readOrder 65 rfl) rfl ?_
                have hc140 := (hO14 224 (by omega)).trans htre
                have hc141 := (hF30 224 (by omega)).trans hc140
                have hc142 := (hF39 224 (by omega)).trans hc141
                have hc143 := (hO59 224 (by omega)).trans hc142
                have hc144 := (hF63 224 (by omega)).trans hc143
                have hc145 := (hF70 224 (by omega)).trans hc144
                have hc146 := (hO90 224 (by omega)).trans hc145
                have hc147 := (hO95 224 (by omega)).trans hc146
                have hc148 := (hF101 224 (by omega)).trans hc147
                have hc149 := (hF108 224 (by omega)).trans hc148
                refine g_iast F (q := 129) n hc149 (by omega) rfl (by omega) (by decide) (dk dX2_readOrder 66 rfl) rfl (fun E128 hE128 hO128 => ?_)
                refine g_iconst F (q := 130) (v := 1) (dk dX2_readOrder 67 rfl) rfl (by decide) ?_
                have hc150 := (hO128 219 (by omega)).trans hK219_108
                have hc151 := (hF30 221 (by omega)).trans hE14
                have hc152 := (hF39 221 (by omega)).trans hc151
                have hc153 := (hO59 221 (by omega)).trans hc152
                have hc154 := (hF63 221 (by omega)).trans hc153
                have hc155 := (hF70 221 (by omega)).trans hc154
                have hc156 := (hO90 221 (by omega)).trans hc155
                have hc157 := (hO95 221 (by omega)).trans hc156
                have hc158 := (hF101 221 (by omega)).trans hc157
                have hc159 := (hF108 221 (by omega)).trans hc158
                have hc160 := (hO128 221 (by omega)).trans hc159
                have hc161 := (hF63 222 (by omega)).trans hE59
                have hc162 := (hF70 222 (by omega)).trans hc161
                have hc163 := (hO90 222 (by omega)).trans hc162
                have hc164 := (hO95 222 (by omega)).trans hc163
                have hc165 := (hF101 222 (by omega)).trans hc164
                have hc166 := (hF108 222 (by omega)).trans hc165
                have hc167 := (hO128 222 (by omega)).trans hc166
                have hc168 := (hO95 223 (by omega)).trans hE90
                have hc169 := (hF101 223 (by omega)).trans hc168
                have hc170 := (hF108 223 (by omega)).trans hc169
                have hc171 := (hO128 223 (by omega)).trans hc170
                refine hret 1 E128 _ _ (dk dX2_readOrder 68 rfl) rfl ?_
                exact Or.inl ⟨rfl, _, 1, _, (numV txt ln (p + 1)), (numV txt ln ((numP txt ln (p + 1)) + 1)), (numV txt ln ((numP txt ln ((numP txt ln (p + 1)) + 1)) + 1)), _, hc150, hc160, hc167, hc171, hE128, (by unfold ordP; rw [if_neg hc_11, if_pos hc_30]; unfold ordQ; rw [if_pos hd_39, if_pos hc_63, if_pos hd_70, if_pos hc_101, if_pos hd_108]), rfl, (fun j hj => (((((((((((hO128 j (by omega)).trans (hF108 j (by omega))).trans (hF101 j (by omega))).trans (hO95 j (by omega))).trans (hO90 j (by omega))).trans (hF70 j (by omega))).trans (hF63 j (by omega))).trans (hO59 j (by omega))).trans (hF39 j (by omega))).trans (hF30 j (by omega))).trans (hO14 j (by omega))))⟩
              · refine g_if_ne F (q := 114) (tgt := 116) (dk dX2_readOrder 57 rfl) (by decide) rfl (fun h => absurd h (by decide)) (fun _ => ?_)
                refine g_iconst F (q := 115) (v := 0) (dk dX2_readOrder 58 rfl) rfl (by decide) ?_
                have hc172 := (hF30 221 (by omega)).trans hE14
                have hc173 := (hF39 221 (by omega)).trans hc172
                have hc174 := (hO59 221 (by omega)).trans hc173
                have hc175 := (hF63 221 (by omega)).trans hc174
                have hc176 := (hF70 221 (by omega)).trans hc175
                have hc177 := (hO90 221 (by omega)).trans hc176
                have hc178 := (hO95 221 (by omega)).trans hc177
                have hc179 := (hF101 221 (by omega)).trans hc178
                have hc180 := (hF108 221 (by omega)).trans hc179
                have hc181 := (hF63 222 (by omega)).trans hE59
                have hc182 := (hF70 222 (by omega)).trans hc181
                have hc183 := (hO90 222 (by omega)).trans hc182
                have hc184 := (hO95 222 (by omega)).trans hc183
                have hc185 := (hF101 222 (by omega)).trans hc184
                have hc186 := (hF108 222 (by omega)).trans hc185
                have hc187 := (hO95 223 (by omega)).trans hE90
                have hc188 := (hF101 223 (by omega)).trans hc187
                have hc189 := (hF108 223 (by omega)).trans hc188
                refine hret 0 E108 _ _ (dk dX2_readOrder 59 rfl) rfl ?_
                exact Or.inr ⟨rfl, _, _, _, _, _, hK219_108, hc180, hc186, hc189, (by unfold ordP; rw [if_neg hc_11, if_pos hc_30]; unfold ordQ; rw [if_pos hd_39, if_pos hc_63, if_pos hd_70, if_pos hc_101, if_neg hd_108]), (fun j hj => ((((((((((hF108 j (by omega)).trans (hF101 j (by omega))).trans (hO95 j (by omega))).trans (hO90 j (by omega))).trans (hF70 j (by omega))).trans (hF63 j (by omega))).trans (hO59 j (by omega))).trans (hF39 j (by omega))).trans (hF30 j (by omega))).trans (hO14 j (by omega))))⟩
            · refine g_if_eq F (q := 107) (tgt := 116) (dk dX2_readOrder 54 rfl) (by decide) rfl (fun _ => ?_) (fun h => absurd h (by decide))
              refine g_aload_n F (q := 117) (dk dX2_readOrder 60 rfl) rfl rfl 0 rfl ?_
              refine g_getf F (q := 120) hE95 rfl inX2 (by omega) (j := 5) (by decide) tq_157 rfl rfl (dk dX2_readOrder 61 rfl) rfl ?_
              refine g_aload_n F (q := 121) (dk dX2_readOrder 62 rfl) rfl rfl 0 rfl ?_
              refine g_getf F (q := 124) hE95 rfl inX2 (by omega) (j := 6) (by decide) tq_159 rfl rfl (dk dX2_readOrder 63 rfl) rfl ?_
              refine g_aload_n F (q := 125) (dk dX2_readOrder 64 rfl) rfl rfl 0 rfl ?_
              refine g_getf F (q := 128) hE95 rfl inX2 (by omega) (j := 8) (by decide) tq_162 rfl rfl (dk dX2_readOrder 65 rfl) rfl ?_
              have hc190 := (hO14 224 (by omega)).trans htre
              have hc191 := (hF30 224 (by omega)).trans hc190
              have hc192 := (hF39 224 (by omega)).trans hc191
              have hc193 := (hO59 224 (by omega)).trans hc192
              have hc194 := (hF63 224 (by omega)).trans hc193
              have hc195 := (hF70 224 (by omega)).trans hc194
              have hc196 := (hO90 224 (by omega)).trans hc195
              have hc197 := (hO95 224 (by omega)).trans hc196
              refine g_iast F (q := 129) n hc197 (by omega) rfl (by omega) (by decide) (dk dX2_readOrder 66 rfl) rfl (fun E128 hE128 hO128 => ?_)
              refine g_iconst F (q := 130) (v := 1) (dk dX2_readOrder 67 rfl) rfl (by decide) ?_
              have hc198 := (hO128 219 (by omega)).trans hE95
              have hc199 := (hF30 221 (by omega)).trans hE14
              have hc200 := (hF39 221 (by omega)).trans hc199
              have hc201 := (hO59 221 (by omega)).trans hc200
              have hc202 := (hF63 221 (by omega)).trans hc201
              have hc203 := (hF70 221 (by omega)).trans hc202
              have hc204 := (hO90 221 (by omega)).trans hc203
              have hc205 := (hO95 221 (by omega)).trans hc204
              have hc206 := (hO128 221 (by omega)).trans hc205
              have hc207 := (hF63 222 (by omega)).trans hE59
              have hc208 := (hF70 222 (by omega)).trans hc207
              have hc209 := (hO90 222 (by omega)).trans hc208
              have hc210 := (hO95 222 (by omega)).trans hc209
              have hc211 := (hO128 222 (by omega)).trans hc210
              have hc212 := (hO95 223 (by omega)).trans hE90
              have hc213 := (hO128 223 (by omega)).trans hc212
              refine hret 1 E128 _ _ (dk dX2_readOrder 68 rfl) rfl ?_
              exact Or.inl ⟨rfl, _, 1, _, (numV txt ln (p + 1)), (numV txt ln ((numP txt ln (p + 1)) + 1)), 1000, _, hc198, hc206, hc211, hc213, hE128, (by unfold ordP; rw [if_neg hc_11, if_pos hc_30]; unfold ordQ; rw [if_pos hd_39, if_pos hc_63, if_pos hd_70, if_neg hc_101]), rfl, (fun j hj => (((((((((hO128 j (by omega)).trans (hO95 j (by omega))).trans (hO90 j (by omega))).trans (hF70 j (by omega))).trans (hF63 j (by omega))).trans (hO59 j (by omega))).trans (hF39 j (by omega))).trans (hF30 j (by omega))).trans (hO14 j (by omega))))⟩
          · refine g_if_ne F (q := 76) (tgt := 78) (dk dX2_readOrder 38 rfl) (by decide) rfl (fun h => absurd h (by decide)) (fun _ => ?_)
            refine g_iconst F (q := 77) (v := 0) (dk dX2_readOrder 39 rfl) rfl (by decide) ?_
            have hc214 := (hF30 221 (by omega)).trans hE14
            have hc215 := (hF39 221 (by omega)).trans hc214
            have hc216 := (hO59 221 (by omega)).trans hc215
            have hc217 := (hF63 221 (by omega)).trans hc216
            have hc218 := (hF70 221 (by omega)).trans hc217
            have hc219 := (hF63 222 (by omega)).trans hE59
            have hc220 := (hF70 222 (by omega)).trans hc219
            have hc221 := (hO14 223 (by omega)).trans htti
            have hc222 := (hF30 223 (by omega)).trans hc221
            have hc223 := (hF39 223 (by omega)).trans hc222
            have hc224 := (hO59 223 (by omega)).trans hc223
            have hc225 := (hF63 223 (by omega)).trans hc224
            have hc226 := (hF70 223 (by omega)).trans hc225
            refine hret 0 E70 _ _ (dk dX2_readOrder 40 rfl) rfl ?_
            exact Or.inr ⟨rfl, _, _, _, _, _, hK219_70, hc218, hc220, hc226, (by unfold ordP; rw [if_neg hc_11, if_pos hc_30]; unfold ordQ; rw [if_pos hd_39, if_pos hc_63, if_neg hd_70]), (fun j hj => ((((((hF70 j (by omega)).trans (hF63 j (by omega))).trans (hO59 j (by omega))).trans (hF39 j (by omega))).trans (hF30 j (by omega))).trans (hO14 j (by omega))))⟩
        · refine g_if_eq F (q := 69) (tgt := 76) (dk dX2_readOrder 35 rfl) (by decide) rfl (fun _ => ?_) (fun h => absurd h (by decide))
          refine g_iconst F (q := 77) (v := 0) (dk dX2_readOrder 39 rfl) rfl (by decide) ?_
          have hc227 := (hF30 221 (by omega)).trans hE14
          have hc228 := (hF39 221 (by omega)).trans hc227
          have hc229 := (hO59 221 (by omega)).trans hc228
          have hc230 := (hO14 223 (by omega)).trans htti
          have hc231 := (hF30 223 (by omega)).trans hc230
          have hc232 := (hF39 223 (by omega)).trans hc231
          have hc233 := (hO59 223 (by omega)).trans hc232
          refine hret 0 E59 _ _ (dk dX2_readOrder 40 rfl) rfl ?_
          exact Or.inr ⟨rfl, _, _, _, _, _, hc125, hc229, hE59, hc233, (by unfold ordP; rw [if_neg hc_11, if_pos hc_30]; unfold ordQ; rw [if_pos hd_39, if_neg hc_63]), (fun j hj => ((((hO59 j (by omega)).trans (hF39 j (by omega))).trans (hF30 j (by omega))).trans (hO14 j (by omega))))⟩
      · refine g_if_ne F (q := 45) (tgt := 47) (dk dX2_readOrder 22 rfl) (by decide) rfl (fun h => absurd h (by decide)) (fun _ => ?_)
        refine g_iconst F (q := 46) (v := 0) (dk dX2_readOrder 23 rfl) rfl (by decide) ?_
        have hc234 := (hF30 221 (by omega)).trans hE14
        have hc235 := (hF39 221 (by omega)).trans hc234
        have hc236 := (hO14 222 (by omega)).trans htpla
        have hc237 := (hF30 222 (by omega)).trans hc236
        have hc238 := (hF39 222 (by omega)).trans hc237
        have hc239 := (hO14 223 (by omega)).trans htti
        have hc240 := (hF30 223 (by omega)).trans hc239
        have hc241 := (hF39 223 (by omega)).trans hc240
        refine hret 0 E39 _ _ (dk dX2_readOrder 24 rfl) rfl ?_
        exact Or.inr ⟨rfl, _, _, _, _, _, hK219_39, hc235, hc238, hc241, (by unfold ordP; rw [if_neg hc_11, if_pos hc_30]; unfold ordQ; rw [if_neg hd_39]), (fun j hj => (((hF39 j (by omega)).trans (hF30 j (by omega))).trans (hO14 j (by omega))))⟩
    · refine g_if_ne F (q := 36) (tgt := 38) (dk dX2_readOrder 17 rfl) (by decide) rfl (fun h => absurd h (by decide)) (fun _ => ?_)
      refine g_iconst F (q := 37) (v := 0) (dk dX2_readOrder 18 rfl) rfl (by decide) ?_
      have hc242 := (hO14 222 (by omega)).trans htpla
      have hc243 := (hO14 223 (by omega)).trans htti
      refine hret 0 E14 _ _ (dk dX2_readOrder 19 rfl) rfl ?_
      exact Or.inr ⟨rfl, _, _, _, _, _, hc119, hE14, hc242, hc243, (by unfold ordP; rw [if_neg hc_11, if_neg hc_30]), (fun j hj => (hO14 j (by omega)))⟩
theorem kv_X2_readOrder : KV yX2_readOrder "ThumpEars$OrderText" cX2_readOrder 1 (some .boolean) 0 := ⟨tq_591, tq_592, tq_13, tq_593, by decide +kernel⟩
abbrev rm_X2_read : Room := { frames := 3, cells := 0, slots := 0, locals := 61 }
set_option maxHeartbeats 4000000 in
set_option maxRecDepth 100000 in
theorem c_X2_read {l : Launch} {D : va_G} {cA : Nat → ClassId} {ad : Nat → Nat} {E : Nat → va_E} {ln : Nat} {od po nu : Int32} {txt ar pla ti re : Nat → Int32}  (h219 : E 219 = .inr (2, [.ref (ad 220), .int (nI ln), .ref (ad 221), .ref (ad 222), .ref (ad 223), .ref (ad 224), .int od, .int po, .int nu])) (httxt : E 220 = .inl (cA 3, 60, .inl txt)) (htar : E 221 = .inl (cA 2, 60, .inl ar)) (htpla : E 222 = .inl (cA 0, 60, .inl pla)) (htti : E 223 = .inl (cA 0, 60, .inl ti)) (htre : E 224 = .inl (cA 0, 60, .inl re))  (hln : ln ≤ 60) : CtI l D cA yX2_read cX2_read 2 .int rm_X2_read 235 ad E [.ref (ad 219)] (fun x E' => ∃ (n : Nat) (q : Nat) (nu2 : Int32) (ar2 : Nat → Int32) (pla2 : Nat → Int32) (ti2 : Nat → Int32) (re2 : Nat → Int32), E' 219 = .inr (2, [.ref (ad 220), .int (nI ln), .ref (ad 221), .ref (ad 222), .ref (ad 223), .ref (ad 224), .int (nI n), .int (nI q), .int nu2]) ∧ E' 221 = .inl (cA 2, 60, .inl ar2) ∧ E' 222 = .inl (cA 0, 60, .inl pla2) ∧ E' 223 = .inl (cA 0, 60, .inl ti2) ∧ E' 224 = .inl (cA 0, 60, .inl re2) ∧ (n ≤ 60) ∧ ((∃ q, x = nI q ∧ q ≤ 60 ∧ (prs txt ln 61 0).2 = some q) ∨ ((prs txt ln 61 0).2 = none ∧ x = -1 ∧ (prs txt ln 61 0).1.length = n ∧ oH (prs txt ln 61 0).1 ar2 pla2 ti2 re2)) ∧ ∀ j, (j ≠ 219 ∧ j ≠ 221 ∧ j ≠ 222 ∧ j ≠ 223 ∧ j ≠ 224) → E' j = E j) := by
  refine CtI.of (by decide +kernel) (Nat.le_of_ble_eq_true rfl) (fun X F hret => ?_)
  have F : Fr "ThumpEars$OrderText" cX2_read 2 D cA X := F
  refine (show GG rm_X2_read 2 l D X 0 0 235 ad E 0 [(0, .ref (ad 219))] [] from ?_)
  refine g_iconst F (q := 1) (v := 1) (dk dX2_read 0 rfl) rfl (by decide) ?_
  refine g_istore_n F (q := 2) (lv' := [(1, .int 1), (0, .ref (ad 219))]) (dk dX2_read 1 rfl) rfl rfl (Nat.le_of_ble_eq_true rfl) rfl ?_
  refine g_aload_n F (q := 3) (dk dX2_read 2 rfl) rfl rfl 1 rfl ?_
  refine g_iconst F (q := 4) (v := 0) (dk dX2_read 3 rfl) rfl (by decide) ?_
  refine g_putf F (q := 7) (ty := .int) h219 rfl inX2 tyX2 tyX2_ok nmX2 (by omega) (j := 7) (by decide) tq_161 rfl rfl (by decide +kernel) rfl rfl (Nat.le_of_ble_eq_true rfl) (dk dX2_read 4 rfl) rfl (fun E4 hE4 hO4 => ?_)
  have hE4 : E4 219 = .inr (2, [.ref (ad 220), .int (nI ln), .ref (ad 221), .ref (ad 222), .ref (ad 223), .ref (ad 224), .int od, .int 0, .int nu]) := hE4
  refine g_aload_n F (q := 8) (dk dX2_read 5 rfl) rfl rfl 1 rfl ?_
  refine g_iconst F (q := 9) (v := 0) (dk dX2_read 6 rfl) rfl (by decide) ?_
  refine g_putf F (q := 12) (ty := .int) hE4 rfl inX2 tyX2 tyX2_ok nmX2 (by omega) (j := 6) (by decide) tq_159 rfl rfl (by decide +kernel) rfl rfl (Nat.le_of_ble_eq_true rfl) (dk dX2_read 7 rfl) rfl (fun E9 hE9 hO9 => ?_)
  have hE9 : E9 219 = .inr (2, [.ref (ad 220), .int (nI ln), .ref (ad 221), .ref (ad 222), .ref (ad 223), .ref (ad 224), .int 0, .int 0, .int nu]) := hE9
  refine g_iload_n F (q := 13) (dk dX2_read 8 rfl) rfl rfl 0 rfl ?_
  refine g_if_eq F (q := 16) (tgt := 57) (dk dX2_read 9 rfl) (by decide) rfl (fun h => absurd h (by decide)) (fun _ => ?_)
  have K16 : ∀ (fu : Nat) (p : Nat) (n : Nat) (f : Nat) (pre : List Ord) (nu1 : Int32) (ar1 : Nat → Int32) (pla1 : Nat → Int32) (ti1 : Nat → Int32) (re1 : Nat → Int32) (E1 : Nat → va_E), f < fu → (h219 : E1 219 = .inr (2, [.ref (ad 220), .int (nI ln), .ref (ad 221), .ref (ad 222), .ref (ad 223), .ref (ad 224), .int (nI n), .int (nI p), .int nu1])) → (g21 : E1 221 = .inl (cA 2, 60, .inl ar1)) → (g22 : E1 222 = .inl (cA 0, 60, .inl pla1)) → (g23 : E1 223 = .inl (cA 0, 60, .inl ti1)) → (g24 : E1 224 = .inl (cA 0, 60, .inl re1)) → (hfr16 : ∀ j, (j ≠ 219 ∧ j ≠ 221 ∧ j ≠ 222 ∧ j ≠ 223 ∧ j ≠ 224) → E1 j = E9 j) → (hp : p ≤ ln) → (hf : ln - p < f) → (hnp : 2 * n ≤ p) → (hlen : pre.length = n) → (hP : (prs txt ln 61 0) = (pre ++ (prs txt ln f p).1, (prs txt ln f p).2)) → (hO : oH pre ar1 pla1 ti1 re1) → GG rm_X2_read 2 l D X 0 0 235 ad E1 16 [(0, .ref (ad 219)), (1, .int 1)] [] := by
    intro fu
    induction fu with
    | zero => intro p n f pre nu1 ar1 pla1 ti1 re1 E1 hfu_; exact absurd hfu_ (Nat.not_lt_zero _)
    | succ fu ih =>
      intro p n f pre nu1 ar1 pla1 ti1 re1 E1 hfu_ h219 g21 g22 g23 g24 hfr16 hp hf hnp hlen hP hO
      obtain ⟨g, rfl⟩ : ∃ g, f = g + 1 := ⟨f - 1, by omega⟩
      refine g_aload_n F (q := 17) (dk dX2_read 10 rfl) rfl rfl 0 rfl ?_
      refine g_getf F (q := 20) h219 rfl inX2 (by omega) (j := 6) (by decide) tq_159 rfl rfl (dk dX2_read 11 rfl) rfl ?_
      refine g_bipush F (q := 22) (v := 60) (dk dX2_read 12 rfl) rfl (by decide) ?_
      refine g_icmp_ge F (q := 25) (tgt := 57) (dk dX2_read 13 rfl) (by decide) rfl (fun c22 => absurd c22 (fun h => absurd ((nI_leI (a := 60) (b := n) (by omega) (by omega)).mp h) (by omega))) (fun c22 => ?_)
      have nc22 : ¬ 60 ≤ n := fun h => c22 ((nI_leI (a := 60) (b := n) (by omega) (by omega)).mpr h)
      refine g_aload_n F (q := 26) (dk dX2_read 14 rfl) rfl rfl 0 rfl ?_
      have hc1 := (hO4 220 (by omega)).trans httxt
      have hc2 := (hO9 220 (by omega)).trans hc1
      have hc3 := (hfr16 220 (by omega)).trans hc2
      refine g_callVI F (q := 29) (av := []) (st := []) (c_X2_readOrder h219 hc3 g21 g22 g23 g24 (by first | assumption | decide | omega) (by first | assumption | decide | omega) (by first | assumption | decide | omega)) kv_X2_readOrder tq_590 h219 rfl (by omega) ⟨rfl, rfl⟩ (by decide) ⟨Nat.le_refl _, Nat.le_refl _⟩ rfl rfl (Nat.le_of_ble_eq_true rfl) (dk dX2_read 15 rfl) rfl (fun r26 E26 hp26 => ?_)
      rcases hp26 with ⟨rfl, q_26, k_26, f_26, pl_26, t_26, c_26, nu2_26, hK219_26, hK221_26, hK222_26, hK223_26, hK224_26, ho_26, hf_26, hF26⟩ | ⟨rfl, q_26, nu2_26, ar2_26, pla2_26, ti2_26, hK219_26, hK221_26, hK222_26, hK223_26, ho_26, hF26⟩
      · have hos := ordP_s ho_26
        refine g_if_ne F (q := 32) (tgt := 37) (dk dX2_read 16 rfl) (by decide) rfl (fun _ => ?_) (fun h => absurd h (by decide))
        refine g_aload_n F (q := 38) (dk dX2_read 20 rfl) rfl rfl 0 rfl ?_
        refine g_dup F (q := 39) (dk dX2_read 21 rfl) rfl rfl ?_
        refine g_getf F (q := 42) hK219_26 rfl inX2 (by omega) (j := 6) (by decide) tq_159 rfl rfl (dk dX2_read 22 rfl) rfl ?_
        refine g_iconst F (q := 43) (v := 1) (dk dX2_read 23 rfl) rfl (by decide) ?_
        refine g_iadd F (q := 44) (dk dX2_read 24 rfl) rfl ?_
        refine g_sti (nA rfl rfl) ?_
        refine g_putf F (q := 47) (ty := .int) hK219_26 rfl inX2 tyX2 tyX2_ok nmX2 (by omega) (j := 6) (by decide) tq_159 rfl rfl (by decide +kernel) rfl rfl (Nat.le_of_ble_eq_true rfl) (dk dX2_read 25 rfl) rfl (fun E44 hE44 hO44 => ?_)
        have hE44 : E44 219 = .inr (2, [.ref (ad 220), .int (nI ln), .ref (ad 221), .ref (ad 222), .ref (ad 223), .ref (ad 224), .int (nI ((n + 1))), .int (nI q_26), .int nu2_26]) := hE44
        refine g_aload_n F (q := 48) (dk dX2_read 26 rfl) rfl rfl 0 rfl ?_
        refine g_bipush F (q := 50) (v := 59) (dk dX2_read 27 rfl) rfl (by decide) ?_
        have hc4 := (hF26 220 (by omega)).trans hc3
        have hc5 := (hO44 220 (by omega)).trans hc4
        refine g_callVI F (q := 53) (av := [.int 59]) (st := []) (c_X2_skips (ch := 59) hE44 hc5 (by first | assumption | decide | omega) (by first | omega | exact numP_le (by omega))) kv_X2_skips tq_594 hE44 rfl (by omega) ⟨rfl, rfl⟩ (by decide) ⟨Nat.le_refl _, Nat.le_refl _⟩ rfl rfl (Nat.le_of_ble_eq_true rfl) (dk dX2_read 28 rfl) rfl (fun r50 E50 hp50 => ?_)
        rcases hp50 with ⟨rfl, hK219_50, hc_50, hF50⟩ | ⟨rfl, hc_50, rfl⟩
        · refine g_istore_n F (q := 54) (lv' := [(1, .int 1), (0, .ref (ad 219))]) (dk dX2_read 29 rfl) rfl rfl (Nat.le_of_ble_eq_true rfl) rfl ?_
          refine g_goto F (tgt := 12) (dk dX2_read 30 rfl) (by decide) ?_
          refine g_iload_n F (q := 13) (dk dX2_read 8 rfl) rfl rfl 0 rfl ?_
          refine g_if_eq F (q := 16) (tgt := 57) (dk dX2_read 9 rfl) (by decide) rfl (fun h => absurd h (by decide)) (fun _ => ?_)
          refine g_lv (lv' := [(0, .ref (ad 219)), (1, .int 1)]) [1, 0] rfl ?_
          have hc6 := (hO44 221 (by omega)).trans hK221_26
          have hc7 := (hF50 221 (by omega)).trans hc6
          have hc8 := (hO44 222 (by omega)).trans hK222_26
          have hc9 := (hF50 222 (by omega)).trans hc8
          have hc10 := (hO44 223 (by omega)).trans hK223_26
          have hc11 := (hF50 223 (by omega)).trans hc10
          have hc12 := (hO44 224 (by omega)).trans hK224_26
          have hc13 := (hF50 224 (by omega)).trans hc12
          exact ih (q_26 + 1) (n + 1) g (pre ++ [(k_26, pl_26, t_26, c_26)]) nu2_26 (upd ar1 n f_26) (upd pla1 n pl_26) (upd ti1 n t_26) (upd re1 n c_26) E50 (by omega) hK219_50 hc7 hc9 hc11 hc13 (fun j hj => ((((hF50 j (by omega)).trans (hO44 j (by omega))).trans (hF26 j (by omega))).trans (hfr16 j (by omega)))) (by omega) (by omega) (by omega) (by simp [hlen]) (by rw [hP, prs_c ho_26 hc_50]; simp) (oH_t hO hlen hf_26)
        · refine g_istore_n F (q := 54) (lv' := [(1, .int 0), (0, .ref (ad 219))]) (dk dX2_read 29 rfl) rfl rfl (Nat.le_of_ble_eq_true rfl) rfl ?_
          refine g_goto F (tgt := 12) (dk dX2_read 30 rfl) (by decide) ?_
          refine g_iload_n F (q := 13) (dk dX2_read 8 rfl) rfl rfl 0 rfl ?_
          refine g_if_eq F (q := 16) (tgt := 57) (dk dX2_read 9 rfl) (by decide) rfl (fun _ => ?_) (fun h => absurd h (by decide))
          refine g_aload_n F (q := 58) (dk dX2_read 31 rfl) rfl rfl 1 rfl ?_
          refine g_getf F (q := 61) hE44 rfl inX2 (by omega) (j := 7) (by decide) tq_161 rfl rfl (dk dX2_read 32 rfl) rfl ?_
          refine g_aload_n F (q := 62) (dk dX2_read 33 rfl) rfl rfl 1 rfl ?_
          refine g_getf F (q := 65) hE44 rfl inX2 (by omega) (j := 1) (by decide) tq_149 rfl rfl (dk dX2_read 34 rfl) rfl ?_
          refine g_icmp_ge F (q := 68) (tgt := 75) (dk dX2_read 35 rfl) (by decide) rfl (fun c65 => ?_) (fun c65 => ?_)
          · have nc65 : ln ≤ q_26 := (nI_leI (a := ln) (b := q_26) (by omega) (by omega)).mp c65
            refine g_iconst F (q := 76) (v := (-1)) (dk dX2_read 39 rfl) rfl (by decide) ?_
            have hc14 := (hO44 221 (by omega)).trans hK221_26
            have hc15 := (hO44 222 (by omega)).trans hK222_26
            have hc16 := (hO44 223 (by omega)).trans hK223_26
            have hc17 := (hO44 224 (by omega)).trans hK224_26
            refine hret (-1) E44 _ _ (dk dX2_read 40 rfl) (nint _) ?_
            exact ⟨_, _, _, _, _, _, _, hE44, hc14, hc15, hc16, hc17, (by omega), (Or.inr ⟨by rw [hP, prs_e ho_26 hc_50]; exact if_neg (by omega), rfl, by rw [hP, prs_e ho_26 hc_50]; simp [hlen], by rw [hP, prs_e ho_26 hc_50]; exact oH_t hO hlen hf_26⟩), (fun j hj => (((((hO44 j (by omega)).trans (hF26 j (by omega))).trans (hfr16 j (by omega))).trans (hO9 j (by omega))).trans (hO4 j (by omega))))⟩
          · have nc65 : ¬ ln ≤ q_26 := fun h => c65 ((nI_leI (a := ln) (b := q_26) (by omega) (by omega)).mpr h)
            refine g_aload_n F (q := 69) (dk dX2_read 36 rfl) rfl rfl 1 rfl ?_
            refine g_getf F (q := 72) hE44 rfl inX2 (by omega) (j := 7) (by decide) tq_161 rfl rfl (dk dX2_read 37 rfl) rfl ?_
            refine g_goto F (tgt := 76) (dk dX2_read 38 rfl) (by decide) ?_
            have hc18 := (hO44 221 (by omega)).trans hK221_26
            have hc19 := (hO44 222 (by omega)).trans hK222_26
            have hc20 := (hO44 223 (by omega)).trans hK223_26
            have hc21 := (hO44 224 (by omega)).trans hK224_26
            refine hret (nI q_26) E44 _ _ (dk dX2_read 40 rfl) (nint _) ?_
            exact ⟨_, _, _, _, _, _, _, hE44, hc18, hc19, hc20, hc21, (by omega), (Or.inl ⟨q_26, rfl, by omega, by rw [hP, prs_e ho_26 hc_50]; exact if_pos (by omega)⟩), (fun j hj => (((((hO44 j (by omega)).trans (hF26 j (by omega))).trans (hfr16 j (by omega))).trans (hO9 j (by omega))).trans (hO4 j (by omega))))⟩
      · refine g_if_ne F (q := 32) (tgt := 37) (dk dX2_read 16 rfl) (by decide) rfl (fun h => absurd h (by decide)) (fun _ => ?_)
        refine g_aload_n F (q := 33) (dk dX2_read 17 rfl) rfl rfl 0 rfl ?_
        refine g_getf F (q := 36) hK219_26 rfl inX2 (by omega) (j := 7) (by decide) tq_161 rfl rfl (dk dX2_read 18 rfl) rfl ?_
        have hc22 := (hF26 224 (by omega)).trans g24
        refine hret (nI q_26) E26 _ _ (dk dX2_read 19 rfl) (nint _) ?_
        exact ⟨_, _, _, _, _, _, _, hK219_26, hK221_26, hK222_26, hK223_26, hc22, (by omega), (Or.inl ⟨q_26, rfl, by have := ordP_nl hp ho_26; omega, by rw [hP, prs_n ho_26]⟩), (fun j hj => ((((hF26 j (by omega)).trans (hfr16 j (by omega))).trans (hO9 j (by omega))).trans (hO4 j (by omega))))⟩
  refine g_lv (lv' := [(0, .ref (ad 219)), (1, .int 1)]) [1, 0] rfl ?_
  have hc23 := (hO4 221 (by omega)).trans htar
  have hc24 := (hO9 221 (by omega)).trans hc23
  have hc25 := (hO4 222 (by omega)).trans htpla
  have hc26 := (hO9 222 (by omega)).trans hc25
  have hc27 := (hO4 223 (by omega)).trans htti
  have hc28 := (hO9 223 (by omega)).trans hc27
  have hc29 := (hO4 224 (by omega)).trans htre
  have hc30 := (hO9 224 (by omega)).trans hc29
  exact K16 _ 0 0 61 ([]) nu ar pla ti re E9 (Nat.lt_succ_self _) hE9 hc24 hc26 hc28 hc30 (fun j _ => rfl) (by omega) (by omega) (by omega) rfl (by simp) oH_0
theorem kv_X2_read : KV yX2_read "ThumpEars$OrderText" cX2_read 2 (some .int) 0 := ⟨tq_587, tq_588, tq_13, tq_589, by decide +kernel⟩
