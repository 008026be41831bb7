abbrev rm_X7_set : Room := { frames := 2, cells := 0, slots := 0, locals := 41 }
set_option maxHeartbeats 4000000 in
set_option maxRecDepth 100000 in
theorem c_X7_set {l : Launch} {D : va_G} {cA : Nat → ClassId} {ad : Nat → Nat} {E : Nat → va_E} {nh : Nat} {s1 s2 s3 s4 s5 : Int32} {lo mo : Int64} {r past bef : Nat → Int32} {what value : Int32} (h233 : E 233 = .inr (7, [.ref (ad 234), .ref (ad 235), .ref (ad 236), .ref (ad 237), .int (nI nh), .int s1, .ref (ad 238), .int s2, .int s3, .int s4, .int s5, .ref (ad 239), .ref (ad 240), .ref (ad 241), .long lo, .long mo, .ref (ad 242)])) (h234 : E 234 = .inl (cA 0, 346, .inl r)) (h235 : E 235 = .inl (cA 0, 1384, .inl past)) (h237 : E 237 = .inl (cA 0, 346, .inl bef))  (hnh : nh ≤ 4) : CtI l D cA yX7_set cX7_set 4 .int rm_X7_set 243 ad E [.ref (ad 233), .int what, .int value] (fun x E' => ∃ (f : Nat → Int32) (q : Nat → Int32) (g : Nat → Int32) (n2 : Nat), (sSet r what value).1 = x ∧ E' 233 = .inr (7, [.ref (ad 234), .ref (ad 235), .ref (ad 236), .ref (ad 237), .int (nI n2), .int s1, .ref (ad 238), .int s2, .int s3, .int s4, .int s5, .ref (ad 239), .ref (ad 240), .ref (ad 241), .long lo, .long mo, .ref (ad 242)]) ∧ E' 234 = .inl (cA 0, 346, .inl f) ∧ E' 235 = .inl (cA 0, 1384, .inl q) ∧ E' 237 = .inl (cA 0, 346, .inl g) ∧ (NX ((sSet r what value).2) r past nh f q n2) ∧ ∀ j, (j ≠ 233 ∧ j ≠ 234 ∧ j ≠ 235 ∧ j ≠ 237) → E' j = E j) := by
  refine CtI.of (by decide +kernel) (Nat.le_of_ble_eq_true rfl) (fun X F hret => ?_)
  have F : Fr "ThumpEarsModel" cX7_set 4 D cA X := F
  refine (show GG rm_X7_set 4 l D X 0 0 243 ad E 0 [(0, .ref (ad 233)), (1, .int what), (2, .int value)] [] from ?_)
  refine g_iload_n F (q := 1) (dk dX7_set 0 rfl) rfl rfl 1 rfl ?_
  refine g_iconst F (q := 2) (v := 0) (dk dX7_set 1 rfl) rfl (by decide) ?_
  refine g_iconst F (q := 3) (v := 1) (dk dX7_set 2 rfl) rfl (by decide) ?_
  refine g_callSI F (q := 6) (av := [.int what, .int 0, .int 1]) (st := []) (c_X7_in (v := what) (a := 0) (b := 1)) ks_X7_in tq_707 ⟨rfl, rfl⟩ (by decide) ⟨Nat.le_refl _, Nat.le_refl _⟩ rfl rfl (Nat.le_of_ble_eq_true rfl) (dk dX7_set 3 rfl) rfl (fun r3 E3 hp3 => ?_)
  rcases hp3 with ⟨rfl, rfl, b3⟩ | ⟨rfl, rfl, b3⟩
  · rcases in01 b3 with rfl | rfl
    · refine g_if_eq F (q := 9) (tgt := 37) (dk dX7_set 4 rfl) (by decide) rfl (fun h => absurd h (by decide)) (fun _ => ?_)
      refine g_iload_n F (q := 10) (dk dX7_set 5 rfl) rfl rfl 2 rfl ?_
      refine g_iload_n F (q := 11) (dk dX7_set 6 rfl) rfl rfl 1 rfl ?_
      refine g_if_ne F (q := 14) (tgt := 18) (dk dX7_set 7 rfl) (by decide) rfl (fun h => absurd h (by decide)) (fun _ => ?_)
      refine g_iconst F (q := 15) (v := 1) (dk dX7_set 8 rfl) rfl (by decide) ?_
      refine g_goto F (tgt := 19) (dk dX7_set 9 rfl) (by decide) ?_
      refine g_iload_n F (q := 20) (dk dX7_set 11 rfl) rfl rfl 1 rfl ?_
      refine g_if_ne F (q := 23) (tgt := 28) (dk dX7_set 12 rfl) (by decide) rfl (fun h => absurd h (by decide)) (fun _ => ?_)
      refine g_bipush F (q := 25) (v := 20) (dk dX7_set 13 rfl) rfl (by decide) ?_
      refine g_goto F (tgt := 31) (dk dX7_set 14 rfl) (by decide) ?_
      refine g_callSI F (q := 34) (av := [.int value, .int 1, .int 20]) (st := []) (c_X7_in (v := value) (a := 1) (b := 20)) ks_X7_in tq_707 ⟨rfl, rfl⟩ (by decide) ⟨Nat.le_refl _, Nat.le_refl _⟩ rfl rfl (Nat.le_of_ble_eq_true rfl) (dk dX7_set 16 rfl) rfl (fun r31 E31 hp31 => ?_)
      rcases hp31 with ⟨rfl, rfl, b31⟩ | ⟨rfl, rfl, b31⟩
      · refine g_if_ne F (q := 37) (tgt := 40) (dk dX7_set 17 rfl) (by decide) rfl (fun _ => ?_) (fun h => absurd h (by decide))
        refine g_aload_n F (q := 41) (dk dX7_set 20 rfl) rfl rfl 0 rfl ?_
        refine g_getf F (q := 44) h233 rfl inX7 (by omega) (j := 0) (by decide) tq_623 rfl rfl (dk dX7_set 21 rfl) rfl ?_
        refine g_iconst F (q := 45) (v := 3) (dk dX7_set 22 rfl) rfl (by decide) ?_
        refine g_iload_n F (q := 46) (dk dX7_set 23 rfl) rfl rfl 1 rfl ?_
        refine g_iadd F (q := 47) (dk dX7_set 24 rfl) rfl ?_
        refine g_iald F (q := 48) ((3 + 0)) h234 (by omega) (nA rfl rfl) (by omega) (by decide) (dk dX7_set 25 rfl) rfl ?_
        refine g_istore_n F (q := 49) (lv' := [(3, .int (r ((3 + 0)))), (0, .ref (ad 233)), (1, .int 0), (2, .int value)]) (dk dX7_set 26 rfl) rfl rfl (Nat.le_of_ble_eq_true rfl) rfl ?_
        refine g_iload_n F (q := 50) (dk dX7_set 27 rfl) rfl rfl 0 rfl ?_
        refine g_iload_n F (q := 51) (dk dX7_set 28 rfl) rfl rfl 3 rfl ?_
        refine g_icmp_ne F (q := 54) (tgt := 57) (dk dX7_set 29 rfl) (by decide) rfl (fun c51 => ?_) (fun c51 => ?_)
        · refine g_aload_n F (q := 58) (dk dX7_set 32 rfl) rfl rfl 1 rfl ?_
          refine g_callVV F (q := 61) (av := []) (st := []) (c_X7_open h233 h234 h235 h237 (by first | assumption | decide | omega)) kv_X7_open tq_691 h233 rfl (by omega) ⟨rfl, rfl⟩ (by decide) ⟨Nat.le_refl _, Nat.le_refl _⟩ rfl rfl (Nat.le_of_ble_eq_true rfl) (dk dX7_set 33 rfl) rfl (fun E58 hp58 => ?_)
          obtain ⟨q_58, g_58, hK233_58, hK235_58, hK237_58, hp_58, hF58⟩ := hp58
          refine g_aload_n F (q := 62) (dk dX7_set 34 rfl) rfl rfl 1 rfl ?_
          refine g_getf F (q := 65) hK233_58 rfl inX7 (by omega) (j := 0) (by decide) tq_623 rfl rfl (dk dX7_set 35 rfl) rfl ?_
          refine g_iconst F (q := 66) (v := 3) (dk dX7_set 36 rfl) rfl (by decide) ?_
          refine g_iload_n F (q := 67) (dk dX7_set 37 rfl) rfl rfl 2 rfl ?_
          refine g_iadd F (q := 68) (dk dX7_set 38 rfl) rfl ?_
          refine g_iload_n F (q := 69) (dk dX7_set 39 rfl) rfl rfl 3 rfl ?_
          have hc1 := (hF58 234 (by omega)).trans h234
          refine g_iast F (q := 70) ((3 + 0)) hc1 (by omega) (nA rfl rfl) (by omega) (by decide) (dk dX7_set 40 rfl) rfl (fun E69 hE69 hO69 => ?_)
          refine g_iload_n F (q := 71) (dk dX7_set 41 rfl) rfl rfl 0 rfl ?_
          have hs : sSet r 0 value = ((r 3), some (upd r 3 value)) := by unfold sSet; rw [if_pos rfl, if_pos b31, if_neg c51]
          have hc2 := (hO69 233 (by omega)).trans hK233_58
          have hc3 := (hO69 235 (by omega)).trans hK235_58
          have hc4 := (hO69 237 (by omega)).trans hK237_58
          refine hret (r ((3 + 0))) E69 _ _ (dk dX7_set 42 rfl) (nint _) ?_
          exact ⟨(upd r ((3 + 0)) value), q_58, g_58, (nup nh), (by rw [hs]), hc2, hE69, hc3, hc4, (by rw [hs]; exact ⟨rfl, eqN.rf, hp_58⟩), (fun j hj => ((hO69 j (by omega)).trans (hF58 j (by omega))))⟩
        · refine g_bipush F (q := 56) (v := (-5)) (dk dX7_set 30 rfl) rfl (by decide) ?_
          have hs : sSet r 0 value = (-5, none) := by unfold sSet; rw [if_pos rfl, if_pos b31, if_pos c51]
          refine hret (-5) E _ _ (dk dX7_set 31 rfl) (nint _) ?_
          exact ⟨r, past, bef, nh, (by rw [hs]), h233, h234, h235, h237, (by rw [hs]; exact NX.nil), (fun j _ => rfl)⟩
      · refine g_if_ne F (q := 37) (tgt := 40) (dk dX7_set 17 rfl) (by decide) rfl (fun h => absurd h (by decide)) (fun _ => ?_)
        refine g_bipush F (q := 39) (v := (-2)) (dk dX7_set 18 rfl) rfl (by decide) ?_
        have hs : sSet r 0 value = (-2, none) := by unfold sSet; rw [if_pos rfl, if_neg b31]
        refine hret (-2) E _ _ (dk dX7_set 19 rfl) (nint _) ?_
        exact ⟨r, past, bef, nh, (by rw [hs]), h233, h234, h235, h237, (by rw [hs]; exact NX.nil), (fun j _ => rfl)⟩
    · refine g_if_eq F (q := 9) (tgt := 37) (dk dX7_set 4 rfl) (by decide) rfl (fun h => absurd h (by decide)) (fun _ => ?_)
      refine g_iload_n F (q := 10) (dk dX7_set 5 rfl) rfl rfl 2 rfl ?_
      refine g_iload_n F (q := 11) (dk dX7_set 6 rfl) rfl rfl 1 rfl ?_
      refine g_if_ne F (q := 14) (tgt := 18) (dk dX7_set 7 rfl) (by decide) rfl (fun _ => ?_) (fun h => absurd h (by decide))
      refine g_iconst F (q := 19) (v := 0) (dk dX7_set 10 rfl) rfl (by decide) ?_
      refine g_iload_n F (q := 20) (dk dX7_set 11 rfl) rfl rfl 1 rfl ?_
      refine g_if_ne F (q := 23) (tgt := 28) (dk dX7_set 12 rfl) (by decide) rfl (fun _ => ?_) (fun h => absurd h (by decide))
      refine g_sipush F (q := 31) (v := 500) (dk dX7_set 15 rfl) rfl (by decide) ?_
      refine g_callSI F (q := 34) (av := [.int value, .int 0, .int 500]) (st := []) (c_X7_in (v := value) (a := 0) (b := 500)) ks_X7_in tq_707 ⟨rfl, rfl⟩ (by decide) ⟨Nat.le_refl _, Nat.le_refl _⟩ rfl rfl (Nat.le_of_ble_eq_true rfl) (dk dX7_set 16 rfl) rfl (fun r31 E31 hp31 => ?_)
      rcases hp31 with ⟨rfl, rfl, b31⟩ | ⟨rfl, rfl, b31⟩
      · refine g_if_ne F (q := 37) (tgt := 40) (dk dX7_set 17 rfl) (by decide) rfl (fun _ => ?_) (fun h => absurd h (by decide))
        refine g_aload_n F (q := 41) (dk dX7_set 20 rfl) rfl rfl 0 rfl ?_
        refine g_getf F (q := 44) h233 rfl inX7 (by omega) (j := 0) (by decide) tq_623 rfl rfl (dk dX7_set 21 rfl) rfl ?_
        refine g_iconst F (q := 45) (v := 3) (dk dX7_set 22 rfl) rfl (by decide) ?_
        refine g_iload_n F (q := 46) (dk dX7_set 23 rfl) rfl rfl 1 rfl ?_
        refine g_iadd F (q := 47) (dk dX7_set 24 rfl) rfl ?_
        refine g_iald F (q := 48) ((3 + 1)) h234 (by omega) (nA rfl rfl) (by omega) (by decide) (dk dX7_set 25 rfl) rfl ?_
        refine g_istore_n F (q := 49) (lv' := [(3, .int (r ((3 + 1)))), (0, .ref (ad 233)), (1, .int 1), (2, .int value)]) (dk dX7_set 26 rfl) rfl rfl (Nat.le_of_ble_eq_true rfl) rfl ?_
        refine g_iload_n F (q := 50) (dk dX7_set 27 rfl) rfl rfl 0 rfl ?_
        refine g_iload_n F (q := 51) (dk dX7_set 28 rfl) rfl rfl 3 rfl ?_
        refine g_icmp_ne F (q := 54) (tgt := 57) (dk dX7_set 29 rfl) (by decide) rfl (fun c51 => ?_) (fun c51 => ?_)
        · refine g_aload_n F (q := 58) (dk dX7_set 32 rfl) rfl rfl 1 rfl ?_
          refine g_callVV F (q := 61) (av := []) (st := []) (c_X7_open h233 h234 h235 h237 (by first | assumption | decide | omega)) kv_X7_open tq_691 h233 rfl (by omega) ⟨rfl, rfl⟩ (by decide) ⟨Nat.le_refl _, Nat.le_refl _⟩ rfl rfl (Nat.le_of_ble_eq_true rfl) (dk dX7_set 33 rfl) rfl (fun E58 hp58 => ?_)
          obtain ⟨q_58, g_58, hK233_58, hK235_58, hK237_58, hp_58, hF58⟩ := hp58
          refine g_aload_n F (q := 62) (dk dX7_set 34 rfl) rfl rfl 1 rfl ?_
          refine g_getf F (q := 65) hK233_58 rfl inX7 (by omega) (j := 0) (by decide) tq_623 rfl rfl (dk dX7_set 35 rfl) rfl ?_
          refine g_iconst F (q := 66) (v := 3) (dk dX7_set 36 rfl) rfl (by decide) ?_
          refine g_iload_n F (q := 67) (dk dX7_set 37 rfl) rfl rfl 2 rfl ?_
          refine g_iadd F (q := 68) (dk dX7_set 38 rfl) rfl ?_
          refine g_iload_n F (q := 69) (dk dX7_set 39 rfl) rfl rfl 3 rfl ?_
          have hc5 := (hF58 234 (by omega)).trans h234
          refine g_iast F (q := 70) ((3 + 1)) hc5 (by omega) (nA rfl rfl) (by omega) (by decide) (dk dX7_set 40 rfl) rfl (fun E69 hE69 hO69 => ?_)
          refine g_iload_n F (q := 71) (dk dX7_set 41 rfl) rfl rfl 0 rfl ?_
          have hs : sSet r 1 value = ((r 4), some (upd r 4 value)) := by unfold sSet; rw [if_neg (by decide), if_pos rfl, if_pos b31, if_neg c51]
          have hc6 := (hO69 233 (by omega)).trans hK233_58
          have hc7 := (hO69 235 (by omega)).trans hK235_58
          have hc8 := (hO69 237 (by omega)).trans hK237_58
          refine hret (r ((3 + 1))) E69 _ _ (dk dX7_set 42 rfl) (nint _) ?_
          exact ⟨(upd r ((3 + 1)) value), q_58, g_58, (nup nh), (by rw [hs]), hc6, hE69, hc7, hc8, (by rw [hs]; exact ⟨rfl, eqN.rf, hp_58⟩), (fun j hj => ((hO69 j (by omega)).trans (hF58 j (by omega))))⟩
        · refine g_bipush F (q := 56) (v := (-5)) (dk dX7_set 30 rfl) rfl (by decide) ?_
          have hs : sSet r 1 value = (-5, none) := by unfold sSet; rw [if_neg (by decide), if_pos rfl, if_pos b31, if_pos c51]
          refine hret (-5) E _ _ (dk dX7_set 31 rfl) (nint _) ?_
          exact ⟨r, past, bef, nh, (by rw [hs]), h233, h234, h235, h237, (by rw [hs]; exact NX.nil), (fun j _ => rfl)⟩
      · refine g_if_ne F (q := 37) (tgt := 40) (dk dX7_set 17 rfl) (by decide) rfl (fun h => absurd h (by decide)) (fun _ => ?_)
        refine g_bipush F (q := 39) (v := (-2)) (dk dX7_set 18 rfl) rfl (by decide) ?_
        have hs : sSet r 1 value = (-2, none) := by unfold sSet; rw [if_neg (by decide), if_pos rfl, if_neg b31]
        refine hret (-2) E _ _ (dk dX7_set 19 rfl) (nint _) ?_
        exact ⟨r, past, bef, nh, (by rw [hs]), h233, h234, h235, h237, (by rw [hs]; exact NX.nil), (fun j _ => rfl)⟩
  · refine g_if_eq F (q := 9) (tgt := 37) (dk dX7_set 4 rfl) (by decide) rfl (fun _ => ?_) (fun h => absurd h (by decide))
    refine g_bipush F (q := 39) (v := (-2)) (dk dX7_set 18 rfl) rfl (by decide) ?_
    have hs : sSet r what value = (-2, none) := by unfold sSet; rw [if_neg (fun h => b3 (by rw [h]; decide)), if_neg (fun h => b3 (by rw [h]; decide))]
    refine hret (-2) E _ _ (dk dX7_set 19 rfl) (nint _) ?_
    exact ⟨r, past, bef, nh, (by rw [hs]), h233, h234, h235, h237, (by rw [hs]; exact NX.nil), (fun j _ => rfl)⟩
theorem kv_X7_set : KV yX7_set "ThumpEarsModel" cX7_set 4 (some .int) 2 := ⟨tq_731, tq_732, tq_47, tq_733, by decide +kernel⟩
abbrev rm_X7_reads : Room := { frames := 1, cells := 0, slots := 0, locals := 25 }
set_option maxHeartbeats 4000000 in
set_option maxRecDepth 100000 in
theorem c_X7_reads {l : Launch} {D : va_G} {cA : Nat → ClassId} {ad : Nat → Nat} {E : Nat → va_E} {s0 s1 s2 s3 s4 s5 : Int32} {lo mo : Int64} {r : Nat → Int32} {e : Nat} {t : Int32} (h233 : E 233 = .inr (7, [.ref (ad 234), .ref (ad 235), .ref (ad 236), .ref (ad 237), .int s0, .int s1, .ref (ad 238), .int s2, .int s3, .int s4, .int s5, .ref (ad 239), .ref (ad 240), .ref (ad 241), .long lo, .long mo, .ref (ad 242)])) (h234 : E 234 = .inl (cA 0, 346, .inl r))  (he : e < 10) : CtI l D cA yX7_reads cX7_reads 3 .int rm_X7_reads 243 ad E [.ref (ad 233), .int (nI e), .int t] (fun x E' => (rdc r e t) = x ∧ E = E') := by
  refine CtI.of (by decide +kernel) (Nat.le_of_ble_eq_true rfl) (fun X F hret => ?_)
  have F : Fr "ThumpEarsModel" cX7_reads 3 D cA X := F
  refine (show GG rm_X7_reads 3 l D X 0 0 243 ad E 0 [(0, .ref (ad 233)), (1, .int (nI e)), (2, .int t)] [] from ?_)
  refine g_iload_n F (q := 1) (dk dX7_reads 0 rfl) rfl rfl 2 rfl ?_
  refine g_aload_n F (q := 2) (dk dX7_reads 1 rfl) rfl rfl 0 rfl ?_
  refine g_iload_n F (q := 3) (dk dX7_reads 2 rfl) rfl rfl 1 rfl ?_
  refine g_iconst F (q := 4) (v := 2) (dk dX7_reads 3 rfl) rfl (by decide) ?_
  refine g_callVI F (q := 7) (av := [.int (nI e), .int 2]) (st := [.int t]) (c_X7_of (e := e) (w := 2) h233 h234 (by first | assumption | decide | omega)) kv_X7_of tq_718 h233 rfl (by omega) ⟨rfl, rfl⟩ (by decide) ⟨Nat.le_refl _, Nat.le_refl _⟩ rfl rfl (Nat.le_of_ble_eq_true rfl) (dk dX7_reads 4 rfl) rfl (fun r4 E4 hp4 => ?_)
  obtain ⟨rfl, rfl⟩ := hp4
  refine g_iadd F (q := 8) (dk dX7_reads 5 rfl) rfl ?_
  refine g_aload_n F (q := 9) (dk dX7_reads 6 rfl) rfl rfl 0 rfl ?_
  refine g_iload_n F (q := 10) (dk dX7_reads 7 rfl) rfl rfl 1 rfl ?_
  refine g_iconst F (q := 11) (v := 3) (dk dX7_reads 8 rfl) rfl (by decide) ?_
  refine g_callVI F (q := 14) (av := [.int (nI e), .int 3]) (st := [.int (t + (r (6 + 4 * e + 2)))]) (c_X7_of (e := e) (w := 3) h233 h234 (by first | assumption | decide | omega)) kv_X7_of tq_718 h233 rfl (by omega) ⟨rfl, rfl⟩ (by decide) ⟨Nat.le_refl _, Nat.le_refl _⟩ rfl rfl (Nat.le_of_ble_eq_true rfl) (dk dX7_reads 9 rfl) rfl (fun r11 E11 hp11 => ?_)
  obtain ⟨rfl, rfl⟩ := hp11
  refine g_i2l F (q := 15) (dk dX7_reads 10 rfl) rfl ?_
  refine g_iload_n F (q := 16) (dk dX7_reads 11 rfl) rfl rfl 2 rfl ?_
  refine g_i2l F (q := 17) (dk dX7_reads 12 rfl) rfl ?_
  refine g_lmul F (q := 18) (dk dX7_reads 13 rfl) rfl ?_
  refine g_ldc2 F (q := 21) (v := 10000) (dk dX7_reads 14 rfl) rfl tq_754 ?_
  refine g_callSL F (q := 24) (av := [.long ((r (6 + 4 * e + 3)).toInt64 * t.toInt64), .long 10000]) (st := [.int (t + (r (6 + 4 * e + 2)))]) (c_X7_down (a := ((r (6 + 4 * e + 3)).toInt64 * t.toInt64)) (b := 10000) (by first | assumption | decide | omega)) ks_X7_down tq_755 ⟨rfl, rfl⟩ (by decide) ⟨Nat.le_refl _, Nat.le_refl _⟩ rfl rfl (Nat.le_of_ble_eq_true rfl) (dk dX7_reads 15 rfl) rfl (fun r21 E21 hp21 => ?_)
  obtain ⟨rfl, rfl⟩ := hp21
  refine g_l2i F (q := 25) (dk dX7_reads 16 rfl) rfl ?_
  refine g_iadd F (q := 26) (dk dX7_reads 17 rfl) rfl ?_
  refine hret ((t + (r (6 + 4 * e + 2))) + (dn ((r (6 + 4 * e + 3)).toInt64 * t.toInt64) 10000).toInt32) E _ _ (dk dX7_reads 18 rfl) (nint _) ?_
  exact ⟨rfl, rfl⟩
theorem kv_X7_reads : KV yX7_reads "ThumpEarsModel" cX7_reads 3 (some .int) 2 := ⟨tq_752, tq_17, tq_47, tq_753, by decide +kernel⟩
abbrev rm_X7_make : Room := { frames := 2, cells := 0, slots := 0, locals := 47 }
set_option maxHeartbeats 4000000 in
set_option maxRecDepth 100000 in
theorem c_X7_make {l : Launch} {D : va_G} {cA : Nat → ClassId} {ad : Nat → Nat} {E : Nat → va_E} {s0 s1 s2 s3 s4 s5 : Int32} {lo mo : Int64} {r : Nat → Int32} {ne k m : Nat} {p t c : Int32} (h233 : E 233 = .inr (7, [.ref (ad 234), .ref (ad 235), .ref (ad 236), .ref (ad 237), .int s0, .int s1, .ref (ad 238), .int s2, .int s3, .int s4, .int s5, .ref (ad 239), .ref (ad 240), .ref (ad 241), .long lo, .long mo, .ref (ad 242)])) (h234 : E 234 = .inl (cA 0, 346, .inl r))  (hk : k < 2) (h0 : r 0 = nI ne) (hne : ne ≤ 10) (hm : r (1 + k) = nI m) (hm10 : m ≤ 10) : CtI l D cA yX7_make cX7_make 11 .int rm_X7_make 243 ad E [.ref (ad 233), .int (nI k), .int p, .int t, .int c] (fun x E' => (mkS r ne k m p t c).1 = x ∧ E' 234 = .inl (cA 0, 346, .inl (mkS r ne k m p t c).2) ∧ ∀ j, (j ≠ 234) → E' j = E j) := by
  refine CtI.of (by decide +kernel) (Nat.le_of_ble_eq_true rfl) (fun X F hret => ?_)
  have F : Fr "ThumpEarsModel" cX7_make 11 D cA X := F
  refine (show GG rm_X7_make 11 l D X 0 0 243 ad E 0 [(0, .ref (ad 233)), (1, .int (nI k)), (2, .int p), (3, .int t), (4, .int c)] [] from ?_)
  refine g_iload_n F (q := 1) (dk dX7_make_0 0 rfl) rfl rfl 2 rfl ?_
  refine g_iconst F (q := 2) (v := 0) (dk dX7_make_0 1 rfl) rfl (by decide) ?_
  refine g_sipush F (q := 5) (v := 1000) (dk dX7_make_0 2 rfl) rfl (by decide) ?_
  refine g_callSI F (q := 8) (av := [.int p, .int 0, .int 1000]) (st := []) (c_X7_in (v := p) (a := 0) (b := 1000)) ks_X7_in tq_707 ⟨rfl, rfl⟩ (by decide) ⟨Nat.le_refl _, Nat.le_refl _⟩ rfl rfl (Nat.le_of_ble_eq_true rfl) (dk dX7_make_0 3 rfl) rfl (fun r5 E5 hp5 => ?_)
  rcases hp5 with ⟨rfl, rfl, b5⟩ | ⟨rfl, rfl, b5⟩
  · refine g_if_eq F (q := 11) (tgt := 33) (dk dX7_make_0 4 rfl) (by decide) rfl (fun h => absurd h (by decide)) (fun _ => ?_)
    refine g_iload_n F (q := 12) (dk dX7_make_0 5 rfl) rfl rfl 3 rfl ?_
    refine g_iconst F (q := 13) (v := 0) (dk dX7_make_0 6 rfl) rfl (by decide) ?_
    refine g_ldc F (q := 15) (v := 100000) (dk dX7_make_0 7 rfl) rfl tq_746 ?_
    refine g_callSI F (q := 18) (av := [.int t, .int 0, .int 100000]) (st := []) (c_X7_in (v := t) (a := 0) (b := 100000)) ks_X7_in tq_707 ⟨rfl, rfl⟩ (by decide) ⟨Nat.le_refl _, Nat.le_refl _⟩ rfl rfl (Nat.le_of_ble_eq_true rfl) (dk dX7_make_0 8 rfl) rfl (fun r15 E15 hp15 => ?_)
    rcases hp15 with ⟨rfl, rfl, b15⟩ | ⟨rfl, rfl, b15⟩
    · refine g_if_eq F (q := 21) (tgt := 33) (dk dX7_make_0 9 rfl) (by decide) rfl (fun h => absurd h (by decide)) (fun _ => ?_)
      refine g_iload F (q := 23) (dk dX7_make_0 10 rfl) rfl 4 rfl ?_
      refine g_iconst F (q := 24) (v := 1) (dk dX7_make_0 11 rfl) rfl (by decide) ?_
      refine g_sipush F (q := 27) (v := 1000) (dk dX7_make_0 12 rfl) rfl (by decide) ?_
      refine g_callSI F (q := 30) (av := [.int c, .int 1, .int 1000]) (st := []) (c_X7_in (v := c) (a := 1) (b := 1000)) ks_X7_in tq_707 ⟨rfl, rfl⟩ (by decide) ⟨Nat.le_refl _, Nat.le_refl _⟩ rfl rfl (Nat.le_of_ble_eq_true rfl) (dk dX7_make_0 13 rfl) rfl (fun r27 E27 hp27 => ?_)
      rcases hp27 with ⟨rfl, rfl, b27⟩ | ⟨rfl, rfl, b27⟩
      · refine g_if_ne F (q := 33) (tgt := 36) (dk dX7_make_0 14 rfl) (by decide) rfl (fun _ => ?_) (fun h => absurd h (by decide))
        refine g_iload_n F (q := 37) (dk dX7_make_0 17 rfl) rfl rfl 3 rfl ?_
        refine g_aload_n F (q := 38) (dk dX7_make_0 18 rfl) rfl rfl 0 rfl ?_
        refine g_getf F (q := 41) h233 rfl inX7 (by omega) (j := 0) (by decide) tq_623 rfl rfl (dk dX7_make_0 19 rfl) rfl ?_
        refine g_iconst F (q := 42) (v := 5) (dk dX7_make_0 20 rfl) rfl (by decide) ?_
        refine g_iald F (q := 43) 5 h234 (by omega) rfl (by omega) (by decide) (dk dX7_make_0 21 rfl) rfl ?_
        refine g_icmp_ge F (q := 46) (tgt := 49) (dk dX7_make_0 22 rfl) (by decide) rfl (fun c43 => ?_) (fun c43 => ?_)
        · refine g_aload_n F (q := 50) (dk dX7_make_0 25 rfl) rfl rfl 0 rfl ?_
          refine g_getf F (q := 53) h233 rfl inX7 (by omega) (j := 0) (by decide) tq_623 rfl rfl (dk dX7_make_0 26 rfl) rfl ?_
          refine g_iconst F (q := 54) (v := 1) (dk dX7_make_0 27 rfl) rfl (by decide) ?_
          refine g_iload_n F (q := 55) (dk dX7_make_0 28 rfl) rfl rfl 1 rfl ?_
          refine g_iadd F (q := 56) (dk dX7_make_0 29 rfl) rfl ?_
          refine g_iald F (q := 57) ((1 + k)) h234 (by omega) (nA rfl rfl) (by omega) (by decide) (dk dX7_make_0 30 rfl) rfl ?_
          refine g_sti (y := (nI m)) hm ?_
          refine g_istore F (q := 59) (lv' := [(5, .int (nI m)), (0, .ref (ad 233)), (1, .int (nI k)), (2, .int p), (3, .int t), (4, .int c)]) (dk dX7_make_0 31 rfl) rfl (Nat.le_of_ble_eq_true rfl) rfl ?_
          refine g_iload F (q := 61) (dk dX7_make_0 32 rfl) rfl 0 rfl ?_
          refine g_bipush F (q := 63) (v := 10) (dk dX7_make_0 33 rfl) rfl (by decide) ?_
          refine g_icmp_ne F (q := 66) (tgt := 69) (dk dX7_make_0 34 rfl) (by decide) rfl (fun c63 => ?_) (fun c63 => ?_)
          · have nc63 : ¬ m = 10 := fun h => c63 ((nI_eq (a := m) (b := 10) (by omega) (by omega)).mpr h)
            refine g_bipush F (q := 71) (v := 46) (dk dX7_make_0 37 rfl) rfl (by decide) ?_
            refine g_bipush F (q := 73) (v := 50) (dk dX7_make_0 38 rfl) rfl (by decide) ?_
            refine g_iload_n F (q := 74) (dk dX7_make_0 39 rfl) rfl rfl 2 rfl ?_
            refine g_imul F (q := 75) (dk dX7_make_1 0 rfl) rfl ?_
            refine g_iadd F (q := 76) (dk dX7_make_1 1 rfl) rfl ?_
            refine g_iconst F (q := 77) (v := 5) (dk dX7_make_1 2 rfl) rfl (by decide) ?_
            refine g_iload F (q := 79) (dk dX7_make_1 3 rfl) rfl 0 rfl ?_
            refine g_imul F (q := 80) (dk dX7_make_1 4 rfl) rfl ?_
            refine g_iadd F (q := 81) (dk dX7_make_1 5 rfl) rfl ?_
            refine g_sti (nA (nA rfl (nM rfl rfl)) (nM rfl rfl)) ?_
            refine g_istore F (q := 83) (lv' := [(6, .int (nI (((46 + (50 * k)) + (5 * m))))), (5, .int (nI m)), (0, .ref (ad 233)), (1, .int (nI k)), (2, .int p), (3, .int t), (4, .int c)]) (dk dX7_make_1 6 rfl) rfl (Nat.le_of_ble_eq_true rfl) rfl ?_
            refine g_aload_n F (q := 84) (dk dX7_make_1 7 rfl) rfl rfl 2 rfl ?_
            refine g_getf F (q := 87) h233 rfl inX7 (by omega) (j := 0) (by decide) tq_623 rfl rfl (dk dX7_make_1 8 rfl) rfl ?_
            refine g_iload F (q := 89) (dk dX7_make_1 9 rfl) rfl 0 rfl ?_
            refine g_iload_n F (q := 90) (dk dX7_make_1 10 rfl) rfl rfl 4 rfl ?_
            refine g_iast F (q := 91) (((46 + (50 * k)) + (5 * m))) h234 (by omega) rfl (by omega) (by decide) (dk dX7_make_1 11 rfl) rfl (fun E90 hE90 hO90 => ?_)
            refine g_aload_n F (q := 92) (dk dX7_make_1 12 rfl) rfl rfl 2 rfl ?_
            have hc1 := (hO90 233 (by omega)).trans h233
            refine g_getf F (q := 95) hc1 rfl inX7 (by omega) (j := 0) (by decide) tq_623 rfl rfl (dk dX7_make_1 13 rfl) rfl ?_
            refine g_iload F (q := 97) (dk dX7_make_1 14 rfl) rfl 0 rfl ?_
            refine g_iconst F (q := 98) (v := 1) (dk dX7_make_1 15 rfl) rfl (by decide) ?_
            refine g_iadd F (q := 99) (dk dX7_make_1 16 rfl) rfl ?_
            refine g_iload_n F (q := 100) (dk dX7_make_1 17 rfl) rfl rfl 5 rfl ?_
            refine g_iast F (q := 101) ((((46 + (50 * k)) + (5 * m)) + 1)) hE90 (by omega) (nA rfl rfl) (by omega) (by decide) (dk dX7_make_1 18 rfl) rfl (fun E100 hE100 hO100 => ?_)
            refine g_aload_n F (q := 102) (dk dX7_make_1 19 rfl) rfl rfl 2 rfl ?_
            have hc2 := (hO100 233 (by omega)).trans hc1
            refine g_getf F (q := 105) hc2 rfl inX7 (by omega) (j := 0) (by decide) tq_623 rfl rfl (dk dX7_make_1 20 rfl) rfl ?_
            refine g_iload F (q := 107) (dk dX7_make_1 21 rfl) rfl 0 rfl ?_
            refine g_iconst F (q := 108) (v := 2) (dk dX7_make_1 22 rfl) rfl (by decide) ?_
            refine g_iadd F (q := 109) (dk dX7_make_1 23 rfl) rfl ?_
            refine g_iload F (q := 111) (dk dX7_make_1 24 rfl) rfl 6 rfl ?_
            refine g_iast F (q := 112) ((((46 + (50 * k)) + (5 * m)) + 2)) hE100 (by omega) (nA rfl rfl) (by omega) (by decide) (dk dX7_make_1 25 rfl) rfl (fun E111 hE111 hO111 => ?_)
            refine g_aload_n F (q := 113) (dk dX7_make_1 26 rfl) rfl rfl 2 rfl ?_
            have hc3 := (hO111 233 (by omega)).trans hc2
            refine g_getf F (q := 116) hc3 rfl inX7 (by omega) (j := 0) (by decide) tq_623 rfl rfl (dk dX7_make_1 27 rfl) rfl ?_
            refine g_iload F (q := 118) (dk dX7_make_1 28 rfl) rfl 0 rfl ?_
            refine g_iconst F (q := 119) (v := 3) (dk dX7_make_1 29 rfl) rfl (by decide) ?_
            refine g_iadd F (q := 120) (dk dX7_make_1 30 rfl) rfl ?_
            refine g_aload_n F (q := 121) (dk dX7_make_1 31 rfl) rfl rfl 2 rfl ?_
            refine g_getf F (q := 124) hc3 rfl inX7 (by omega) (j := 0) (by decide) tq_623 rfl rfl (dk dX7_make_1 32 rfl) rfl ?_
            refine g_iconst F (q := 125) (v := 3) (dk dX7_make_1 33 rfl) rfl (by decide) ?_
            refine g_iald F (q := 126) 3 hE111 (by omega) rfl (by omega) (by decide) (dk dX7_make_1 34 rfl) rfl ?_
            refine g_sti (y := (r 3)) (by rw [upd_n (by omega), upd_n (by omega), upd_n (by omega)]) ?_
            refine g_iast F (q := 127) ((((46 + (50 * k)) + (5 * m)) + 3)) hE111 (by omega) (nA rfl rfl) (by omega) (by decide) (dk dX7_make_1 35 rfl) rfl (fun E126 hE126 hO126 => ?_)
            refine g_aload_n F (q := 128) (dk dX7_make_1 36 rfl) rfl rfl 2 rfl ?_
            have hc4 := (hO126 233 (by omega)).trans hc3
            refine g_getf F (q := 131) hc4 rfl inX7 (by omega) (j := 0) (by decide) tq_623 rfl rfl (dk dX7_make_1 37 rfl) rfl ?_
            refine g_iload F (q := 133) (dk dX7_make_1 38 rfl) rfl 0 rfl ?_
            refine g_iconst F (q := 134) (v := 4) (dk dX7_make_1 39 rfl) rfl (by decide) ?_
            refine g_iadd F (q := 135) (dk dX7_make_2 0 rfl) rfl ?_
            refine g_iconst F (q := 136) (v := 0) (dk dX7_make_2 1 rfl) rfl (by decide) ?_
            refine g_iast F (q := 137) ((((46 + (50 * k)) + (5 * m)) + 4)) hE126 (by omega) (nA rfl rfl) (by omega) (by decide) (dk dX7_make_2 2 rfl) rfl (fun E136 hE136 hO136 => ?_)
            refine g_iconst F (q := 138) (v := 0) (dk dX7_make_2 3 rfl) rfl (by decide) ?_
            refine g_istore F (q := 140) (lv' := [(7, .int 0), (6, .int (nI (((46 + (50 * k)) + (5 * m))))), (5, .int (nI m)), (0, .ref (ad 233)), (1, .int (nI k)), (2, .int p), (3, .int t), (4, .int c)]) (dk dX7_make_2 4 rfl) rfl (Nat.le_of_ble_eq_true rfl) rfl ?_
            refine g_iconst F (q := 141) (v := 0) (dk dX7_make_2 5 rfl) rfl (by decide) ?_
            refine g_istore F (q := 143) (lv' := [(8, .int 0), (7, .int 0), (6, .int (nI (((46 + (50 * k)) + (5 * m))))), (5, .int (nI m)), (0, .ref (ad 233)), (1, .int (nI k)), (2, .int p), (3, .int t), (4, .int c)]) (dk dX7_make_2 6 rfl) rfl (Nat.le_of_ble_eq_true rfl) rfl ?_
            have K143 : ∀ (fu : Nat) (i : Nat) (E1 : Nat → va_E), 10 - i < fu → (hf : E1 234 = .inl (cA 0, 346, .inl (stg r ne k m p t c i))) → (hfr143 : ∀ j, (j ≠ 234) → E1 j = E136 j) → (hi : i ≤ 10) → GG rm_X7_make 11 l D X 0 0 243 ad E1 143 [(0, .ref (ad 233)), (1, .int (nI k)), (2, .int p), (3, .int t), (4, .int c), (5, .int (nI m)), (6, .int (nI ((46 + 50 * k + 5 * m)))), (7, .int (hcnt r ne p c i)), (8, .int (nI i))] [] := by
              intro fu
              induction fu with
              | zero => intro i E1 hfu_; exact absurd hfu_ (Nat.not_lt_zero _)
              | succ fu ih =>
                intro i E1 hfu_ hf hfr143 hi
                refine g_iload F (q := 145) (dk dX7_make_2 7 rfl) rfl 8 rfl ?_
                refine g_bipush F (q := 147) (v := 10) (dk dX7_make_2 8 rfl) rfl (by decide) ?_
                refine g_icmp_ge F (q := 150) (tgt := 268) (dk dX7_make_2 9 rfl) (by decide) rfl (fun c147 => ?_) (fun c147 => ?_)
                · have nc147 : 10 ≤ i := (nI_leI (a := 10) (b := i) (by omega) (by omega)).mp c147
                  refine g_aload_n F (q := 269) (dk dX7_make_3 34 rfl) rfl rfl 0 rfl ?_
                  have hc5 := (hO136 233 (by omega)).trans hc4
                  have hc6 := (hfr143 233 (by omega)).trans hc5
                  refine g_getf F (q := 272) hc6 rfl inX7 (by omega) (j := 0) (by decide) tq_623 rfl rfl (dk dX7_make_3 35 rfl) rfl ?_
                  refine g_iconst F (q := 273) (v := 1) (dk dX7_make_3 36 rfl) rfl (by decide) ?_
                  refine g_iload_n F (q := 274) (dk dX7_make_3 37 rfl) rfl rfl 1 rfl ?_
                  refine g_iadd F (q := 275) (dk dX7_make_3 38 rfl) rfl ?_
                  refine g_dup2 F (q := 276) (dk dX7_make_3 39 rfl) rfl rfl rfl ?_
                  refine g_iald F (q := 277) ((1 + k)) hf (by omega) (nA rfl rfl) (by omega) (by decide) (dk dX7_make_4 0 rfl) rfl ?_
                  refine g_sti (y := (nI m)) ((stg_lo (by omega) _).trans hm) ?_
                  refine g_iconst F (q := 278) (v := 1) (dk dX7_make_4 1 rfl) rfl (by decide) ?_
                  refine g_iadd F (q := 279) (dk dX7_make_4 2 rfl) rfl ?_
                  refine g_sti (nA rfl rfl) ?_
                  refine g_iast F (q := 280) ((1 + k)) hf (by omega) (nA rfl rfl) (by omega) (by decide) (dk dX7_make_4 3 rfl) rfl (fun E279 hE279 hO279 => ?_)
                  refine g_aload_n F (q := 281) (dk dX7_make_4 4 rfl) rfl rfl 0 rfl ?_
                  have hc7 := (hO279 233 (by omega)).trans hc6
                  refine g_getf F (q := 284) hc7 rfl inX7 (by omega) (j := 0) (by decide) tq_623 rfl rfl (dk dX7_make_4 5 rfl) rfl ?_
                  refine g_iconst F (q := 285) (v := 5) (dk dX7_make_4 6 rfl) rfl (by decide) ?_
                  refine g_iload_n F (q := 286) (dk dX7_make_4 7 rfl) rfl rfl 3 rfl ?_
                  refine g_iast F (q := 287) 5 hE279 (by omega) rfl (by omega) (by decide) (dk dX7_make_4 8 rfl) rfl (fun E286 hE286 hO286 => ?_)
                  refine g_iload F (q := 289) (dk dX7_make_4 9 rfl) rfl 7 rfl ?_
                  have hi10 : i = 10 := by omega
                  have hs : mkS r ne k m p t c = (hcnt r ne p c 10, mkR r ne k m p t c) := by unfold mkS; rw [if_pos ⟨b5, b15, b27⟩, if_neg (Int32.not_lt.mpr c43), if_neg nc63]
                  refine hret (hcnt r ne p c i) E286 _ _ (dk dX7_make_4 10 rfl) (nint _) ?_
                  exact ⟨(by rw [hs, hi10]), (by rw [hs]; have h := hE286; rw [hi10] at h; exact h), (fun j hj => ((((((((hO286 j (by omega)).trans (hO279 j (by omega))).trans (hfr143 j (by omega))).trans (hO136 j (by omega))).trans (hO126 j (by omega))).trans (hO111 j (by omega))).trans (hO100 j (by omega))).trans (hO90 j (by omega))))⟩
                · have nc147 : ¬ 10 ≤ i := fun h => c147 ((nI_leI (a := 10) (b := i) (by omega) (by omega)).mpr h)
                  refine g_iload_n F (q := 151) (dk dX7_make_2 10 rfl) rfl rfl 2 rfl ?_
                  refine g_aload_n F (q := 152) (dk dX7_make_2 11 rfl) rfl rfl 0 rfl ?_
                  refine g_iload F (q := 154) (dk dX7_make_2 12 rfl) rfl 8 rfl ?_
                  refine g_iconst F (q := 155) (v := 0) (dk dX7_make_2 13 rfl) rfl (by decide) ?_
                  have hc8 := (hO136 233 (by omega)).trans hc4
                  have hc9 := (hfr143 233 (by omega)).trans hc8
                  refine g_callVI F (q := 158) (av := [.int (nI i), .int 0]) (st := [.int p]) (c_X7_of (e := i) (w := 0) hc9 hf (by first | assumption | decide | omega)) kv_X7_of tq_718 hc9 rfl (by omega) ⟨rfl, rfl⟩ (by decide) ⟨Nat.le_refl _, Nat.le_refl _⟩ rfl rfl (Nat.le_of_ble_eq_true rfl) (dk dX7_make_2 14 rfl) rfl (fun r155 E155 hp155 => ?_)
                  obtain ⟨rfl, rfl⟩ := hp155
                  refine g_sti (y := (r (6 + 4 * i))) (stg_lo (by omega) _) ?_
                  refine g_callSI F (q := 161) (av := [.int p, .int (r (6 + 4 * i))]) (st := []) (c_X7_far (a := p) (b := (r (6 + 4 * i)))) ks_X7_far tq_747 ⟨rfl, rfl⟩ (by decide) ⟨Nat.le_refl _, Nat.le_refl _⟩ rfl rfl (Nat.le_of_ble_eq_true rfl) (dk dX7_make_2 15 rfl) rfl (fun r158 E158 hp158 => ?_)
                  obtain ⟨rfl, rfl⟩ := hp158
                  refine g_istore F (q := 163) (lv' := [(9, .int (far p (r (6 + 4 * i)))), (0, .ref (ad 233)), (1, .int (nI k)), (2, .int p), (3, .int t), (4, .int c), (5, .int (nI m)), (6, .int (nI ((46 + 50 * k + 5 * m)))), (7, .int (hcnt r ne p c i)), (8, .int (nI i))]) (dk dX7_make_2 16 rfl) rfl (Nat.le_of_ble_eq_true rfl) rfl ?_
                  refine g_iload F (q := 165) (dk dX7_make_2 17 rfl) rfl 9 rfl ?_
                  refine g_aload_n F (q := 166) (dk dX7_make_2 18 rfl) rfl rfl 1 rfl ?_
                  refine g_getf F (q := 169) hc9 rfl inX7 (by omega) (j := 0) (by decide) tq_623 rfl rfl (dk dX7_make_2 19 rfl) rfl ?_
                  refine g_iconst F (q := 170) (v := 0) (dk dX7_make_2 20 rfl) rfl (by decide) ?_
                  refine g_iald F (q := 171) 0 hf (by omega) rfl (by omega) (by decide) (dk dX7_make_2 21 rfl) rfl ?_
                  refine g_sti (y := (nI ne)) ((stg_lo (by omega) _).trans h0) ?_
                  refine g_icmp_ge F (q := 174) (tgt := 195) (dk dX7_make_2 22 rfl) (by decide) rfl (fun c171 => ?_) (fun c171 => ?_)
                  · have nc171 : ne ≤ i := (nI_leI (a := ne) (b := i) (by omega) (by omega)).mp c171
                    refine g_iconst F (q := 196) (v := 0) (dk dX7_make_2 33 rfl) rfl (by decide) ?_
                    have hh : ¬ (i < ne ∧ r (6 + 4 * i + 1) = 0 ∧ far p (r (6 + 4 * i)) ≤ c) := fun h => absurd h.1 (by omega)
                    refine g_istore F (q := 198) (lv' := [(10, .int 0), (9, .int (far p (r (6 + 4 * i)))), (0, .ref (ad 233)), (1, .int (nI k)), (2, .int p), (3, .int t), (4, .int c), (5, .int (nI m)), (6, .int (nI ((46 + 50 * k + 5 * m)))), (7, .int (hcnt r ne p c i)), (8, .int (nI i))]) (dk dX7_make_2 34 rfl) rfl (Nat.le_of_ble_eq_true rfl) rfl ?_
                    refine g_aload_n F (q := 199) (dk dX7_make_2 35 rfl) rfl rfl 2 rfl ?_
                    refine g_getf F (q := 202) hc9 rfl inX7 (by omega) (j := 0) (by decide) tq_623 rfl rfl (dk dX7_make_2 36 rfl) rfl ?_
                    refine g_sipush F (q := 205) (v := 146) (dk dX7_make_2 37 rfl) rfl (by decide) ?_
                    refine g_bipush F (q := 207) (v := 100) (dk dX7_make_2 38 rfl) rfl (by decide) ?_
                    refine g_iload_n F (q := 208) (dk dX7_make_2 39 rfl) rfl rfl 3 rfl ?_
                    refine g_imul F (q := 209) (dk dX7_make_3 0 rfl) rfl ?_
                    refine g_iadd F (q := 210) (dk dX7_make_3 1 rfl) rfl ?_
                    refine g_bipush F (q := 212) (v := 10) (dk dX7_make_3 2 rfl) rfl (by decide) ?_
                    refine g_iload F (q := 214) (dk dX7_make_3 3 rfl) rfl 7 rfl ?_
                    refine g_imul F (q := 215) (dk dX7_make_3 4 rfl) rfl ?_
                    refine g_iadd F (q := 216) (dk dX7_make_3 5 rfl) rfl ?_
                    refine g_iload F (q := 218) (dk dX7_make_3 6 rfl) rfl 10 rfl ?_
                    refine g_iadd F (q := 219) (dk dX7_make_3 7 rfl) rfl ?_
                    refine g_iload F (q := 221) (dk dX7_make_3 8 rfl) rfl 0 rfl ?_
                    refine g_if_eq F (q := 224) (tgt := 244) (dk dX7_make_3 9 rfl) (by decide) rfl (fun _ => ?_) (fun h => absurd h (by decide))
                    refine g_ldc F (q := 246) (v := (-1000000000)) (dk dX7_make_3 22 rfl) rfl tq_622 ?_
                    refine g_sti (y := MISS) rfl ?_
                    refine g_iast F (q := 247) ((((146 + (100 * k)) + (10 * m)) + i)) hf (by omega) (nA (nA (nA rfl (nM rfl rfl)) (nM rfl rfl)) rfl) (by omega) (by decide) (dk dX7_make_3 23 rfl) rfl (fun E246 hE246 hO246 => ?_)
                    refine g_iload F (q := 249) (dk dX7_make_3 24 rfl) rfl 9 rfl ?_
                    refine g_iload F (q := 251) (dk dX7_make_3 25 rfl) rfl 0 rfl ?_
                    refine g_if_eq F (q := 254) (tgt := 258) (dk dX7_make_3 26 rfl) (by decide) rfl (fun _ => ?_) (fun h => absurd h (by decide))
                    refine g_iconst F (q := 259) (v := 0) (dk dX7_make_3 29 rfl) rfl (by decide) ?_
                    refine g_iadd F (q := 260) (dk dX7_make_3 30 rfl) rfl ?_
                    refine g_sti (y := (hcnt r ne p c (i + 1))) (by rw [hcnt, if_neg hh]) ?_
                    refine g_istore F (q := 262) (lv' := [(7, .int (hcnt r ne p c (i + 1))), (10, .int 0), (9, .int (far p (r (6 + 4 * i)))), (0, .ref (ad 233)), (1, .int (nI k)), (2, .int p), (3, .int t), (4, .int c), (5, .int (nI m)), (6, .int (nI ((46 + 50 * k + 5 * m)))), (8, .int (nI i))]) (dk dX7_make_3 31 rfl) rfl (Nat.le_of_ble_eq_true rfl) rfl ?_
                    refine g_iinc F (q := 265) (v := (nI ((i + 1)))) (lv' := [(8, .int (nI ((i + 1)))), (7, .int (hcnt r ne p c (i + 1))), (10, .int 0), (9, .int (far p (r (6 + 4 * i)))), (0, .ref (ad 233)), (1, .int (nI k)), (2, .int p), (3, .int t), (4, .int c), (5, .int (nI m)), (6, .int (nI ((46 + 50 * k + 5 * m))))]) (dk dX7_make_3 32 rfl) rfl 10 rfl (nI_1 _) (Nat.le_of_ble_eq_true rfl) rfl ?_
                    refine g_goto F (tgt := 143) (dk dX7_make_3 33 rfl) (by decide) ?_
                    refine g_lv (lv' := [(0, .ref (ad 233)), (1, .int (nI k)), (2, .int p), (3, .int t), (4, .int c), (5, .int (nI m)), (6, .int (nI ((46 + 50 * k + 5 * m)))), (7, .int (hcnt r ne p c (i + 1))), (8, .int (nI ((i + 1))))]) [4, 5, 6, 7, 8, 9, 10, 1, 0] rfl ?_
                    exact ih (i + 1) E246 (by omega) (stg_step hE246 (if_neg hh).symm) (fun j hj => ((hO246 j (by omega)).trans (hfr143 j (by omega)))) (by omega)
                  · have nc171 : ¬ ne ≤ i := fun h => c171 ((nI_leI (a := ne) (b := i) (by omega) (by omega)).mpr h)
                    refine g_aload_n F (q := 175) (dk dX7_make_2 23 rfl) rfl rfl 1 rfl ?_
                    refine g_iload F (q := 177) (dk dX7_make_2 24 rfl) rfl 9 rfl ?_
                    refine g_iconst F (q := 178) (v := 1) (dk dX7_make_2 25 rfl) rfl (by decide) ?_
                    refine g_callVI F (q := 181) (av := [.int (nI i), .int 1]) (st := []) (c_X7_of (e := i) (w := 1) hc9 hf (by first | assumption | decide | omega)) kv_X7_of tq_718 hc9 rfl (by omega) ⟨rfl, rfl⟩ (by decide) ⟨Nat.le_refl _, Nat.le_refl _⟩ rfl rfl (Nat.le_of_ble_eq_true rfl) (dk dX7_make_2 26 rfl) rfl (fun r178 E178 hp178 => ?_)
                    obtain ⟨rfl, rfl⟩ := hp178
                    refine g_sti (y := (r (6 + 4 * i + 1))) (stg_lo (by omega) _) ?_
                    refine g_if_ne F (q := 184) (tgt := 195) (dk dX7_make_2 27 rfl) (by decide) rfl (fun c181 => ?_) (fun c181 => ?_)
                    · refine g_iconst F (q := 196) (v := 0) (dk dX7_make_2 33 rfl) rfl (by decide) ?_
                      have hh : ¬ (i < ne ∧ r (6 + 4 * i + 1) = 0 ∧ far p (r (6 + 4 * i)) ≤ c) := fun h => c181 h.2.1
                      refine g_istore F (q := 198) (lv' := [(10, .int 0), (9, .int (far p (r (6 + 4 * i)))), (0, .ref (ad 233)), (1, .int (nI k)), (2, .int p), (3, .int t), (4, .int c), (5, .int (nI m)), (6, .int (nI ((46 + 50 * k + 5 * m)))), (7, .int (hcnt r ne p c i)), (8, .int (nI i))]) (dk dX7_make_2 34 rfl) rfl (Nat.le_of_ble_eq_true rfl) rfl ?_
                      refine g_aload_n F (q := 199) (dk dX7_make_2 35 rfl) rfl rfl 2 rfl ?_
                      refine g_getf F (q := 202) hc9 rfl inX7 (by omega) (j := 0) (by decide) tq_623 rfl rfl (dk dX7_make_2 36 rfl) rfl ?_
                      refine g_sipush F (q := 205) (v := 146) (dk dX7_make_2 37 rfl) rfl (by decide) ?_
                      refine g_bipush F (q := 207) (v := 100) (dk dX7_make_2 38 rfl) rfl (by decide) ?_
                      refine g_iload_n F (q := 208) (dk dX7_make_2 39 rfl) rfl rfl 3 rfl ?_
                      refine g_imul F (q := 209) (dk dX7_make_3 0 rfl) rfl ?_
                      refine g_iadd F (q := 210) (dk dX7_make_3 1 rfl) rfl ?_
                      refine g_bipush F (q := 212) (v := 10) (dk dX7_make_3 2 rfl) rfl (by decide) ?_
                      refine g_iload F (q := 214) (dk dX7_make_3 3 rfl) rfl 7 rfl ?_
                      refine g_imul F (q := 215) (dk dX7_make_3 4 rfl) rfl ?_
                      refine g_iadd F (q := 216) (dk dX7_make_3 5 rfl) rfl ?_
                      refine g_iload F (q := 218) (dk dX7_make_3 6 rfl) rfl 10 rfl ?_
                      refine g_iadd F (q := 219) (dk dX7_make_3 7 rfl) rfl ?_
                      refine g_iload F (q := 221) (dk dX7_make_3 8 rfl) rfl 0 rfl ?_
                      refine g_if_eq F (q := 224) (tgt := 244) (dk dX7_make_3 9 rfl) (by decide) rfl (fun _ => ?_) (fun h => absurd h (by decide))
                      refine g_ldc F (q := 246) (v := (-1000000000)) (dk dX7_make_3 22 rfl) rfl tq_622 ?_
                      refine g_sti (y := MISS) rfl ?_
                      refine g_iast F (q := 247) ((((146 + (100 * k)) + (10 * m)) + i)) hf (by omega) (nA (nA (nA rfl (nM rfl rfl)) (nM rfl rfl)) rfl) (by omega) (by decide) (dk dX7_make_3 23 rfl) rfl (fun E246 hE246 hO246 => ?_)
                      refine g_iload F (q := 249) (dk dX7_make_3 24 rfl) rfl 9 rfl ?_
                      refine g_iload F (q := 251) (dk dX7_make_3 25 rfl) rfl 0 rfl ?_
                      refine g_if_eq F (q := 254) (tgt := 258) (dk dX7_make_3 26 rfl) (by decide) rfl (fun _ => ?_) (fun h => absurd h (by decide))
                      refine g_iconst F (q := 259) (v := 0) (dk dX7_make_3 29 rfl) rfl (by decide) ?_
                      refine g_iadd F (q := 260) (dk dX7_make_3 30 rfl) rfl ?_
                      refine g_sti (y := (hcnt r ne p c (i + 1))) (by rw [hcnt, if_neg hh]) ?_
                      refine g_istore F (q := 262) (lv' := [(7, .int (hcnt r ne p c (i + 1))), (10, .int 0), (9, .int (far p (r (6 + 4 * i)))), (0, .ref (ad 233)), (1, .int (nI k)), (2, .int p), (3, .int t), (4, .int c), (5, .int (nI m)), (6, .int (nI ((46 + 50 * k + 5 * m)))), (8, .int (nI i))]) (dk dX7_make_3 31 rfl) rfl (Nat.le_of_ble_eq_true rfl) rfl ?_
                      refine g_iinc F (q := 265) (v := (nI ((i + 1)))) (lv' := [(8, .int (nI ((i + 1)))), (7, .int (hcnt r ne p c (i + 1))), (10, .int 0), (9, .int (far p (r (6 + 4 * i)))), (0, .ref (ad 233)), (1, .int (nI k)), (2, .int p), (3, .int t), (4, .int c), (5, .int (nI m)), (6, .int (nI ((46 + 50 * k + 5 * m))))]) (dk dX7_make_3 32 rfl) rfl 10 rfl (nI_1 _) (Nat.le_of_ble_eq_true rfl) rfl ?_
                      refine g_goto F (tgt := 143) (dk dX7_make_3 33 rfl) (by decide) ?_
                      refine g_lv (lv' := [(0, .ref (ad 233)), (1, .int (nI k)), (2, .int p), (3, .int t), (4, .int c), (5, .int (nI m)), (6, .int (nI ((46 + 50 * k + 5 * m)))), (7, .int (hcnt r ne p c (i + 1))), (8, .int (nI ((i + 1))))]) [4, 5, 6, 7, 8, 9, 10, 1, 0] rfl ?_
                      exact ih (i + 1) E246 (by omega) (stg_step hE246 (if_neg hh).symm) (fun j hj => ((hO246 j (by omega)).trans (hfr143 j (by omega)))) (by omega)
                    · refine g_iload F (q := 186) (dk dX7_make_2 28 rfl) rfl 0 rfl ?_
                      refine g_iload F (q := 188) (dk dX7_make_2 29 rfl) rfl 5 rfl ?_
                      refine g_icmp_gt F (q := 191) (tgt := 195) (dk dX7_make_2 30 rfl) (by decide) rfl (fun c188 => ?_) (fun c188 => ?_)
                      · refine g_iconst F (q := 196) (v := 0) (dk dX7_make_2 33 rfl) rfl (by decide) ?_
                        have hh : ¬ (i < ne ∧ r (6 + 4 * i + 1) = 0 ∧ far p (r (6 + 4 * i)) ≤ c) := fun h => absurd h.2.2 (Int32.not_le.mpr c188)
                        refine g_istore F (q := 198) (lv' := [(10, .int 0), (9, .int (far p (r (6 + 4 * i)))), (0, .ref (ad 233)), (1, .int (nI k)), (2, .int p), (3, .int t), (4, .int c), (5, .int (nI m)), (6, .int (nI ((46 + 50 * k + 5 * m)))), (7, .int (hcnt r ne p c i)), (8, .int (nI i))]) (dk dX7_make_2 34 rfl) rfl (Nat.le_of_ble_eq_true rfl) rfl ?_
                        refine g_aload_n F (q := 199) (dk dX7_make_2 35 rfl) rfl rfl 2 rfl ?_
                        refine g_getf F (q := 202) hc9 rfl inX7 (by omega) (j := 0) (by decide) tq_623 rfl rfl (dk dX7_make_2 36 rfl) rfl ?_
                        refine g_sipush F (q := 205) (v := 146) (dk dX7_make_2 37 rfl) rfl (by decide) ?_
                        refine g_bipush F (q := 207) (v := 100) (dk dX7_make_2 38 rfl) rfl (by decide) ?_
                        refine g_iload_n F (q := 208) (dk dX7_make_2 39 rfl) rfl rfl 3 rfl ?_
                        refine g_imul F (q := 209) (dk dX7_make_3 0 rfl) rfl ?_
                        refine g_iadd F (q := 210) (dk dX7_make_3 1 rfl) rfl ?_
                        refine g_bipush F (q := 212) (v := 10) (dk dX7_make_3 2 rfl) rfl (by decide) ?_
                        refine g_iload F (q := 214) (dk dX7_make_3 3 rfl) rfl 7 rfl ?_
                        refine g_imul F (q := 215) (dk dX7_make_3 4 rfl) rfl ?_
                        refine g_iadd F (q := 216) (dk dX7_make_3 5 rfl) rfl ?_
                        refine g_iload F (q := 218) (dk dX7_make_3 6 rfl) rfl 10 rfl ?_
                        refine g_iadd F (q := 219) (dk dX7_make_3 7 rfl) rfl ?_
                        refine g_iload F (q := 221) (dk dX7_make_3 8 rfl) rfl 0 rfl ?_
                        refine g_if_eq F (q := 224) (tgt := 244) (dk dX7_make_3 9 rfl) (by decide) rfl (fun _ => ?_) (fun h => absurd h (by decide))
                        refine g_ldc F (q := 246) (v := (-1000000000)) (dk dX7_make_3 22 rfl) rfl tq_622 ?_
                        refine g_sti (y := MISS) rfl ?_
                        refine g_iast F (q := 247) ((((146 + (100 * k)) + (10 * m)) + i)) hf (by omega) (nA (nA (nA rfl (nM rfl rfl)) (nM rfl rfl)) rfl) (by omega) (by decide) (dk dX7_make_3 23 rfl) rfl (fun E246 hE246 hO246 => ?_)
                        refine g_iload F (q := 249) (dk dX7_make_3 24 rfl) rfl 9 rfl ?_
                        refine g_iload F (q := 251) (dk dX7_make_3 25 rfl) rfl 0 rfl ?_
                        refine g_if_eq F (q := 254) (tgt := 258) (dk dX7_make_3 26 rfl) (by decide) rfl (fun _ => ?_) (fun h => absurd h (by decide))
                        refine g_iconst F (q := 259) (v := 0) (dk dX7_make_3 29 rfl) rfl (by decide) ?_
                        refine g_iadd F (q := 260) (dk dX7_make_3 30 rfl) rfl ?_
                        refine g_sti (y := (hcnt r ne p c (i + 1))) (by rw [hcnt, if_neg hh]) ?_
                        refine g_istore F (q := 262) (lv' := [(7, .int (hcnt r ne p c (i + 1))), (10, .int 0), (9, .int (far p (r (6 + 4 * i)))), (0, .ref (ad 233)), (1, .int (nI k)), (2, .int p), (3, .int t), (4, .int c), (5, .int (nI m)), (6, .int (nI ((46 + 50 * k + 5 * m)))), (8, .int (nI i))]) (dk dX7_make_3 31 rfl) rfl (Nat.le_of_ble_eq_true rfl) rfl ?_
                        refine g_iinc F (q := 265) (v := (nI ((i + 1)))) (lv' := [(8, .int (nI ((i + 1)))), (7, .int (hcnt r ne p c (i + 1))), (10, .int 0), (9, .int (far p (r (6 + 4 * i)))), (0, .ref (ad 233)), (1, .int (nI k)), (2, .int p), (3, .int t), (4, .int c), (5, .int (nI m)), (6, .int (nI ((46 + 50 * k + 5 * m))))]) (dk dX7_make_3 32 rfl) rfl 10 rfl (nI_1 _) (Nat.le_of_ble_eq_true rfl) rfl ?_
                        refine g_goto F (tgt := 143) (dk dX7_make_3 33 rfl) (by decide) ?_
                        refine g_lv (lv' := [(0, .ref (ad 233)), (1, .int (nI k)), (2, .int p), (3, .int t), (4, .int c), (5, .int (nI m)), (6, .int (nI ((46 + 50 * k + 5 * m)))), (7, .int (hcnt r ne p c (i + 1))), (8, .int (nI ((i + 1))))]) [4, 5, 6, 7, 8, 9, 10, 1, 0] rfl ?_
                        exact ih (i + 1) E246 (by omega) (stg_step hE246 (if_neg hh).symm) (fun j hj => ((hO246 j (by omega)).trans (hfr143 j (by omega)))) (by omega)
                      · refine g_iconst F (q := 192) (v := 1) (dk dX7_make_2 31 rfl) rfl (by decide) ?_
                        refine g_goto F (tgt := 196) (dk dX7_make_2 32 rfl) (by decide) ?_
                        have hh : i < ne ∧ r (6 + 4 * i + 1) = 0 ∧ far p (r (6 + 4 * i)) ≤ c := ⟨by omega, c181, Int32.not_lt.mp c188⟩
                        refine g_istore F (q := 198) (lv' := [(10, .int 1), (9, .int (far p (r (6 + 4 * i)))), (0, .ref (ad 233)), (1, .int (nI k)), (2, .int p), (3, .int t), (4, .int c), (5, .int (nI m)), (6, .int (nI ((46 + 50 * k + 5 * m)))), (7, .int (hcnt r ne p c i)), (8, .int (nI i))]) (dk dX7_make_2 34 rfl) rfl (Nat.le_of_ble_eq_true rfl) rfl ?_
                        refine g_aload_n F (q := 199) (dk dX7_make_2 35 rfl) rfl rfl 2 rfl ?_
                        refine g_getf F (q := 202) hc9 rfl inX7 (by omega) (j := 0) (by decide) tq_623 rfl rfl (dk dX7_make_2 36 rfl) rfl ?_
                        refine g_sipush F (q := 205) (v := 146) (dk dX7_make_2 37 rfl) rfl (by decide) ?_
                        refine g_bipush F (q := 207) (v := 100) (dk dX7_make_2 38 rfl) rfl (by decide) ?_
                        refine g_iload_n F (q := 208) (dk dX7_make_2 39 rfl) rfl rfl 3 rfl ?_
                        refine g_imul F (q := 209) (dk dX7_make_3 0 rfl) rfl ?_
                        refine g_iadd F (q := 210) (dk dX7_make_3 1 rfl) rfl ?_
                        refine g_bipush F (q := 212) (v := 10) (dk dX7_make_3 2 rfl) rfl (by decide) ?_
                        refine g_iload F (q := 214) (dk dX7_make_3 3 rfl) rfl 7 rfl ?_
                        refine g_imul F (q := 215) (dk dX7_make_3 4 rfl) rfl ?_
                        refine g_iadd F (q := 216) (dk dX7_make_3 5 rfl) rfl ?_
                        refine g_iload F (q := 218) (dk dX7_make_3 6 rfl) rfl 10 rfl ?_
                        refine g_iadd F (q := 219) (dk dX7_make_3 7 rfl) rfl ?_
                        refine g_iload F (q := 221) (dk dX7_make_3 8 rfl) rfl 0 rfl ?_
                        refine g_if_eq F (q := 224) (tgt := 244) (dk dX7_make_3 9 rfl) (by decide) rfl (fun h => absurd h (by decide)) (fun _ => ?_)
                        refine g_aload_n F (q := 225) (dk dX7_make_3 10 rfl) rfl rfl 2 rfl ?_
                        refine g_iload F (q := 227) (dk dX7_make_3 11 rfl) rfl 10 rfl ?_
                        refine g_iload_n F (q := 228) (dk dX7_make_3 12 rfl) rfl rfl 5 rfl ?_
                        refine g_aload_n F (q := 229) (dk dX7_make_3 13 rfl) rfl rfl 2 rfl ?_
                        refine g_getf F (q := 232) hc9 rfl inX7 (by omega) (j := 0) (by decide) tq_623 rfl rfl (dk dX7_make_3 14 rfl) rfl ?_
                        refine g_iconst F (q := 233) (v := 3) (dk dX7_make_3 15 rfl) rfl (by decide) ?_
                        refine g_iald F (q := 234) 3 hf (by omega) rfl (by omega) (by decide) (dk dX7_make_3 16 rfl) rfl ?_
                        refine g_sti (y := (r 3)) (stg_lo (by omega) _) ?_
                        refine g_iload F (q := 236) (dk dX7_make_3 17 rfl) rfl 1 rfl ?_
                        refine g_imul F (q := 237) (dk dX7_make_3 18 rfl) rfl ?_
                        refine g_iadd F (q := 238) (dk dX7_make_3 19 rfl) rfl ?_
                        refine g_callVI F (q := 241) (av := [.int (nI i), .int (t + ((r 3) * (far p (r (6 + 4 * i)))))]) (st := [.int (((146 + (100 * (nI k))) + (10 * (nI m))) + (nI i)), .ref (ad 234)]) (c_X7_reads (e := i) (t := (t + ((r 3) * (far p (r (6 + 4 * i)))))) hc9 hf (by first | assumption | decide | omega)) kv_X7_reads tq_750 hc9 rfl (by omega) ⟨rfl, rfl⟩ (by decide) ⟨Nat.le_refl _, Nat.le_refl _⟩ rfl rfl (Nat.le_of_ble_eq_true rfl) (dk dX7_make_3 20 rfl) rfl (fun r238 E238 hp238 => ?_)
                        obtain ⟨rfl, rfl⟩ := hp238
                        refine g_sti (y := (rdc r i (t + r 3 * far p (r (6 + 4 * i))))) (rdc_cg (by omega) (fun j hj => stg_lo hj _)) ?_
                        refine g_goto F (tgt := 246) (dk dX7_make_3 21 rfl) (by decide) ?_
                        refine g_iast F (q := 247) ((((146 + (100 * k)) + (10 * m)) + i)) hf (by omega) (nA (nA (nA rfl (nM rfl rfl)) (nM rfl rfl)) rfl) (by omega) (by decide) (dk dX7_make_3 23 rfl) rfl (fun E246 hE246 hO246 => ?_)
                        refine g_iload F (q := 249) (dk dX7_make_3 24 rfl) rfl 9 rfl ?_
                        refine g_iload F (q := 251) (dk dX7_make_3 25 rfl) rfl 0 rfl ?_
                        refine g_if_eq F (q := 254) (tgt := 258) (dk dX7_make_3 26 rfl) (by decide) rfl (fun h => absurd h (by decide)) (fun _ => ?_)
                        refine g_iconst F (q := 255) (v := 1) (dk dX7_make_3 27 rfl) rfl (by decide) ?_
                        refine g_goto F (tgt := 259) (dk dX7_make_3 28 rfl) (by decide) ?_
                        refine g_iadd F (q := 260) (dk dX7_make_3 30 rfl) rfl ?_
                        refine g_sti (y := (hcnt r ne p c (i + 1))) (by rw [hcnt, if_pos hh]) ?_
                        refine g_istore F (q := 262) (lv' := [(7, .int (hcnt r ne p c (i + 1))), (10, .int 1), (9, .int (far p (r (6 + 4 * i)))), (0, .ref (ad 233)), (1, .int (nI k)), (2, .int p), (3, .int t), (4, .int c), (5, .int (nI m)), (6, .int (nI ((46 + 50 * k + 5 * m)))), (8, .int (nI i))]) (dk dX7_make_3 31 rfl) rfl (Nat.le_of_ble_eq_true rfl) rfl ?_
                        refine g_iinc F (q := 265) (v := (nI ((i + 1)))) (lv' := [(8, .int (nI ((i + 1)))), (7, .int (hcnt r ne p c (i + 1))), (10, .int 1), (9, .int (far p (r (6 + 4 * i)))), (0, .ref (ad 233)), (1, .int (nI k)), (2, .int p), (3, .int t), (4, .int c), (5, .int (nI m)), (6, .int (nI ((46 + 50 * k + 5 * m))))]) (dk dX7_make_3 32 rfl) rfl 10 rfl (nI_1 _) (Nat.le_of_ble_eq_true rfl) rfl ?_
                        refine g_goto F (tgt := 143) (dk dX7_make_3 33 rfl) (by decide) ?_
                        refine g_lv (lv' := [(0, .ref (ad 233)), (1, .int (nI k)), (2, .int p), (3, .int t), (4, .int c), (5, .int (nI m)), (6, .int (nI ((46 + 50 * k + 5 * m)))), (7, .int (hcnt r ne p c (i + 1))), (8, .int (nI ((i + 1))))]) [4, 5, 6, 7, 8, 9, 10, 1, 0] rfl ?_
                        exact ih (i + 1) E246 (by omega) (stg_step hE246 (if_pos hh).symm) (fun j hj => ((hO246 j (by omega)).trans (hfr143 j (by omega)))) (by omega)
            refine g_lv (lv' := [(0, .ref (ad 233)), (1, .int (nI k)), (2, .int p), (3, .int t), (4, .int c), (5, .int (nI m)), (6, .int (nI (((46 + (50 * k)) + (5 * m))))), (7, .int 0), (8, .int 0)]) [4, 5, 6, 7, 8, 3, 2, 1, 0] rfl ?_
            exact K143 _ 0 E136 (Nat.lt_succ_self _) hE136 (fun j _ => rfl) (by omega)
          · have nc63 : m = 10 := (nI_eq (a := m) (b := 10) (by omega) (by omega)).mp c63
            refine g_bipush F (q := 68) (v := (-3)) (dk dX7_make_0 35 rfl) rfl (by decide) ?_
            have hs : mkS r ne k m p t c = (-3, r) := by unfold mkS; rw [if_pos ⟨b5, b15, b27⟩, if_neg (Int32.not_lt.mpr c43), if_pos nc63]
            refine hret (-3) E _ _ (dk dX7_make_0 36 rfl) (nint _) ?_
            exact ⟨(by rw [hs]), (by rw [hs]; exact h234), (fun j _ => rfl)⟩
        · refine g_bipush F (q := 48) (v := (-4)) (dk dX7_make_0 23 rfl) rfl (by decide) ?_
          have hs : mkS r ne k m p t c = (-4, r) := by unfold mkS; rw [if_pos ⟨b5, b15, b27⟩, if_pos (Int32.not_le.mp c43)]
          refine hret (-4) E _ _ (dk dX7_make_0 24 rfl) (nint _) ?_
          exact ⟨(by rw [hs]), (by rw [hs]; exact h234), (fun j _ => rfl)⟩
      · refine g_if_ne F (q := 33) (tgt := 36) (dk dX7_make_0 14 rfl) (by decide) rfl (fun h => absurd h (by decide)) (fun _ => ?_)
        refine g_bipush F (q := 35) (v := (-2)) (dk dX7_make_0 15 rfl) rfl (by decide) ?_
        have hs : mkS r ne k m p t c = (-2, r) := if_neg (fun h => b27 h.2.2)
        refine hret (-2) E _ _ (dk dX7_make_0 16 rfl) (nint _) ?_
        exact ⟨(by rw [hs]), (by rw [hs]; exact h234), (fun j _ => rfl)⟩
    · refine g_if_eq F (q := 21) (tgt := 33) (dk dX7_make_0 9 rfl) (by decide) rfl (fun _ => ?_) (fun h => absurd h (by decide))
      refine g_bipush F (q := 35) (v := (-2)) (dk dX7_make_0 15 rfl) rfl (by decide) ?_
      have hs : mkS r ne k m p t c = (-2, r) := if_neg (fun h => b15 h.2.1)
      refine hret (-2) E _ _ (dk dX7_make_0 16 rfl) (nint _) ?_
      exact ⟨(by rw [hs]), (by rw [hs]; exact h234), (fun j _ => rfl)⟩
  · refine g_if_eq F (q := 11) (tgt := 33) (dk dX7_make_0 4 rfl) (by decide) rfl (fun _ => ?_) (fun h => absurd h (by decide))
    refine g_bipush F (q := 35) (v := (-2)) (dk dX7_make_0 15 rfl) rfl (by decide) ?_
    have hs : mkS r ne k m p t c = (-2, r) := if_neg (fun h => b5 h.1)
    refine hret (-2) E _ _ (dk dX7_make_0 16 rfl) (nint _) ?_
    exact ⟨(by rw [hs]), (by rw [hs]; exact h234), (fun j _ => rfl)⟩
theorem kv_X7_make : KV yX7_make "ThumpEarsModel" cX7_make 11 (some .int) 4 := ⟨tq_744, tq_16, tq_47, tq_745, by decide +kernel⟩
abbrev rm_X7_act : Room := { frames := 3, cells := 0, slots := 0, locals := 77 }
set_option maxHeartbeats 4000000 in
set_option maxRecDepth 100000 in
theorem c_X7_act {l : Launch} {D : va_G} {cA : Nat → ClassId} {ad : Nat → Nat} {E : Nat → va_E} {nh : Nat} {s1 s2 s3 s4 s5 : Int32} {lo mo : Int64} {r past bef : Nat → Int32} {ne k m : Nat} {p t c : Int32} (h233 : E 233 = .inr (7, [.ref (ad 234), .ref (ad 235), .ref (ad 236), .ref (ad 237), .int (nI nh), .int s1, .ref (ad 238), .int s2, .int s3, .int s4, .int s5, .ref (ad 239), .ref (ad 240), .ref (ad 241), .long lo, .long mo, .ref (ad 242)])) (h234 : E 234 = .inl (cA 0, 346, .inl r)) (h235 : E 235 = .inl (cA 0, 1384, .inl past)) (h237 : E 237 = .inl (cA 0, 346, .inl bef))  (hnh : nh ≤ 4) (hk : k < 2) (h0 : r 0 = nI ne) (hne : ne ≤ 10) (hm : r (1 + k) = nI m) (hm10 : m ≤ 10) : CtI l D cA yX7_act cX7_act 6 .int rm_X7_act 243 ad E [.ref (ad 233), .int (nI k), .int p, .int t, .int c] (fun x E' => ∃ (f : Nat → Int32) (q : Nat → Int32) (g : Nat → Int32) (n2 : Nat), (sAct r ne k m p t c).1 = x ∧ E' 233 = .inr (7, [.ref (ad 234), .ref (ad 235), .ref (ad 236), .ref (ad 237), .int (nI n2), .int s1, .ref (ad 238), .int s2, .int s3, .int s4, .int s5, .ref (ad 239), .ref (ad 240), .ref (ad 241), .long lo, .long mo, .ref (ad 242)]) ∧ E' 234 = .inl (cA 0, 346, .inl f) ∧ E' 235 = .inl (cA 0, 1384, .inl q) ∧ E' 237 = .inl (cA 0, 346, .inl g) ∧ (NX ((sAct r ne k m p t c).2) r past nh f q n2) ∧ ∀ j, (j ≠ 233 ∧ j ≠ 234 ∧ j ≠ 235 ∧ j ≠ 237) → E' j = E j) := by
  refine CtI.of (by decide +kernel) (Nat.le_of_ble_eq_true rfl) (fun X F hret => ?_)
  have F : Fr "ThumpEarsModel" cX7_act 6 D cA X := F
  refine (show GG rm_X7_act 6 l D X 0 0 243 ad E 0 [(0, .ref (ad 233)), (1, .int (nI k)), (2, .int p), (3, .int t), (4, .int c)] [] from ?_)
  refine g_aload_n F (q := 1) (dk dX7_act 0 rfl) rfl rfl 0 rfl ?_
  refine g_callVV F (q := 4) (av := []) (st := []) (c_X7_remember h233 h234 h237) kv_X7_remember tq_695 h233 rfl (by omega) ⟨rfl, rfl⟩ (by decide) ⟨Nat.le_refl _, Nat.le_refl _⟩ rfl rfl (Nat.le_of_ble_eq_true rfl) (dk dX7_act 1 rfl) rfl (fun E1 hp1 => ?_)
  obtain ⟨g_1, hK237_1, hg2_1, hF1⟩ := hp1
  refine g_aload_n F (q := 5) (dk dX7_act 2 rfl) rfl rfl 0 rfl ?_
  refine g_iload_n F (q := 6) (dk dX7_act 3 rfl) rfl rfl 1 rfl ?_
  refine g_iload_n F (q := 7) (dk dX7_act 4 rfl) rfl rfl 2 rfl ?_
  refine g_iload_n F (q := 8) (dk dX7_act 5 rfl) rfl rfl 3 rfl ?_
  refine g_iload F (q := 10) (dk dX7_act 6 rfl) rfl 4 rfl ?_
  have hc1 := (hF1 233 (by omega)).trans h233
  have hc2 := (hF1 234 (by omega)).trans h234
  refine g_callVI F (q := 13) (av := [.int (nI k), .int p, .int t, .int c]) (st := []) (c_X7_make (k := k) (p := p) (t := t) (c := c) hc1 hc2 (by first | assumption | decide | omega) (by first | assumption | decide | omega) (by first | assumption | decide | omega) (by first | assumption | decide | omega) (by first | assumption | decide | omega)) kv_X7_make tq_742 hc1 rfl (by omega) ⟨rfl, rfl⟩ (by decide) ⟨Nat.le_refl _, Nat.le_refl _⟩ rfl rfl (Nat.le_of_ble_eq_true rfl) (dk dX7_act 7 rfl) rfl (fun r10 E10 hp10 => ?_)
  obtain ⟨rfl, hK234_10, hF10⟩ := hp10
  refine g_istore F (q := 15) (lv' := [(5, .int (mkS r ne k m p t c).1), (0, .ref (ad 233)), (1, .int (nI k)), (2, .int p), (3, .int t), (4, .int c)]) (dk dX7_act 8 rfl) rfl (Nat.le_of_ble_eq_true rfl) rfl ?_
  refine g_iload F (q := 17) (dk dX7_act 9 rfl) rfl 0 rfl ?_
  refine g_if_lt F (q := 20) (tgt := 24) (dk dX7_act 10 rfl) (by decide) rfl (fun c17 => ?_) (fun c17 => ?_)
  · refine g_iload F (q := 26) (dk dX7_act 13 rfl) rfl 0 rfl ?_
    have hs : sAct r ne k m p t c = ((mkS r ne k m p t c).1, none) := if_pos c17
    have hc3 := (hF10 233 (by omega)).trans hc1
    have hc4 := (hF1 235 (by omega)).trans h235
    have hc5 := (hF10 235 (by omega)).trans hc4
    have hc6 := (hF10 237 (by omega)).trans hK237_1
    refine hret (mkS r ne k m p t c).1 E10 _ _ (dk dX7_act 14 rfl) (nint _) ?_
    exact ⟨_, past, g_1, nh, (by rw [hs]), hc3, hK234_10, hc5, hc6, (by rw [hs]; exact ⟨rfl, (by rw [mkS_err c17]; exact eqN.rf), fun _ _ => eqN.rf⟩), (fun j hj => ((hF10 j (by omega)).trans (hF1 j (by omega))))⟩
  · refine g_aload_n F (q := 21) (dk dX7_act 11 rfl) rfl rfl 1 rfl ?_
    have hc7 := (hF10 233 (by omega)).trans hc1
    have hc8 := (hF1 235 (by omega)).trans h235
    have hc9 := (hF10 235 (by omega)).trans hc8
    have hc10 := (hF10 237 (by omega)).trans hK237_1
    refine g_callVV F (q := 24) (av := []) (st := []) (c_X7_record hc7 hc9 hc10 (by first | assumption | decide | omega)) kv_X7_record tq_699 hc7 rfl (by omega) ⟨rfl, rfl⟩ (by decide) ⟨Nat.le_refl _, Nat.le_refl _⟩ rfl rfl (Nat.le_of_ble_eq_true rfl) (dk dX7_act 12 rfl) rfl (fun E21 hp21 => ?_)
    obtain ⟨q_21, hK233_21, hK235_21, hp_21, hF21⟩ := hp21
    refine g_iload F (q := 26) (dk dX7_act 13 rfl) rfl 0 rfl ?_
    have hs : sAct r ne k m p t c = ((mkS r ne k m p t c).1, some (mkS r ne k m p t c).2) := if_neg c17
    have hc11 := (hF21 234 (by omega)).trans hK234_10
    have hc12 := (hF21 237 (by omega)).trans hc10
    refine hret (mkS r ne k m p t c).1 E21 _ _ (dk dX7_act 14 rfl) (nint _) ?_
    exact ⟨_, q_21, g_1, (nup nh), (by rw [hs]), hK233_21, hc11, hK235_21, hc12, (by rw [hs]; exact ⟨rfl, eqN.rf, hpush_cg hg2_1 hp_21⟩), (fun j hj => (((hF21 j (by omega)).trans (hF10 j (by omega))).trans (hF1 j (by omega))))⟩
theorem kv_X7_act : KV yX7_act "ThumpEarsModel" cX7_act 6 (some .int) 4 := ⟨tq_740, tq_15, tq_47, tq_741, by decide +kernel⟩
abbrev rm_X7_thump : Room := { frames := 4, cells := 0, slots := 0, locals := 102 }
set_option maxHeartbeats 4000000 in
set_option maxRecDepth 100000 in
theorem c_X7_thump {l : Launch} {D : va_G} {cA : Nat → ClassId} {ad : Nat → Nat} {E : Nat → va_E} {nh : Nat} {s1 s2 s3 s4 s5 : Int32} {lo mo : Int64} {r past bef : Nat → Int32} {ne m : Nat} {p t c : Int32} (h233 : E 233 = .inr (7, [.ref (ad 234), .ref (ad 235), .ref (ad 236), .ref (ad 237), .int (nI nh), .int s1, .ref (ad 238), .int s2, .int s3, .int s4, .int s5, .ref (ad 239), .ref (ad 240), .ref (ad 241), .long lo, .long mo, .ref (ad 242)])) (h234 : E 234 = .inl (cA 0, 346, .inl r)) (h235 : E 235 = .inl (cA 0, 1384, .inl past)) (h237 : E 237 = .inl (cA 0, 346, .inl bef))  (hnh : nh ≤ 4) (h0 : r 0 = nI ne) (hne : ne ≤ 10) (hm : r (1 + 0) = nI m) (hm10 : m ≤ 10) : CtI l D cA yX7_thump cX7_thump 4 .int rm_X7_thump 243 ad E [.ref (ad 233), .int p, .int t, .int c] (fun x E' => ∃ (f : Nat → Int32) (q : Nat → Int32) (g : Nat → Int32) (n2 : Nat), (sAct r ne 0 m p t c).1 = x ∧ E' 233 = .inr (7, [.ref (ad 234), .ref (ad 235), .ref (ad 236), .ref (ad 237), .int (nI n2), .int s1, .ref (ad 238), .int s2, .int s3, .int s4, .int s5, .ref (ad 239), .ref (ad 240), .ref (ad 241), .long lo, .long mo, .ref (ad 242)]) ∧ E' 234 = .inl (cA 0, 346, .inl f) ∧ E' 235 = .inl (cA 0, 1384, .inl q) ∧ E' 237 = .inl (cA 0, 346, .inl g) ∧ (NX ((sAct r ne 0 m p t c).2) r past nh f q n2) ∧ ∀ j, (j ≠ 233 ∧ j ≠ 234 ∧ j ≠ 235 ∧ j ≠ 237) → E' j = E j) := by
  refine CtI.of (by decide +kernel) (Nat.le_of_ble_eq_true rfl) (fun X F hret => ?_)
  have F : Fr "ThumpEarsModel" cX7_thump 4 D cA X := F
  refine (show GG rm_X7_thump 4 l D X 0 0 243 ad E 0 [(0, .ref (ad 233)), (1, .int p), (2, .int t), (3, .int c)] [] from ?_)
  refine g_aload_n F (q := 1) (dk dX7_thump 0 rfl) rfl rfl 0 rfl ?_
  refine g_iconst F (q := 2) (v := 0) (dk dX7_thump 1 rfl) rfl (by decide) ?_
  refine g_iload_n F (q := 3) (dk dX7_thump 2 rfl) rfl rfl 1 rfl ?_
  refine g_iload_n F (q := 4) (dk dX7_thump 3 rfl) rfl rfl 2 rfl ?_
  refine g_iload_n F (q := 5) (dk dX7_thump 4 rfl) rfl rfl 3 rfl ?_
  refine g_callVI F (q := 8) (av := [.int 0, .int p, .int t, .int c]) (st := []) (c_X7_act (k := 0) (p := p) (t := t) (c := c) h233 h234 h235 h237 (by first | assumption | decide | omega) (by omega) (by first | assumption | decide | omega) (by first | assumption | decide | omega) (by first | assumption | decide | omega) (by first | assumption | decide | omega)) kv_X7_act tq_738 h233 rfl (by omega) ⟨rfl, rfl⟩ (by decide) ⟨Nat.le_refl _, Nat.le_refl _⟩ rfl rfl (Nat.le_of_ble_eq_true rfl) (dk dX7_thump 5 rfl) rfl (fun r5 E5 hp5 => ?_)
  obtain ⟨f_5, q_5, g_5, n2_5, rfl, hK233_5, hK234_5, hK235_5, hK237_5, hx_5, hF5⟩ := hp5
  refine hret (sAct r ne 0 m p t c).1 E5 _ _ (dk dX7_thump 6 rfl) (nint _) ?_
  exact ⟨_, _, _, _, rfl, hK233_5, hK234_5, hK235_5, hK237_5, hx_5, (fun j hj => (hF5 j (by omega)))⟩
theorem kv_X7_thump : KV yX7_thump "ThumpEarsModel" cX7_thump 4 (some .int) 3 := ⟨tq_735, tq_736, tq_47, tq_737, by decide +kernel⟩
abbrev rm_X7_knock : Room := { frames := 4, cells := 0, slots := 0, locals := 102 }
set_option maxHeartbeats 4000000 in
set_option maxRecDepth 100000 in
theorem c_X7_knock {l : Launch} {D : va_G} {cA : Nat → ClassId} {ad : Nat → Nat} {E : Nat → va_E} {nh : Nat} {s1 s2 s3 s4 s5 : Int32} {lo mo : Int64} {r past bef : Nat → Int32} {ne m : Nat} {p t c : Int32} (h233 : E 233 = .inr (7, [.ref (ad 234), .ref (ad 235), .ref (ad 236), .ref (ad 237), .int (nI nh), .int s1, .ref (ad 238), .int s2, .int s3, .int s4, .int s5, .ref (ad 239), .ref (ad 240), .ref (ad 241), .long lo, .long mo, .ref (ad 242)])) (h234 : E 234 = .inl (cA 0, 346, .inl r)) (h235 : E 235 = .inl (cA 0, 1384, .inl past)) (h237 : E 237 = .inl (cA 0, 346, .inl bef))  (hnh : nh ≤ 4) (h0 : r 0 = nI ne) (hne : ne ≤ 10) (hm : r (1 + 1) = nI m) (hm10 : m ≤ 10) : CtI l D cA yX7_knock cX7_knock 4 .int rm_X7_knock 243 ad E [.ref (ad 233), .int p, .int t, .int c] (fun x E' => ∃ (f : Nat → Int32) (q : Nat → Int32) (g : Nat → Int32) (n2 : Nat), (sAct r ne 1 m p t c).1 = x ∧ E' 233 = .inr (7, [.ref (ad 234), .ref (ad 235), .ref (ad 236), .ref (ad 237), .int (nI n2), .int s1, .ref (ad 238), .int s2, .int s3, .int s4, .int s5, .ref (ad 239), .ref (ad 240), .ref (ad 241), .long lo, .long mo, .ref (ad 242)]) ∧ E' 234 = .inl (cA 0, 346, .inl f) ∧ E' 235 = .inl (cA 0, 1384, .inl q) ∧ E' 237 = .inl (cA 0, 346, .inl g) ∧ (NX ((sAct r ne 1 m p t c).2) r past nh f q n2) ∧ ∀ j, (j ≠ 233 ∧ j ≠ 234 ∧ j ≠ 235 ∧ j ≠ 237) → E' j = E j) := by
  refine CtI.of (by decide +kernel) (Nat.le_of_ble_eq_true rfl) (fun X F hret => ?_)
  have F : Fr "ThumpEarsModel" cX7_knock 4 D cA X := F
  refine (show GG rm_X7_knock 4 l D X 0 0 243 ad E 0 [(0, .ref (ad 233)), (1, .int p), (2, .int t), (3, .int c)] [] from ?_)
  refine g_aload_n F (q := 1) (dk dX7_knock 0 rfl) rfl rfl 0 rfl ?_
  refine g_iconst F (q := 2) (v := 1) (dk dX7_knock 1 rfl) rfl (by decide) ?_
  refine g_iload_n F (q := 3) (dk dX7_knock 2 rfl) rfl rfl 1 rfl ?_
  refine g_iload_n F (q := 4) (dk dX7_knock 3 rfl) rfl rfl 2 rfl ?_
  refine g_iload_n F (q := 5) (dk dX7_knock 4 rfl) rfl rfl 3 rfl ?_
  refine g_callVI F (q := 8) (av := [.int 1, .int p, .int t, .int c]) (st := []) (c_X7_act (k := 1) (p := p) (t := t) (c := c) h233 h234 h235 h237 (by first | assumption | decide | omega) (by omega) (by first | assumption | decide | omega) (by first | assumption | decide | omega) (by first | assumption | decide | omega) (by first | assumption | decide | omega)) kv_X7_act tq_738 h233 rfl (by omega) ⟨rfl, rfl⟩ (by decide) ⟨Nat.le_refl _, Nat.le_refl _⟩ rfl rfl (Nat.le_of_ble_eq_true rfl) (dk dX7_knock 5 rfl) rfl (fun r5 E5 hp5 => ?_)
  obtain ⟨f_5, q_5, g_5, n2_5, rfl, hK233_5, hK234_5, hK235_5, hK237_5, hx_5, hF5⟩ := hp5
  refine hret (sAct r ne 1 m p t c).1 E5 _ _ (dk dX7_knock 6 rfl) (nint _) ?_
  exact ⟨_, _, _, _, rfl, hK233_5, hK234_5, hK235_5, hK237_5, hx_5, (fun j hj => (hF5 j (by omega)))⟩
theorem kv_X7_knock : KV yX7_knock "ThumpEarsModel" cX7_knock 4 (some .int) 3 := ⟨tq_759, tq_760, tq_47, tq_761, by decide +kernel⟩
abbrev rm_X7_type : Room := { frames := 0, cells := 0, slots := 0, locals := 0 }
set_option maxHeartbeats 4000000 in
set_option maxRecDepth 100000 in
theorem c_X7_type {l : Launch} {D : va_G} {cA : Nat → ClassId} {ad : Nat → Nat} {E : Nat → va_E} {ln : Nat} {s0 s1 s3 s4 s5 : Int32} {lo mo : Int64} {txt : Nat → Int32} {ch : Int32} (h233 : E 233 = .inr (7, [.ref (ad 234), .ref (ad 235), .ref (ad 236), .ref (ad 237), .int s0, .int s1, .ref (ad 238), .int (nI ln), .int s3, .int s4, .int s5, .ref (ad 239), .ref (ad 240), .ref (ad 241), .long lo, .long mo, .ref (ad 242)])) (h238 : E 238 = .inl (cA 3, 60, .inl txt))  (hln : ln ≤ 60) (hch : vp_nar .char ch = ch) : CtI l D cA yX7_type cX7_type 2 .int rm_X7_type 243 ad E [.ref (ad 233), .int ch] (fun x E' => (if ln = 60 then (-3 : Int32) else nI (ln + 1)) = x ∧ E' 233 = .inr (7, [.ref (ad 234), .ref (ad 235), .ref (ad 236), .ref (ad 237), .int s0, .int s1, .ref (ad 238), .int (nI ((if ln = 60 then ln else ln + 1))), .int s3, .int s4, .int s5, .ref (ad 239), .ref (ad 240), .ref (ad 241), .long lo, .long mo, .ref (ad 242)]) ∧ E' 238 = .inl (cA 3, 60, .inl (if ln = 60 then txt else upd txt ln ch)) ∧ ∀ j, (j ≠ 233 ∧ j ≠ 238) → E' j = E j) := by
  refine CtI.of (by decide +kernel) (Nat.le_of_ble_eq_true rfl) (fun X F hret => ?_)
  have F : Fr "ThumpEarsModel" cX7_type 2 D cA X := F
  refine (show GG rm_X7_type 2 l D X 0 0 243 ad E 0 [(0, .ref (ad 233)), (1, .int ch)] [] from ?_)
  refine g_aload_n F (q := 1) (dk dX7_type 0 rfl) rfl rfl 0 rfl ?_
  refine g_getf F (q := 4) h233 rfl inX7 (by omega) (j := 7) (by decide) tq_630 rfl rfl (dk dX7_type 1 rfl) rfl ?_
  refine g_bipush F (q := 6) (v := 60) (dk dX7_type 2 rfl) rfl (by decide) ?_
  refine g_icmp_ne F (q := 9) (tgt := 12) (dk dX7_type 3 rfl) (by decide) rfl (fun c6 => ?_) (fun c6 => ?_)
  · have nc6 : ¬ ln = 60 := fun h => c6 ((nI_eq (a := ln) (b := 60) (by omega) (by omega)).mpr h)
    refine g_aload_n F (q := 13) (dk dX7_type 6 rfl) rfl rfl 0 rfl ?_
    refine g_getf F (q := 16) h233 rfl inX7 (by omega) (j := 6) (by decide) tq_629 rfl rfl (dk dX7_type 7 rfl) rfl ?_
    refine g_aload_n F (q := 17) (dk dX7_type 8 rfl) rfl rfl 0 rfl ?_
    refine g_getf F (q := 20) h233 rfl inX7 (by omega) (j := 7) (by decide) tq_630 rfl rfl (dk dX7_type 9 rfl) rfl ?_
    refine g_iload_n F (q := 21) (dk dX7_type 10 rfl) rfl rfl 1 rfl ?_
    refine g_cast F (q := 22) ln h238 (by omega) rfl (by omega) (by decide) hch (dk dX7_type 11 rfl) rfl (fun E21 hE21 hO21 => ?_)
    refine g_aload_n F (q := 23) (dk dX7_type 12 rfl) rfl rfl 0 rfl ?_
    refine g_dup F (q := 24) (dk dX7_type 13 rfl) rfl rfl ?_
    have hc1 := (hO21 233 (by omega)).trans h233
    refine g_getf F (q := 27) hc1 rfl inX7 (by omega) (j := 7) (by decide) tq_630 rfl rfl (dk dX7_type 14 rfl) rfl ?_
    refine g_iconst F (q := 28) (v := 1) (dk dX7_type 15 rfl) rfl (by decide) ?_
    refine g_iadd F (q := 29) (dk dX7_type 16 rfl) rfl ?_
    refine g_sti (nA rfl rfl) ?_
    refine g_putf F (q := 32) (ty := .int) hc1 rfl inX7 tyX7 tyX7_ok nmX7 (by omega) (j := 7) (by decide) tq_630 rfl rfl (by decide +kernel) rfl rfl (Nat.le_of_ble_eq_true rfl) (dk dX7_type 17 rfl) rfl (fun E29 hE29 hO29 => ?_)
    have hE29 : E29 233 = .inr (7, [.ref (ad 234), .ref (ad 235), .ref (ad 236), .ref (ad 237), .int s0, .int s1, .ref (ad 238), .int (nI ((ln + 1))), .int s3, .int s4, .int s5, .ref (ad 239), .ref (ad 240), .ref (ad 241), .long lo, .long mo, .ref (ad 242)]) := hE29
    refine g_aload_n F (q := 33) (dk dX7_type 18 rfl) rfl rfl 0 rfl ?_
    refine g_getf F (q := 36) hE29 rfl inX7 (by omega) (j := 7) (by decide) tq_630 rfl rfl (dk dX7_type 19 rfl) rfl ?_
    have hc2 := (hO29 238 (by omega)).trans hE21
    refine hret (nI ((ln + 1))) E29 _ _ (dk dX7_type 20 rfl) (nint _) ?_
    exact ⟨(if_neg nc6), (by rw [if_neg nc6]; exact hE29), (by rw [if_neg nc6]; exact hc2), (fun j hj => ((hO29 j (by omega)).trans (hO21 j (by omega))))⟩
  · have nc6 : ln = 60 := (nI_eq (a := ln) (b := 60) (by omega) (by omega)).mp c6
    refine g_bipush F (q := 11) (v := (-3)) (dk dX7_type 4 rfl) rfl (by decide) ?_
    refine hret (-3) E _ _ (dk dX7_type 5 rfl) (nint _) ?_
    exact ⟨(if_pos nc6), (by rw [if_pos nc6]; exact h233), (by rw [if_pos nc6]; exact h238), (fun j _ => rfl)⟩
theorem kv_X7_type : KV yX7_type "ThumpEarsModel" cX7_type 2 (some .int) 1 := ⟨tq_779, tq_780, tq_47, tq_781, by decide +kernel⟩
abbrev rm_X7_clearText : Room := { frames := 0, cells := 0, slots := 0, locals := 0 }
set_option maxHeartbeats 4000000 in
set_option maxRecDepth 100000 in
theorem c_X7_clearText {l : Launch} {D : va_G} {cA : Nat → ClassId} {ad : Nat → Nat} {E : Nat → va_E} {s0 s1 s2 s3 s4 s5 : Int32} {lo mo : Int64}  (h233 : E 233 = .inr (7, [.ref (ad 234), .ref (ad 235), .ref (ad 236), .ref (ad 237), .int s0, .int s1, .ref (ad 238), .int s2, .int s3, .int s4, .int s5, .ref (ad 239), .ref (ad 240), .ref (ad 241), .long lo, .long mo, .ref (ad 242)]))   : CtI l D cA yX7_clearText cX7_clearText 2 .int rm_X7_clearText 243 ad E [.ref (ad 233)] (fun x E' => s2 = x ∧ E' 233 = .inr (7, [.ref (ad 234), .ref (ad 235), .ref (ad 236), .ref (ad 237), .int s0, .int s1, .ref (ad 238), .int 0, .int s3, .int s4, .int s5, .ref (ad 239), .ref (ad 240), .ref (ad 241), .long lo, .long mo, .ref (ad 242)]) ∧ ∀ j, (j ≠ 233) → E' j = E j) := by
  refine CtI.of (by decide +kernel) (Nat.le_of_ble_eq_true rfl) (fun X F hret => ?_)
  have F : Fr "ThumpEarsModel" cX7_clearText 2 D cA X := F
  refine (show GG rm_X7_clearText 2 l D X 0 0 243 ad E 0 [(0, .ref (ad 233))] [] from ?_)
  refine g_aload_n F (q := 1) (dk dX7_clearText 0 rfl) rfl rfl 0 rfl ?_
  refine g_getf F (q := 4) h233 rfl inX7 (by omega) (j := 7) (by decide) tq_630 rfl rfl (dk dX7_clearText 1 rfl) rfl ?_
  refine g_istore_n F (q := 5) (lv' := [(1, .int s2), (0, .ref (ad 233))]) (dk dX7_clearText 2 rfl) rfl rfl (Nat.le_of_ble_eq_true rfl) rfl ?_
  refine g_aload_n F (q := 6) (dk dX7_clearText 3 rfl) rfl rfl 1 rfl ?_
  refine g_iconst F (q := 7) (v := 0) (dk dX7_clearText 4 rfl) rfl (by decide) ?_
  refine g_putf F (q := 10) (ty := .int) h233 rfl inX7 tyX7 tyX7_ok nmX7 (by omega) (j := 7) (by decide) tq_630 rfl rfl (by decide +kernel) rfl rfl (Nat.le_of_ble_eq_true rfl) (dk dX7_clearText 5 rfl) rfl (fun E7 hE7 hO7 => ?_)
  have hE7 : E7 233 = .inr (7, [.ref (ad 234), .ref (ad 235), .ref (ad 236), .ref (ad 237), .int s0, .int s1, .ref (ad 238), .int 0, .int s3, .int s4, .int s5, .ref (ad 239), .ref (ad 240), .ref (ad 241), .long lo, .long mo, .ref (ad 242)]) := hE7
  refine g_iload_n F (q := 11) (dk dX7_clearText 6 rfl) rfl rfl 0 rfl ?_
  refine hret s2 E7 _ _ (dk dX7_clearText 7 rfl) (nint _) ?_
  exact ⟨rfl, hE7, (fun j hj => (hO7 j (by omega)))⟩
theorem kv_X7_clearText : KV yX7_clearText "ThumpEarsModel" cX7_clearText 2 (some .int) 0 := ⟨tq_783, tq_784, tq_47, tq_785, by decide +kernel⟩
