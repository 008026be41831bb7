abbrev rm_X7_heard : Room := { frames := 2, cells := 0, slots := 0, locals := 44 }
set_option maxHeartbeats 4000000 in
set_option maxRecDepth 100000 in
theorem c_X7_heard {l : Launch} {D : va_G} {cA : Nat → ClassId} {ad : Nat → Nat} {E : Nat → va_E} {s0 s1 s2 s3 s4 s5 : Int32} {lo mo : Int64} {r : Nat → Int32} {ne nt nk : Nat} {kb num ear : Int32} (h233 : E 233 = .inr (7, [.ref (ad 234), .ref (ad 235), .ref (ad 236), .ref (ad 237), .int s0, .int s1, .ref (ad 238), .int s2, .int s3, .int s4, .int s5, .ref (ad 239), .ref (ad 240), .ref (ad 241), .long lo, .long mo, .ref (ad 242)])) (h234 : E 234 = .inl (cA 0, 346, .inl r))  (hI : Inv r ne nt nk) : CtI l D cA yX7_heard cX7_heard 6 .int rm_X7_heard 243 ad E [.ref (ad 233), .int kb, .int num, .int ear] (fun x E' => (sHeard r ne nt nk kb num ear) = x ∧ E = E') := by
  refine CtI.of (by decide +kernel) (Nat.le_of_ble_eq_true rfl) (fun X F hret => ?_)
  have F : Fr "ThumpEarsModel" cX7_heard 6 D cA X := F
  refine (show GG rm_X7_heard 6 l D X 0 0 243 ad E 0 [(0, .ref (ad 233)), (1, .int kb), (2, .int num), (3, .int ear)] [] from ?_)
  have hnk := hI.e2
  have hne := hI.e0
  have hnt := hI.e1
  refine g_iload_n F (q := 1) (dk dX7_heard 0 rfl) rfl rfl 1 rfl ?_
  refine g_if_eq F (q := 4) (tgt := 8) (dk dX7_heard 1 rfl) (by decide) rfl (fun c1 => ?_) (fun c1 => ?_)
  · refine g_iconst F (q := 9) (v := 0) (dk dX7_heard 4 rfl) rfl (by decide) ?_
    refine g_istore F (q := 11) (lv' := [(4, .int 0), (0, .ref (ad 233)), (1, .int kb), (2, .int num), (3, .int ear)]) (dk dX7_heard 5 rfl) rfl (Nat.le_of_ble_eq_true rfl) rfl ?_
    refine g_aload_n F (q := 12) (dk dX7_heard 6 rfl) rfl rfl 1 rfl ?_
    refine g_iload F (q := 14) (dk dX7_heard 7 rfl) rfl 0 rfl ?_
    refine g_iload_n F (q := 15) (dk dX7_heard 8 rfl) rfl rfl 3 rfl ?_
    refine g_callVI F (q := 18) (av := [.int 0, .int num]) (st := []) (c_X7_none (k := 0) (a := num) h233 h234 (by first | assumption | decide | omega) hI.h1 hI.e1) kv_X7_none tq_766 h233 rfl (by omega) ⟨rfl, rfl⟩ (by decide) ⟨Nat.le_refl _, Nat.le_refl _⟩ rfl rfl (Nat.le_of_ble_eq_true rfl) (dk dX7_heard 9 rfl) rfl (fun r15 E15 hp15 => ?_)
    rcases hp15 with ⟨rfl, rfl, b15⟩ | ⟨rfl, rfl, b15⟩
    · refine g_if_ne F (q := 21) (tgt := 29) (dk dX7_heard 10 rfl) (by decide) rfl (fun _ => ?_) (fun h => absurd h (by decide))
      refine g_iconst F (q := 30) (v := (-1)) (dk dX7_heard 15 rfl) rfl (by decide) ?_
      refine hret (-1) E _ _ (dk dX7_heard 16 rfl) (nint _) ?_
      exact ⟨(by unfold sHeard; simp only [if_pos c1]; rw [if_pos (Or.inl b15)]), rfl⟩
    · obtain ⟨m, hm, rfl⟩ := b15
      refine g_if_ne F (q := 21) (tgt := 29) (dk dX7_heard 10 rfl) (by decide) rfl (fun h => absurd h (by decide)) (fun _ => ?_)
      refine g_aload_n F (q := 22) (dk dX7_heard 11 rfl) rfl rfl 1 rfl ?_
      refine g_iload_n F (q := 23) (dk dX7_heard 12 rfl) rfl rfl 4 rfl ?_
      refine g_callVI F (q := 26) (av := [.int ear]) (st := []) (c_X7_noEar (ear := ear) h233 h234 hI.h0 hI.e0) kv_X7_noEar tq_714 h233 rfl (by omega) ⟨rfl, rfl⟩ (by decide) ⟨Nat.le_refl _, Nat.le_refl _⟩ rfl rfl (Nat.le_of_ble_eq_true rfl) (dk dX7_heard 13 rfl) rfl (fun r23 E23 hp23 => ?_)
      rcases hp23 with ⟨rfl, rfl, b23⟩ | ⟨rfl, rfl, b23⟩
      · refine g_if_eq F (q := 29) (tgt := 31) (dk dX7_heard 14 rfl) (by decide) rfl (fun h => absurd h (by decide)) (fun _ => ?_)
        refine g_iconst F (q := 30) (v := (-1)) (dk dX7_heard 15 rfl) rfl (by decide) ?_
        refine hret (-1) E _ _ (dk dX7_heard 16 rfl) (nint _) ?_
        exact ⟨(by unfold sHeard; simp only [if_pos c1]; rw [if_pos (Or.inr b23)]), rfl⟩
      · obtain ⟨e, he, rfl⟩ := b23
        refine g_if_eq F (q := 29) (tgt := 31) (dk dX7_heard 14 rfl) (by decide) rfl (fun _ => ?_) (fun h => absurd h (by decide))
        refine g_aload_n F (q := 32) (dk dX7_heard 17 rfl) rfl rfl 1 rfl ?_
        refine g_iload F (q := 34) (dk dX7_heard 18 rfl) rfl 0 rfl ?_
        refine g_iload_n F (q := 35) (dk dX7_heard 19 rfl) rfl rfl 3 rfl ?_
        refine g_iload_n F (q := 36) (dk dX7_heard 20 rfl) rfl rfl 4 rfl ?_
        refine g_callVI F (q := 39) (av := [.int 0, .int (nI m), .int (nI e)]) (st := []) (c_X7_heardOf (k := 0) (m := m) (e := e) h233 h234 (by first | assumption | decide | omega)) kv_X7_heardOf tq_822 h233 rfl (by omega) ⟨rfl, rfl⟩ (by decide) ⟨Nat.le_refl _, Nat.le_refl _⟩ rfl rfl (Nat.le_of_ble_eq_true rfl) (dk dX7_heard 21 rfl) rfl (fun r36 E36 hp36 => ?_)
        obtain ⟨rfl, rfl⟩ := hp36
        refine g_istore F (q := 41) (lv' := [(5, .int (r (146 + 100 * 0 + 10 * m + e))), (4, .int 0), (0, .ref (ad 233)), (1, .int kb), (2, .int (nI m)), (3, .int (nI e))]) (dk dX7_heard 22 rfl) rfl (Nat.le_of_ble_eq_true rfl) rfl ?_
        refine g_iload F (q := 43) (dk dX7_heard 23 rfl) rfl 0 rfl ?_
        refine g_ldc F (q := 45) (v := (-1000000000)) (dk dX7_heard 24 rfl) rfl tq_622 ?_
        refine g_sti (y := MISS) rfl ?_
        refine g_icmp_ne F (q := 48) (tgt := 53) (dk dX7_heard 25 rfl) (by decide) rfl (fun c45 => ?_) (fun c45 => ?_)
        · refine g_iload F (q := 55) (dk dX7_heard 28 rfl) rfl 0 rfl ?_
          refine g_sipush F (q := 58) (v := 10000) (dk dX7_heard 29 rfl) rfl (by decide) ?_
          refine g_iadd F (q := 59) (dk dX7_heard 30 rfl) rfl ?_
          refine hret ((r (146 + 100 * 0 + 10 * m + e)) + 10000) E _ _ (dk dX7_heard 31 rfl) (nint _) ?_
          exact ⟨(by unfold sHeard; simp only [if_pos c1]; rw [if_neg (fun h => h.elim (ixN hm (by omega)) (ixN he (by omega))), nI_c (by omega), nI_c (by omega), if_neg c45]), rfl⟩
        · refine g_bipush F (q := 50) (v := (-5)) (dk dX7_heard 26 rfl) rfl (by decide) ?_
          refine g_goto F (tgt := 59) (dk dX7_heard 27 rfl) (by decide) ?_
          refine hret (-5) E _ _ (dk dX7_heard 31 rfl) (nint _) ?_
          exact ⟨(by unfold sHeard; simp only [if_pos c1]; rw [if_neg (fun h => h.elim (ixN hm (by omega)) (ixN he (by omega))), nI_c (by omega), nI_c (by omega), if_pos c45]), rfl⟩
  · refine g_iconst F (q := 5) (v := 1) (dk dX7_heard 2 rfl) rfl (by decide) ?_
    refine g_goto F (tgt := 9) (dk dX7_heard 3 rfl) (by decide) ?_
    refine g_istore F (q := 11) (lv' := [(4, .int 1), (0, .ref (ad 233)), (1, .int kb), (2, .int num), (3, .int ear)]) (dk dX7_heard 5 rfl) rfl (Nat.le_of_ble_eq_true rfl) rfl ?_
    refine g_aload_n F (q := 12) (dk dX7_heard 6 rfl) rfl rfl 1 rfl ?_
    refine g_iload F (q := 14) (dk dX7_heard 7 rfl) rfl 0 rfl ?_
    refine g_iload_n F (q := 15) (dk dX7_heard 8 rfl) rfl rfl 3 rfl ?_
    refine g_callVI F (q := 18) (av := [.int 1, .int num]) (st := []) (c_X7_none (k := 1) (a := num) h233 h234 (by first | assumption | decide | omega) hI.h2 hI.e2) kv_X7_none tq_766 h233 rfl (by omega) ⟨rfl, rfl⟩ (by decide) ⟨Nat.le_refl _, Nat.le_refl _⟩ rfl rfl (Nat.le_of_ble_eq_true rfl) (dk dX7_heard 9 rfl) rfl (fun r15 E15 hp15 => ?_)
    rcases hp15 with ⟨rfl, rfl, b15⟩ | ⟨rfl, rfl, b15⟩
    · refine g_if_ne F (q := 21) (tgt := 29) (dk dX7_heard 10 rfl) (by decide) rfl (fun _ => ?_) (fun h => absurd h (by decide))
      refine g_iconst F (q := 30) (v := (-1)) (dk dX7_heard 15 rfl) rfl (by decide) ?_
      refine hret (-1) E _ _ (dk dX7_heard 16 rfl) (nint _) ?_
      exact ⟨(by unfold sHeard; simp only [if_neg c1]; rw [if_pos (Or.inl b15)]), rfl⟩
    · obtain ⟨m, hm, rfl⟩ := b15
      refine g_if_ne F (q := 21) (tgt := 29) (dk dX7_heard 10 rfl) (by decide) rfl (fun h => absurd h (by decide)) (fun _ => ?_)
      refine g_aload_n F (q := 22) (dk dX7_heard 11 rfl) rfl rfl 1 rfl ?_
      refine g_iload_n F (q := 23) (dk dX7_heard 12 rfl) rfl rfl 4 rfl ?_
      refine g_callVI F (q := 26) (av := [.int ear]) (st := []) (c_X7_noEar (ear := ear) h233 h234 hI.h0 hI.e0) kv_X7_noEar tq_714 h233 rfl (by omega) ⟨rfl, rfl⟩ (by decide) ⟨Nat.le_refl _, Nat.le_refl _⟩ rfl rfl (Nat.le_of_ble_eq_true rfl) (dk dX7_heard 13 rfl) rfl (fun r23 E23 hp23 => ?_)
      rcases hp23 with ⟨rfl, rfl, b23⟩ | ⟨rfl, rfl, b23⟩
      · refine g_if_eq F (q := 29) (tgt := 31) (dk dX7_heard 14 rfl) (by decide) rfl (fun h => absurd h (by decide)) (fun _ => ?_)
        refine g_iconst F (q := 30) (v := (-1)) (dk dX7_heard 15 rfl) rfl (by decide) ?_
        refine hret (-1) E _ _ (dk dX7_heard 16 rfl) (nint _) ?_
        exact ⟨(by unfold sHeard; simp only [if_neg c1]; rw [if_pos (Or.inr b23)]), rfl⟩
      · obtain ⟨e, he, rfl⟩ := b23
        refine g_if_eq F (q := 29) (tgt := 31) (dk dX7_heard 14 rfl) (by decide) rfl (fun _ => ?_) (fun h => absurd h (by decide))
        refine g_aload_n F (q := 32) (dk dX7_heard 17 rfl) rfl rfl 1 rfl ?_
        refine g_iload F (q := 34) (dk dX7_heard 18 rfl) rfl 0 rfl ?_
        refine g_iload_n F (q := 35) (dk dX7_heard 19 rfl) rfl rfl 3 rfl ?_
        refine g_iload_n F (q := 36) (dk dX7_heard 20 rfl) rfl rfl 4 rfl ?_
        refine g_callVI F (q := 39) (av := [.int 1, .int (nI m), .int (nI e)]) (st := []) (c_X7_heardOf (k := 1) (m := m) (e := e) h233 h234 (by first | assumption | decide | omega)) kv_X7_heardOf tq_822 h233 rfl (by omega) ⟨rfl, rfl⟩ (by decide) ⟨Nat.le_refl _, Nat.le_refl _⟩ rfl rfl (Nat.le_of_ble_eq_true rfl) (dk dX7_heard 21 rfl) rfl (fun r36 E36 hp36 => ?_)
        obtain ⟨rfl, rfl⟩ := hp36
        refine g_istore F (q := 41) (lv' := [(5, .int (r (146 + 100 * 1 + 10 * m + e))), (4, .int 1), (0, .ref (ad 233)), (1, .int kb), (2, .int (nI m)), (3, .int (nI e))]) (dk dX7_heard 22 rfl) rfl (Nat.le_of_ble_eq_true rfl) rfl ?_
        refine g_iload F (q := 43) (dk dX7_heard 23 rfl) rfl 0 rfl ?_
        refine g_ldc F (q := 45) (v := (-1000000000)) (dk dX7_heard 24 rfl) rfl tq_622 ?_
        refine g_sti (y := MISS) rfl ?_
        refine g_icmp_ne F (q := 48) (tgt := 53) (dk dX7_heard 25 rfl) (by decide) rfl (fun c45 => ?_) (fun c45 => ?_)
        · refine g_iload F (q := 55) (dk dX7_heard 28 rfl) rfl 0 rfl ?_
          refine g_sipush F (q := 58) (v := 10000) (dk dX7_heard 29 rfl) rfl (by decide) ?_
          refine g_iadd F (q := 59) (dk dX7_heard 30 rfl) rfl ?_
          refine hret ((r (146 + 100 * 1 + 10 * m + e)) + 10000) E _ _ (dk dX7_heard 31 rfl) (nint _) ?_
          exact ⟨(by unfold sHeard; simp only [if_neg c1]; rw [if_neg (fun h => h.elim (ixN hm (by omega)) (ixN he (by omega))), nI_c (by omega), nI_c (by omega), if_neg c45]), rfl⟩
        · refine g_bipush F (q := 50) (v := (-5)) (dk dX7_heard 26 rfl) rfl (by decide) ?_
          refine g_goto F (tgt := 59) (dk dX7_heard 27 rfl) (by decide) ?_
          refine hret (-5) E _ _ (dk dX7_heard 31 rfl) (nint _) ?_
          exact ⟨(by unfold sHeard; simp only [if_neg c1]; rw [if_neg (fun h => h.elim (ixN hm (by omega)) (ixN he (by omega))), nI_c (by omega), nI_c (by omega), if_pos c45]), rfl⟩
theorem kv_X7_heard : KV yX7_heard "ThumpEarsModel" cX7_heard 6 (some .int) 3 := ⟨tq_858, tq_859, tq_47, tq_860, by decide +kernel⟩
abbrev rm_X7_putRight : Room := { frames := 4, cells := 0, slots := 0, locals := 94 }
set_option maxHeartbeats 4000000 in
set_option maxRecDepth 100000 in
theorem c_X7_putRight {l : Launch} {D : va_G} {cA : Nat → ClassId} {ad : Nat → Nat} {E : Nat → va_E} {s0 s1 s2 s3 s4 s5 : Int32} {lo mo : Int64} {r rd er th : Nat → Int32} {ne nt nk : Nat} {kn ear : Int32} (h233 : E 233 = .inr (7, [.ref (ad 234), .ref (ad 235), .ref (ad 236), .ref (ad 237), .int s0, .int s1, .ref (ad 238), .int s2, .int s3, .int s4, .int s5, .ref (ad 239), .ref (ad 240), .ref (ad 241), .long lo, .long mo, .ref (ad 242)])) (h234 : E 234 = .inl (cA 0, 346, .inl r)) (h239 : E 239 = .inl (cA 0, 10, .inl rd)) (h240 : E 240 = .inl (cA 0, 10, .inl er)) (h241 : E 241 = .inl (cA 0, 10, .inl th))  (hI : Inv r ne nt nk) : CtL l D cA yX7_putRight cX7_putRight 3 rm_X7_putRight 243 ad E [.ref (ad 233), .int kn, .int ear] (fun x E' => ∃ (m2 : Int32) (rd1 : Nat → Int32) (er1 : Nat → Int32) (th1 : Nat → Int32), (sPut r ne nt nk kn ear) = x ∧ E' 233 = .inr (7, [.ref (ad 234), .ref (ad 235), .ref (ad 236), .ref (ad 237), .int s0, .int s1, .ref (ad 238), .int s2, .int s3, .int s4, .int m2, .ref (ad 239), .ref (ad 240), .ref (ad 241), .long lo, .long mo, .ref (ad 242)]) ∧ E' 239 = .inl (cA 0, 10, .inl rd1) ∧ E' 240 = .inl (cA 0, 10, .inl er1) ∧ E' 241 = .inl (cA 0, 10, .inl th1) ∧ ∀ j, (j ≠ 233 ∧ j ≠ 239 ∧ j ≠ 240 ∧ j ≠ 241) → E' j = E j) := by
  refine CtL.of (by decide +kernel) (Nat.le_of_ble_eq_true rfl) (fun X F hret => ?_)
  have F : Fr "ThumpEarsModel" cX7_putRight 3 D cA X := F
  refine (show GG rm_X7_putRight 3 l D X 0 0 243 ad E 0 [(0, .ref (ad 233)), (1, .int kn), (2, .int ear)] [] from ?_)
  have hnk := hI.e2
  have hne := hI.e0
  have hnt := hI.e1
  refine g_aload_n F (q := 1) (dk dX7_putRight 0 rfl) rfl rfl 0 rfl ?_
  refine g_iconst F (q := 2) (v := 1) (dk dX7_putRight 1 rfl) rfl (by decide) ?_
  refine g_iload_n F (q := 3) (dk dX7_putRight 2 rfl) rfl rfl 1 rfl ?_
  refine g_callVI F (q := 6) (av := [.int 1, .int kn]) (st := []) (c_X7_none (k := 1) (a := kn) h233 h234 (by first | assumption | decide | omega) hI.h2 hI.e2) kv_X7_none tq_766 h233 rfl (by omega) ⟨rfl, rfl⟩ (by decide) ⟨Nat.le_refl _, Nat.le_refl _⟩ rfl rfl (Nat.le_of_ble_eq_true rfl) (dk dX7_putRight 3 rfl) rfl (fun r3 E3 hp3 => ?_)
  rcases hp3 with ⟨rfl, rfl, b3⟩ | ⟨rfl, rfl, b3⟩
  · refine g_if_ne F (q := 9) (tgt := 17) (dk dX7_putRight 4 rfl) (by decide) rfl (fun _ => ?_) (fun h => absurd h (by decide))
    refine g_iconst F (q := 18) (v := (-1)) (dk dX7_putRight 9 rfl) rfl (by decide) ?_
    refine g_callSL F (q := 21) (av := [.int (-1)]) (st := []) (c_X7_toldAs (a := (-1))) ks_X7_toldAs tq_843 ⟨rfl, rfl⟩ (by decide) ⟨Nat.le_refl _, Nat.le_refl _⟩ rfl rfl (Nat.le_of_ble_eq_true rfl) (dk dX7_putRight 10 rfl) rfl (fun r18 E18 hp18 => ?_)
    obtain ⟨rfl, rfl⟩ := hp18
    refine hret (toldAs (-1)) E _ _ (dk dX7_putRight 11 rfl) ?_
    exact ⟨_, _, _, _, (by unfold sPut; rw [if_pos (Or.inl b3)]), h233, h239, h240, h241, (fun j _ => rfl)⟩
  · obtain ⟨m, hm, rfl⟩ := b3
    refine g_if_ne F (q := 9) (tgt := 17) (dk dX7_putRight 4 rfl) (by decide) rfl (fun h => absurd h (by decide)) (fun _ => ?_)
    refine g_aload_n F (q := 10) (dk dX7_putRight 5 rfl) rfl rfl 0 rfl ?_
    refine g_iload_n F (q := 11) (dk dX7_putRight 6 rfl) rfl rfl 2 rfl ?_
    refine g_callVI F (q := 14) (av := [.int ear]) (st := []) (c_X7_noEar (ear := ear) h233 h234 hI.h0 hI.e0) kv_X7_noEar tq_714 h233 rfl (by omega) ⟨rfl, rfl⟩ (by decide) ⟨Nat.le_refl _, Nat.le_refl _⟩ rfl rfl (Nat.le_of_ble_eq_true rfl) (dk dX7_putRight 7 rfl) rfl (fun r11 E11 hp11 => ?_)
    rcases hp11 with ⟨rfl, rfl, b11⟩ | ⟨rfl, rfl, b11⟩
    · refine g_if_eq F (q := 17) (tgt := 22) (dk dX7_putRight 8 rfl) (by decide) rfl (fun h => absurd h (by decide)) (fun _ => ?_)
      refine g_iconst F (q := 18) (v := (-1)) (dk dX7_putRight 9 rfl) rfl (by decide) ?_
      refine g_callSL F (q := 21) (av := [.int (-1)]) (st := []) (c_X7_toldAs (a := (-1))) ks_X7_toldAs tq_843 ⟨rfl, rfl⟩ (by decide) ⟨Nat.le_refl _, Nat.le_refl _⟩ rfl rfl (Nat.le_of_ble_eq_true rfl) (dk dX7_putRight 10 rfl) rfl (fun r18 E18 hp18 => ?_)
      obtain ⟨rfl, rfl⟩ := hp18
      refine hret (toldAs (-1)) E _ _ (dk dX7_putRight 11 rfl) ?_
      exact ⟨_, _, _, _, (by unfold sPut; rw [if_pos (Or.inr b11)]), h233, h239, h240, h241, (fun j _ => rfl)⟩
    · obtain ⟨e, he, rfl⟩ := b11
      refine g_if_eq F (q := 17) (tgt := 22) (dk dX7_putRight 8 rfl) (by decide) rfl (fun _ => ?_) (fun h => absurd h (by decide))
      refine g_aload_n F (q := 23) (dk dX7_putRight 12 rfl) rfl rfl 0 rfl ?_
      refine g_iconst F (q := 24) (v := 1) (dk dX7_putRight 13 rfl) rfl (by decide) ?_
      refine g_iload_n F (q := 25) (dk dX7_putRight 14 rfl) rfl rfl 1 rfl ?_
      refine g_iload_n F (q := 26) (dk dX7_putRight 15 rfl) rfl rfl 2 rfl ?_
      refine g_callVI F (q := 29) (av := [.int 1, .int (nI m), .int (nI e)]) (st := []) (c_X7_heardOf (k := 1) (m := m) (e := e) h233 h234 (by first | assumption | decide | omega)) kv_X7_heardOf tq_822 h233 rfl (by omega) ⟨rfl, rfl⟩ (by decide) ⟨Nat.le_refl _, Nat.le_refl _⟩ rfl rfl (Nat.le_of_ble_eq_true rfl) (dk dX7_putRight 16 rfl) rfl (fun r26 E26 hp26 => ?_)
      obtain ⟨rfl, rfl⟩ := hp26
      refine g_ldc F (q := 31) (v := (-1000000000)) (dk dX7_putRight 17 rfl) rfl tq_622 ?_
      refine g_sti (y := MISS) rfl ?_
      refine g_icmp_ne F (q := 34) (tgt := 42) (dk dX7_putRight 18 rfl) (by decide) rfl (fun c31 => ?_) (fun c31 => ?_)
      · refine g_aload_n F (q := 43) (dk dX7_putRight 22 rfl) rfl rfl 0 rfl ?_
        refine g_iload_n F (q := 44) (dk dX7_putRight 23 rfl) rfl rfl 1 rfl ?_
        refine g_iload_n F (q := 45) (dk dX7_putRight 24 rfl) rfl rfl 2 rfl ?_
        refine g_callVL F (q := 48) (av := [.int (nI m), .int (nI e)]) (st := []) (c_X7_rightOf (kn := m) (e := e) h233 h234 h239 h240 h241 (by first | assumption | decide | omega) (by first | assumption | decide | omega) (by first | assumption | decide | omega)) kv_X7_rightOf tq_865 h233 rfl (by omega) ⟨rfl, rfl⟩ (by decide) ⟨Nat.le_refl _, Nat.le_refl _⟩ rfl rfl (Nat.le_of_ble_eq_true rfl) (dk dX7_putRight 25 rfl) rfl (fun r45 E45 hp45 => ?_)
        obtain ⟨m2_45, rd1_45, er1_45, th1_45, rfl, hK233_45, hK239_45, hK240_45, hK241_45, hF45⟩ := hp45
        refine hret (rgt r nt m e) E45 _ _ (dk dX7_putRight 26 rfl) ?_
        exact ⟨_, _, _, _, (by unfold sPut; rw [if_neg (fun h => h.elim (ixN hm (by omega)) (ixN he (by omega))), nI_c (by omega), nI_c (by omega), if_neg c31]), hK233_45, hK239_45, hK240_45, hK241_45, (fun j hj => (hF45 j (by omega)))⟩
      · refine g_bipush F (q := 36) (v := (-5)) (dk dX7_putRight 19 rfl) rfl (by decide) ?_
        refine g_callSL F (q := 39) (av := [.int (-5)]) (st := []) (c_X7_toldAs (a := (-5))) ks_X7_toldAs tq_843 ⟨rfl, rfl⟩ (by decide) ⟨Nat.le_refl _, Nat.le_refl _⟩ rfl rfl (Nat.le_of_ble_eq_true rfl) (dk dX7_putRight 20 rfl) rfl (fun r36 E36 hp36 => ?_)
        obtain ⟨rfl, rfl⟩ := hp36
        refine g_goto F (tgt := 48) (dk dX7_putRight 21 rfl) (by decide) ?_
        refine hret (toldAs (-5)) E _ _ (dk dX7_putRight 26 rfl) ?_
        exact ⟨_, _, _, _, (by unfold sPut; rw [if_neg (fun h => h.elim (ixN hm (by omega)) (ixN he (by omega))), nI_c (by omega), nI_c (by omega), if_pos c31]), h233, h239, h240, h241, (fun j _ => rfl)⟩
theorem kv_X7_putRight : KV yX7_putRight "ThumpEarsModel" cX7_putRight 3 (some .long) 2 := ⟨tq_862, tq_863, tq_47, tq_864, by decide +kernel⟩
abbrev rm_X7_findRight : Room := { frames := 4, cells := 0, slots := 0, locals := 94 }
set_option maxHeartbeats 4000000 in
set_option maxRecDepth 100000 in
theorem c_X7_findRight {l : Launch} {D : va_G} {cA : Nat → ClassId} {ad : Nat → Nat} {E : Nat → va_E} {s0 s1 s2 s3 s4 s5 : Int32} {lo mo : Int64} {r rd er th : Nat → Int32} {ne nt nk : Nat} {rt : Nat → Int64} {kn : Nat}  (h233 : E 233 = .inr (7, [.ref (ad 234), .ref (ad 235), .ref (ad 236), .ref (ad 237), .int s0, .int s1, .ref (ad 238), .int s2, .int s3, .int s4, .int s5, .ref (ad 239), .ref (ad 240), .ref (ad 241), .long lo, .long mo, .ref (ad 242)])) (h234 : E 234 = .inl (cA 0, 346, .inl r)) (h239 : E 239 = .inl (cA 0, 10, .inl rd)) (h240 : E 240 = .inl (cA 0, 10, .inl er)) (h241 : E 241 = .inl (cA 0, 10, .inl th)) (h242 : E 242 = .inl (cA 1, 10, .inr (.inl rt)))  (hk : kn < nk) (hI : Inv r ne nt nk) : CtV l D cA yX7_findRight cX7_findRight 3 rm_X7_findRight 243 ad E [.ref (ad 233), .int (nI kn)] (fun E' => ∃ (m2 : Int32) (rd1 : Nat → Int32) (er1 : Nat → Int32) (th1 : Nat → Int32) (rt1 : Nat → Int64), E' 233 = .inr (7, [.ref (ad 234), .ref (ad 235), .ref (ad 236), .ref (ad 237), .int s0, .int s1, .ref (ad 238), .int s2, .int s3, .int s4, .int m2, .ref (ad 239), .ref (ad 240), .ref (ad 241), .long lo, .long mo, .ref (ad 242)]) ∧ E' 239 = .inl (cA 0, 10, .inl rd1) ∧ E' 240 = .inl (cA 0, 10, .inl er1) ∧ E' 241 = .inl (cA 0, 10, .inl th1) ∧ E' 242 = .inl (cA 1, 10, .inr (.inl rt1)) ∧ (∀ e, e < ne → rt1 e = rgO r nt kn e) ∧ ∀ j, (j ≠ 233 ∧ j ≠ 239 ∧ j ≠ 240 ∧ j ≠ 241 ∧ j ≠ 242) → E' j = E j) := by
  refine CtV.of (by decide +kernel) (Nat.le_of_ble_eq_true rfl) (fun X F hret => ?_)
  have F : Fr "ThumpEarsModel" cX7_findRight 3 D cA X := F
  refine (show GG rm_X7_findRight 3 l D X 0 0 243 ad E 0 [(0, .ref (ad 233)), (1, .int (nI kn))] [] from ?_)
  have hnk := hI.e2
  have hne := hI.e0
  have hnt := hI.e1
  refine g_iconst F (q := 1) (v := 0) (dk dX7_findRight 0 rfl) rfl (by decide) ?_
  refine g_istore_n F (q := 2) (lv' := [(2, .int 0), (0, .ref (ad 233)), (1, .int (nI kn))]) (dk dX7_findRight 1 rfl) rfl rfl (Nat.le_of_ble_eq_true rfl) rfl ?_
  have K2 : ∀ (fu : Nat) (i : Nat) (m3 : Int32) (rd2 : Nat → Int32) (er2 : Nat → Int32) (th2 : Nat → Int32) (rt2 : Nat → Int64) (E1 : Nat → va_E), ne - i < fu → (h3 : E1 233 = .inr (7, [.ref (ad 234), .ref (ad 235), .ref (ad 236), .ref (ad 237), .int s0, .int s1, .ref (ad 238), .int s2, .int s3, .int s4, .int m3, .ref (ad 239), .ref (ad 240), .ref (ad 241), .long lo, .long mo, .ref (ad 242)])) → (h9 : E1 239 = .inl (cA 0, 10, .inl rd2)) → (h40 : E1 240 = .inl (cA 0, 10, .inl er2)) → (h41 : E1 241 = .inl (cA 0, 10, .inl th2)) → (h42 : E1 242 = .inl (cA 1, 10, .inr (.inl rt2))) → (hfr2 : ∀ j, (j ≠ 233 ∧ j ≠ 239 ∧ j ≠ 240 ∧ j ≠ 241 ∧ j ≠ 242) → E1 j = E j) → (hi : i ≤ ne) → (hR : ∀ e, e < i → rt2 e = rgO r nt kn e) → GG rm_X7_findRight 3 l D X 0 0 243 ad E1 2 [(0, .ref (ad 233)), (1, .int (nI kn)), (2, .int (nI i))] [] := by
    intro fu
    induction fu with
    | zero => intro i m3 rd2 er2 th2 rt2 E1 hfu_; exact absurd hfu_ (Nat.not_lt_zero _)
    | succ fu ih =>
      intro i m3 rd2 er2 th2 rt2 E1 hfu_ h3 h9 h40 h41 h42 hfr2 hi hR
      refine g_iload_n F (q := 3) (dk dX7_findRight 2 rfl) rfl rfl 2 rfl ?_
      refine g_aload_n F (q := 4) (dk dX7_findRight 3 rfl) rfl rfl 0 rfl ?_
      refine g_getf F (q := 7) h3 rfl inX7 (by omega) (j := 0) (by decide) tq_623 rfl rfl (dk dX7_findRight 4 rfl) rfl ?_
      refine g_iconst F (q := 8) (v := 0) (dk dX7_findRight 5 rfl) rfl (by decide) ?_
      have hc1 := (hfr2 234 (by omega)).trans h234
      refine g_iald F (q := 9) 0 hc1 (by omega) rfl (by omega) (by decide) (dk dX7_findRight 6 rfl) rfl ?_
      refine g_sti (y := (nI ne)) hI.h0 ?_
      refine g_icmp_ge F (q := 12) (tgt := 46) (dk dX7_findRight 7 rfl) (by decide) rfl (fun c9 => ?_) (fun c9 => ?_)
      · have nc9 : ne ≤ i := (nI_leI (a := ne) (b := i) (by omega) (by omega)).mp c9
        refine hret E1 _ _ (dk dX7_findRight 27 rfl) ?_
        exact ⟨_, _, _, _, _, h3, h9, h40, h41, h42, (fun e he => hR e (by omega)), (fun j hj => (hfr2 j (by omega)))⟩
      · have nc9 : ¬ ne ≤ i := fun h => c9 ((nI_leI (a := ne) (b := i) (by omega) (by omega)).mpr h)
        refine g_aload_n F (q := 13) (dk dX7_findRight 8 rfl) rfl rfl 0 rfl ?_
        refine g_getf F (q := 16) h3 rfl inX7 (by omega) (j := 16) (by decide) tq_639 rfl rfl (dk dX7_findRight 9 rfl) rfl ?_
        refine g_iload_n F (q := 17) (dk dX7_findRight 10 rfl) rfl rfl 2 rfl ?_
        refine g_aload_n F (q := 18) (dk dX7_findRight 11 rfl) rfl rfl 0 rfl ?_
        refine g_iconst F (q := 19) (v := 1) (dk dX7_findRight 12 rfl) rfl (by decide) ?_
        refine g_iload_n F (q := 20) (dk dX7_findRight 13 rfl) rfl rfl 1 rfl ?_
        refine g_iload_n F (q := 21) (dk dX7_findRight 14 rfl) rfl rfl 2 rfl ?_
        refine g_callVI F (q := 24) (av := [.int 1, .int (nI kn), .int (nI i)]) (st := [.int (nI i), .ref (ad 242)]) (c_X7_heardOf (k := 1) (m := kn) (e := i) h3 hc1 (by first | assumption | decide | omega)) kv_X7_heardOf tq_822 h3 rfl (by omega) ⟨rfl, rfl⟩ (by decide) ⟨Nat.le_refl _, Nat.le_refl _⟩ rfl rfl (Nat.le_of_ble_eq_true rfl) (dk dX7_findRight 15 rfl) rfl (fun r21 E21 hp21 => ?_)
        obtain ⟨rfl, rfl⟩ := hp21
        refine g_ldc F (q := 26) (v := (-1000000000)) (dk dX7_findRight 16 rfl) rfl tq_622 ?_
        refine g_sti (y := MISS) rfl ?_
        refine g_icmp_ne F (q := 29) (tgt := 33) (dk dX7_findRight 17 rfl) (by decide) rfl (fun c26 => ?_) (fun c26 => ?_)
        · refine g_aload_n F (q := 34) (dk dX7_findRight 20 rfl) rfl rfl 0 rfl ?_
          refine g_iload_n F (q := 35) (dk dX7_findRight 21 rfl) rfl rfl 1 rfl ?_
          refine g_iload_n F (q := 36) (dk dX7_findRight 22 rfl) rfl rfl 2 rfl ?_
          refine g_callVL F (q := 39) (av := [.int (nI kn), .int (nI i)]) (st := [.int (nI i), .ref (ad 242)]) (c_X7_rightOf (kn := kn) (e := i) h3 hc1 h9 h40 h41 (by first | assumption | decide | omega) (by first | assumption | decide | omega) (by first | assumption | decide | omega)) kv_X7_rightOf tq_865 h3 rfl (by omega) ⟨rfl, rfl⟩ (by decide) ⟨Nat.le_refl _, Nat.le_refl _⟩ rfl rfl (Nat.le_of_ble_eq_true rfl) (dk dX7_findRight 23 rfl) rfl (fun r36 E36 hp36 => ?_)
          obtain ⟨m2_36, rd1_36, er1_36, th1_36, rfl, hK233_36, hK239_36, hK240_36, hK241_36, hF36⟩ := hp36
          have hc2 := (hF36 242 (by omega)).trans h42
          refine g_last F (q := 40) i hc2 (by omega) rfl (by omega) (by decide) (dk dX7_findRight 24 rfl) rfl (fun E39 hE39 hO39 => ?_)
          refine g_iinc F (q := 43) (v := (nI ((i + 1)))) (lv' := [(2, .int (nI ((i + 1)))), (0, .ref (ad 233)), (1, .int (nI kn))]) (dk dX7_findRight 25 rfl) rfl 2 rfl (nI_1 _) (Nat.le_of_ble_eq_true rfl) rfl ?_
          refine g_goto F (tgt := 2) (dk dX7_findRight 26 rfl) (by decide) ?_
          refine g_lv (lv' := [(0, .ref (ad 233)), (1, .int (nI kn)), (2, .int (nI ((i + 1))))]) [1, 2, 0] rfl ?_
          have hc3 := (hO39 233 (by omega)).trans hK233_36
          have hc4 := (hO39 239 (by omega)).trans hK239_36
          have hc5 := (hO39 240 (by omega)).trans hK240_36
          have hc6 := (hO39 241 (by omega)).trans hK241_36
          exact ih (i + 1) m2_36 rd1_36 er1_36 th1_36 (vp_updL rt2 i (rgt r nt kn i)) E39 (by omega) hc3 hc4 hc5 hc6 hE39 (fun j hj => (((hO39 j (by omega)).trans (hF36 j (by omega))).trans (hfr2 j (by omega)))) (by omega) (frS (g := rgO r nt kn) hR (if_neg c26).symm)
        · refine g_lconst F (q := 30) (v := 0) (dk dX7_findRight 18 rfl) rfl (by decide) ?_
          refine g_goto F (tgt := 39) (dk dX7_findRight 19 rfl) (by decide) ?_
          refine g_last F (q := 40) i h42 (by omega) rfl (by omega) (by decide) (dk dX7_findRight 24 rfl) rfl (fun E39 hE39 hO39 => ?_)
          refine g_iinc F (q := 43) (v := (nI ((i + 1)))) (lv' := [(2, .int (nI ((i + 1)))), (0, .ref (ad 233)), (1, .int (nI kn))]) (dk dX7_findRight 25 rfl) rfl 2 rfl (nI_1 _) (Nat.le_of_ble_eq_true rfl) rfl ?_
          refine g_goto F (tgt := 2) (dk dX7_findRight 26 rfl) (by decide) ?_
          refine g_lv (lv' := [(0, .ref (ad 233)), (1, .int (nI kn)), (2, .int (nI ((i + 1))))]) [1, 2, 0] rfl ?_
          have hc7 := (hO39 233 (by omega)).trans h3
          have hc8 := (hO39 239 (by omega)).trans h9
          have hc9 := (hO39 240 (by omega)).trans h40
          have hc10 := (hO39 241 (by omega)).trans h41
          exact ih (i + 1) m3 rd2 er2 th2 (vp_updL rt2 i 0) E39 (by omega) hc7 hc8 hc9 hc10 hE39 (fun j hj => ((hO39 j (by omega)).trans (hfr2 j (by omega)))) (by omega) (frS (g := rgO r nt kn) hR (if_pos c26).symm)
  refine g_lv (lv' := [(0, .ref (ad 233)), (1, .int (nI kn)), (2, .int 0)]) [1, 2, 0] rfl ?_
  exact K2 _ 0 s5 rd er th rt E (Nat.lt_succ_self _) h233 h239 h240 h241 h242 (fun j _ => rfl) (by omega) (fun e he => absurd he (Nat.not_lt_zero e))
theorem kv_X7_findRight : KV yX7_findRight "ThumpEarsModel" cX7_findRight 3 (none) 1 := ⟨tq_883, tq_34, tq_47, tq_884, by decide +kernel⟩
abbrev rm_X7_beginning : Room := { frames := 1, cells := 0, slots := 0, locals := 23 }
set_option maxHeartbeats 4000000 in
set_option maxRecDepth 100000 in
theorem c_X7_beginning {l : Launch} {D : va_G} {cA : Nat → ClassId} {ad : Nat → Nat} {E : Nat → va_E} {s0 s1 s2 s3 s4 s5 : Int32} {lo mo : Int64} {r : Nat → Int32} {rt : Nat → Int64} {kn e : Nat} {xx : Int32} (h233 : E 233 = .inr (7, [.ref (ad 234), .ref (ad 235), .ref (ad 236), .ref (ad 237), .int s0, .int s1, .ref (ad 238), .int s2, .int s3, .int s4, .int s5, .ref (ad 239), .ref (ad 240), .ref (ad 241), .long lo, .long mo, .ref (ad 242)])) (h234 : E 234 = .inl (cA 0, 346, .inl r)) (h242 : E 242 = .inl (cA 1, 10, .inr (.inl rt)))  (hk : kn < 10) (he : e < 10) : CtL l D cA yX7_beginning cX7_beginning 4 rm_X7_beginning 243 ad E [.ref (ad 233), .int (nI kn), .int (nI e), .int xx] (fun x E' => (rt e - 1000 * (r (46 + 50 * 1 + 5 * kn + 3)).toInt64 * (far xx (r (6 + 4 * e + 0))).toInt64) = x ∧ E = E') := by
  refine CtL.of (by decide +kernel) (Nat.le_of_ble_eq_true rfl) (fun X F hret => ?_)
  have F : Fr "ThumpEarsModel" cX7_beginning 4 D cA X := F
  refine (show GG rm_X7_beginning 4 l D X 0 0 243 ad E 0 [(0, .ref (ad 233)), (1, .int (nI kn)), (2, .int (nI e)), (3, .int xx)] [] from ?_)
  refine g_aload_n F (q := 1) (dk dX7_beginning 0 rfl) rfl rfl 0 rfl ?_
  refine g_getf F (q := 4) h233 rfl inX7 (by omega) (j := 16) (by decide) tq_639 rfl rfl (dk dX7_beginning 1 rfl) rfl ?_
  refine g_iload_n F (q := 5) (dk dX7_beginning 2 rfl) rfl rfl 2 rfl ?_
  refine g_lald F (q := 6) e h242 (by omega) rfl (by omega) (by decide) (dk dX7_beginning 3 rfl) rfl ?_
  refine g_ldc2 F (q := 9) (v := 1000) (dk dX7_beginning 4 rfl) rfl tq_852 ?_
  refine g_aload_n F (q := 10) (dk dX7_beginning 5 rfl) rfl rfl 0 rfl ?_
  refine g_iconst F (q := 11) (v := 1) (dk dX7_beginning 6 rfl) rfl (by decide) ?_
  refine g_iload_n F (q := 12) (dk dX7_beginning 7 rfl) rfl rfl 1 rfl ?_
  refine g_iconst F (q := 13) (v := 3) (dk dX7_beginning 8 rfl) rfl (by decide) ?_
  refine g_callVI F (q := 16) (av := [.int 1, .int (nI kn), .int 3]) (st := [.long 1000, .long (rt e)]) (c_X7_come (k := 1) (m := kn) (w := 3) h233 h234 (by first | assumption | decide | omega)) kv_X7_come tq_770 h233 rfl (by omega) ⟨rfl, rfl⟩ (by decide) ⟨Nat.le_refl _, Nat.le_refl _⟩ rfl rfl (Nat.le_of_ble_eq_true rfl) (dk dX7_beginning 9 rfl) rfl (fun r13 E13 hp13 => ?_)
  obtain ⟨rfl, rfl⟩ := hp13
  refine g_i2l F (q := 17) (dk dX7_beginning 10 rfl) rfl ?_
  refine g_lmul F (q := 18) (dk dX7_beginning 11 rfl) rfl ?_
  refine g_iload_n F (q := 19) (dk dX7_beginning 12 rfl) rfl rfl 3 rfl ?_
  refine g_aload_n F (q := 20) (dk dX7_beginning 13 rfl) rfl rfl 0 rfl ?_
  refine g_iload_n F (q := 21) (dk dX7_beginning 14 rfl) rfl rfl 2 rfl ?_
  refine g_iconst F (q := 22) (v := 0) (dk dX7_beginning 15 rfl) rfl (by decide) ?_
  refine g_callVI F (q := 25) (av := [.int (nI e), .int 0]) (st := [.int xx, .long (1000 * (r (46 + 50 * 1 + 5 * kn + 3)).toInt64), .long (rt e)]) (c_X7_of (e := e) (w := 0) h233 h234 (by first | assumption | decide | omega)) kv_X7_of tq_718 h233 rfl (by omega) ⟨rfl, rfl⟩ (by decide) ⟨Nat.le_refl _, Nat.le_refl _⟩ rfl rfl (Nat.le_of_ble_eq_true rfl) (dk dX7_beginning 16 rfl) rfl (fun r22 E22 hp22 => ?_)
  obtain ⟨rfl, rfl⟩ := hp22
  refine g_callSI F (q := 28) (av := [.int xx, .int (r (6 + 4 * e + 0))]) (st := [.long (1000 * (r (46 + 50 * 1 + 5 * kn + 3)).toInt64), .long (rt e)]) (c_X7_far (a := xx) (b := (r (6 + 4 * e + 0)))) ks_X7_far tq_747 ⟨rfl, rfl⟩ (by decide) ⟨Nat.le_refl _, Nat.le_refl _⟩ rfl rfl (Nat.le_of_ble_eq_true rfl) (dk dX7_beginning 17 rfl) rfl (fun r25 E25 hp25 => ?_)
  obtain ⟨rfl, rfl⟩ := hp25
  refine g_i2l F (q := 29) (dk dX7_beginning 18 rfl) rfl ?_
  refine g_lmul F (q := 30) (dk dX7_beginning 19 rfl) rfl ?_
  refine g_lsub F (q := 31) (dk dX7_beginning 20 rfl) rfl ?_
  refine hret ((rt e) - ((1000 * (r (46 + 50 * 1 + 5 * kn + 3)).toInt64) * (far xx (r (6 + 4 * e + 0))).toInt64)) E _ _ (dk dX7_beginning 21 rfl) ?_
  exact ⟨rfl, rfl⟩
theorem kv_X7_beginning : KV yX7_beginning "ThumpEarsModel" cX7_beginning 4 (some .long) 3 := ⟨tq_891, tq_36, tq_47, tq_892, by decide +kernel⟩
abbrev rm_X7_spreadAt : Room := { frames := 2, cells := 0, slots := 0, locals := 46 }
set_option maxHeartbeats 4000000 in
set_option maxRecDepth 100000 in
theorem c_X7_spreadAt {l : Launch} {D : va_G} {cA : Nat → ClassId} {ad : Nat → Nat} {E : Nat → va_E} {s0 s1 s2 s3 s4 s5 : Int32} {lo mo : Int64} {r : Nat → Int32} {ne nt nk : Nat} {rt : Nat → Int64} {kn : Nat} {xx : Int32} (h233 : E 233 = .inr (7, [.ref (ad 234), .ref (ad 235), .ref (ad 236), .ref (ad 237), .int s0, .int s1, .ref (ad 238), .int s2, .int s3, .int s4, .int s5, .ref (ad 239), .ref (ad 240), .ref (ad 241), .long lo, .long mo, .ref (ad 242)])) (h234 : E 234 = .inl (cA 0, 346, .inl r)) (h242 : E 242 = .inl (cA 1, 10, .inr (.inl rt)))  (hk : kn < nk) (hI : Inv r ne nt nk) (hR : ∀ e, e < ne → rt e = rgO r nt kn e) : CtL l D cA yX7_spreadAt cX7_spreadAt 7 rm_X7_spreadAt 243 ad E [.ref (ad 233), .int (nI kn), .int xx] (fun x E' => ∃ (l2 : Int64) (m2 : Int64), (m2 - l2) = x ∧ E' 233 = .inr (7, [.ref (ad 234), .ref (ad 235), .ref (ad 236), .ref (ad 237), .int s0, .int s1, .ref (ad 238), .int s2, .int s3, .int s4, .int s5, .ref (ad 239), .ref (ad 240), .ref (ad 241), .long l2, .long m2, .ref (ad 242)]) ∧ (0 < hC r kn ne → l2 = lsB r nt kn xx ne ∧ m2 = msB r nt kn xx ne) ∧ ∀ j, (j ≠ 233) → E' j = E j) := by
  refine CtL.of (by decide +kernel) (Nat.le_of_ble_eq_true rfl) (fun X F hret => ?_)
  have F : Fr "ThumpEarsModel" cX7_spreadAt 7 D cA X := F
  refine (show GG rm_X7_spreadAt 7 l D X 0 0 243 ad E 0 [(0, .ref (ad 233)), (1, .int (nI kn)), (2, .int xx)] [] from ?_)
  have hnk := hI.e2
  have hne := hI.e0
  have hnt := hI.e1
  refine g_iconst F (q := 1) (v := 0) (dk dX7_spreadAt 0 rfl) rfl (by decide) ?_
  refine g_istore_n F (q := 2) (lv' := [(3, .int 0), (0, .ref (ad 233)), (1, .int (nI kn)), (2, .int xx)]) (dk dX7_spreadAt 1 rfl) rfl rfl (Nat.le_of_ble_eq_true rfl) rfl ?_
  refine g_iconst F (q := 3) (v := 0) (dk dX7_spreadAt 2 rfl) rfl (by decide) ?_
  refine g_istore F (q := 5) (lv' := [(4, .int 0), (3, .int 0), (0, .ref (ad 233)), (1, .int (nI kn)), (2, .int xx)]) (dk dX7_spreadAt 3 rfl) rfl (Nat.le_of_ble_eq_true rfl) rfl ?_
  have K5 : ∀ (fu : Nat) (i : Nat) (a : Nat) (l1 : Int64) (m1 : Int64) (E1 : Nat → va_E), ne - i < fu → (h3 : E1 233 = .inr (7, [.ref (ad 234), .ref (ad 235), .ref (ad 236), .ref (ad 237), .int s0, .int s1, .ref (ad 238), .int s2, .int s3, .int s4, .int s5, .ref (ad 239), .ref (ad 240), .ref (ad 241), .long l1, .long m1, .ref (ad 242)])) → (hfr5 : ∀ j, (j ≠ 233) → E1 j = E j) → (hi : i ≤ ne) → (ha : (a = 0 ∧ hC r kn i = 0) ∨ (a = 1 ∧ 0 < hC r kn i)) → (hl : 0 < hC r kn i → l1 = lsB r nt kn xx i ∧ m1 = msB r nt kn xx i) → GG rm_X7_spreadAt 7 l D X 0 0 243 ad E1 5 [(0, .ref (ad 233)), (1, .int (nI kn)), (2, .int xx), (3, .int (nI a)), (4, .int (nI i))] [] := by
    intro fu
    induction fu with
    | zero => intro i a l1 m1 E1 hfu_; exact absurd hfu_ (Nat.not_lt_zero _)
    | succ fu ih =>
      intro i a l1 m1 E1 hfu_ h3 hfr5 hi ha hl
      refine g_iload F (q := 7) (dk dX7_spreadAt 4 rfl) rfl 4 rfl ?_
      refine g_aload_n F (q := 8) (dk dX7_spreadAt 5 rfl) rfl rfl 0 rfl ?_
      refine g_getf F (q := 11) h3 rfl inX7 (by omega) (j := 0) (by decide) tq_623 rfl rfl (dk dX7_spreadAt 6 rfl) rfl ?_
      refine g_iconst F (q := 12) (v := 0) (dk dX7_spreadAt 7 rfl) rfl (by decide) ?_
      have hc1 := (hfr5 234 (by omega)).trans h234
      refine g_iald F (q := 13) 0 hc1 (by omega) rfl (by omega) (by decide) (dk dX7_spreadAt 8 rfl) rfl ?_
      refine g_sti (y := (nI ne)) hI.h0 ?_
      refine g_icmp_ge F (q := 16) (tgt := 101) (dk dX7_spreadAt 9 rfl) (by decide) rfl (fun c13 => ?_) (fun c13 => ?_)
      · have nc13 : ne ≤ i := (nI_leI (a := ne) (b := i) (by omega) (by omega)).mp c13
        refine g_aload_n F (q := 102) (dk dX7_spreadAt 53 rfl) rfl rfl 0 rfl ?_
        refine g_getf F (q := 105) h3 rfl inX7 (by omega) (j := 15) (by decide) tq_638 rfl rfl (dk dX7_spreadAt 54 rfl) rfl ?_
        refine g_aload_n F (q := 106) (dk dX7_spreadAt 55 rfl) rfl rfl 0 rfl ?_
        refine g_getf F (q := 109) h3 rfl inX7 (by omega) (j := 14) (by decide) tq_637 rfl rfl (dk dX7_spreadAt 56 rfl) rfl ?_
        refine g_lsub F (q := 110) (dk dX7_spreadAt 57 rfl) rfl ?_
        refine hret (m1 - l1) E1 _ _ (dk dX7_spreadAt 58 rfl) ?_
        have hie : i = ne := by omega
        subst hie
        exact ⟨l1, m1, rfl, h3, hl, (fun j hj => (hfr5 j (by omega)))⟩
      · have nc13 : ¬ ne ≤ i := fun h => c13 ((nI_leI (a := ne) (b := i) (by omega) (by omega)).mpr h)
        refine g_aload_n F (q := 17) (dk dX7_spreadAt 10 rfl) rfl rfl 0 rfl ?_
        refine g_iconst F (q := 18) (v := 1) (dk dX7_spreadAt 11 rfl) rfl (by decide) ?_
        refine g_iload_n F (q := 19) (dk dX7_spreadAt 12 rfl) rfl rfl 1 rfl ?_
        refine g_iload F (q := 21) (dk dX7_spreadAt 13 rfl) rfl 4 rfl ?_
        refine g_callVI F (q := 24) (av := [.int 1, .int (nI kn), .int (nI i)]) (st := []) (c_X7_heardOf (k := 1) (m := kn) (e := i) h3 hc1 (by first | assumption | decide | omega)) kv_X7_heardOf tq_822 h3 rfl (by omega) ⟨rfl, rfl⟩ (by decide) ⟨Nat.le_refl _, Nat.le_refl _⟩ rfl rfl (Nat.le_of_ble_eq_true rfl) (dk dX7_spreadAt 14 rfl) rfl (fun r21 E21 hp21 => ?_)
        obtain ⟨rfl, rfl⟩ := hp21
        refine g_ldc F (q := 26) (v := (-1000000000)) (dk dX7_spreadAt 15 rfl) rfl tq_622 ?_
        refine g_sti (y := MISS) rfl ?_
        refine g_icmp_eq F (q := 29) (tgt := 95) (dk dX7_spreadAt 16 rfl) (by decide) rfl (fun c26 => ?_) (fun c26 => ?_)
        · refine g_iinc F (q := 98) (v := (nI ((i + 1)))) (lv' := [(4, .int (nI ((i + 1)))), (0, .ref (ad 233)), (1, .int (nI kn)), (2, .int xx), (3, .int (nI a))]) (dk dX7_spreadAt 51 rfl) rfl 4 rfl (nI_1 _) (Nat.le_of_ble_eq_true rfl) rfl ?_
          refine g_goto F (tgt := 5) (dk dX7_spreadAt 52 rfl) (by decide) ?_
          refine g_lv (lv' := [(0, .ref (ad 233)), (1, .int (nI kn)), (2, .int xx), (3, .int (nI a)), (4, .int (nI ((i + 1))))]) [1, 2, 3, 4, 0] rfl ?_
          exact ih (i + 1) a l1 m1 E1 (by omega) h3 (fun j hj => (hfr5 j (by omega))) (by omega) (by rw [(hF_f c26).1]; exact ha) (by rw [(hF_f c26).1, (lsB_f c26).1, (lsB_f c26).2]; exact hl)
        · refine g_aload_n F (q := 30) (dk dX7_spreadAt 17 rfl) rfl rfl 0 rfl ?_
          refine g_iload_n F (q := 31) (dk dX7_spreadAt 18 rfl) rfl rfl 1 rfl ?_
          refine g_iload F (q := 33) (dk dX7_spreadAt 19 rfl) rfl 4 rfl ?_
          refine g_iload_n F (q := 34) (dk dX7_spreadAt 20 rfl) rfl rfl 2 rfl ?_
          have hc2 := (hfr5 242 (by omega)).trans h242
          refine g_callVL F (q := 37) (av := [.int (nI kn), .int (nI i), .int xx]) (st := []) (c_X7_beginning (kn := kn) (e := i) (xx := xx) h3 hc1 hc2 (by first | assumption | decide | omega) (by first | assumption | decide | omega)) kv_X7_beginning tq_889 h3 rfl (by omega) ⟨rfl, rfl⟩ (by decide) ⟨Nat.le_refl _, Nat.le_refl _⟩ rfl rfl (Nat.le_of_ble_eq_true rfl) (dk dX7_spreadAt 21 rfl) rfl (fun r34 E34 hp34 => ?_)
          obtain ⟨rfl, rfl⟩ := hp34
          refine g_stl (y := (bg r nt kn xx i)) (by rw [hR i (by omega)]; unfold rgO; rw [if_neg c26]; rfl) ?_
          refine g_topl (fun bv ebv => ?_)
          refine g_lstore F (q := 39) (lv' := [(5, .long bv), (0, .ref (ad 233)), (1, .int (nI kn)), (2, .int xx), (3, .int (nI a)), (4, .int (nI i))]) (dk dX7_spreadAt 22 rfl) rfl (Nat.le_of_ble_eq_true rfl) rfl ?_
          refine g_aload_n F (q := 40) (dk dX7_spreadAt 23 rfl) rfl rfl 1 rfl ?_
          refine g_iload_n F (q := 41) (dk dX7_spreadAt 24 rfl) rfl rfl 4 rfl ?_
          refine g_if_eq F (q := 44) (tgt := 54) (dk dX7_spreadAt 25 rfl) (by decide) rfl (fun c41 => ?_) (fun c41 => ?_)
          · have nc41 : a = 0 := (nI_eq (a := a) (b := 0) (by omega) (by omega)).mp c41
            refine g_lload F (q := 56) (dk dX7_spreadAt 31 rfl) rfl 0 rfl ?_
            refine g_goto F (tgt := 63) (dk dX7_spreadAt 32 rfl) (by decide) ?_
            refine g_putf F (q := 66) (ty := .long) h3 rfl inX7 tyX7 tyX7_ok nmX7 (by omega) (j := 14) (by decide) tq_637 rfl rfl (by decide +kernel) rfl rfl (Nat.le_of_ble_eq_true rfl) (dk dX7_spreadAt 35 rfl) rfl (fun E63 hE63 hO63 => ?_)
            have hE63 : E63 233 = .inr (7, [.ref (ad 234), .ref (ad 235), .ref (ad 236), .ref (ad 237), .int s0, .int s1, .ref (ad 238), .int s2, .int s3, .int s4, .int s5, .ref (ad 239), .ref (ad 240), .ref (ad 241), .long bv, .long m1, .ref (ad 242)]) := hE63
            refine g_aload_n F (q := 67) (dk dX7_spreadAt 36 rfl) rfl rfl 1 rfl ?_
            refine g_iload_n F (q := 68) (dk dX7_spreadAt 37 rfl) rfl rfl 4 rfl ?_
            refine g_if_eq F (q := 71) (tgt := 81) (dk dX7_spreadAt 38 rfl) (by decide) rfl (fun c68 => ?_) (fun c68 => absurd c68 (fun h => h c41))
            have nc68 : a = 0 := (nI_eq (a := a) (b := 0) (by omega) (by omega)).mp c68
            refine g_lload F (q := 83) (dk dX7_spreadAt 44 rfl) rfl 0 rfl ?_
            refine g_goto F (tgt := 90) (dk dX7_spreadAt 45 rfl) (by decide) ?_
            refine g_putf F (q := 93) (ty := .long) hE63 rfl inX7 tyX7 tyX7_ok nmX7 (by omega) (j := 15) (by decide) tq_638 rfl rfl (by decide +kernel) rfl rfl (Nat.le_of_ble_eq_true rfl) (dk dX7_spreadAt 48 rfl) rfl (fun E90 hE90 hO90 => ?_)
            have hE90 : E90 233 = .inr (7, [.ref (ad 234), .ref (ad 235), .ref (ad 236), .ref (ad 237), .int s0, .int s1, .ref (ad 238), .int s2, .int s3, .int s4, .int s5, .ref (ad 239), .ref (ad 240), .ref (ad 241), .long bv, .long bv, .ref (ad 242)]) := hE90
            refine g_iconst F (q := 94) (v := 1) (dk dX7_spreadAt 49 rfl) rfl (by decide) ?_
            refine g_istore_n F (q := 95) (lv' := [(3, .int 1), (5, .long bv), (0, .ref (ad 233)), (1, .int (nI kn)), (2, .int xx), (4, .int (nI i))]) (dk dX7_spreadAt 50 rfl) rfl rfl (Nat.le_of_ble_eq_true rfl) rfl ?_
            refine g_iinc F (q := 98) (v := (nI ((i + 1)))) (lv' := [(4, .int (nI ((i + 1)))), (3, .int 1), (5, .long bv), (0, .ref (ad 233)), (1, .int (nI kn)), (2, .int xx)]) (dk dX7_spreadAt 51 rfl) rfl 5 rfl (nI_1 _) (Nat.le_of_ble_eq_true rfl) rfl ?_
            refine g_goto F (tgt := 5) (dk dX7_spreadAt 52 rfl) (by decide) ?_
            refine g_lv (lv' := [(0, .ref (ad 233)), (1, .int (nI kn)), (2, .int xx), (3, .int 1), (4, .int (nI ((i + 1))))]) [3, 4, 5, 1, 0] rfl ?_
            exact ih (i + 1) 1 bv bv E90 (by omega) hE90 (fun j hj => (((hO90 j (by omega)).trans (hO63 j (by omega))).trans (hfr5 j (by omega)))) (by omega) (Or.inr ⟨rfl, by rw [(hF_t c26).1]; omega⟩) (fun _ => ⟨ebv.trans (lsB_0 c26 (by omega)).1.symm, ebv.trans (lsB_0 c26 (by omega)).2.symm⟩)
          · have nc41 : ¬ a = 0 := fun h => c41 ((nI_eq (a := a) (b := 0) (by omega) (by omega)).mpr h)
            refine g_lload F (q := 46) (dk dX7_spreadAt 26 rfl) rfl 0 rfl ?_
            refine g_aload_n F (q := 47) (dk dX7_spreadAt 27 rfl) rfl rfl 1 rfl ?_
            refine g_getf F (q := 50) h3 rfl inX7 (by omega) (j := 14) (by decide) tq_637 rfl rfl (dk dX7_spreadAt 28 rfl) rfl ?_
            refine g_lcmp_ge F (q := 54) (tgt := 59) (dk dX7_spreadAt 29 rfl) (dk dX7_spreadAt 30 rfl) (by decide) rfl (fun c50 => ?_) (fun c50 => ?_)
            · refine g_aload_n F (q := 60) (dk dX7_spreadAt 33 rfl) rfl rfl 1 rfl ?_
              refine g_getf F (q := 63) h3 rfl inX7 (by omega) (j := 14) (by decide) tq_637 rfl rfl (dk dX7_spreadAt 34 rfl) rfl ?_
              refine g_putf F (q := 66) (ty := .long) h3 rfl inX7 tyX7 tyX7_ok nmX7 (by omega) (j := 14) (by decide) tq_637 rfl rfl (by decide +kernel) rfl rfl (Nat.le_of_ble_eq_true rfl) (dk dX7_spreadAt 35 rfl) rfl (fun E63 hE63 hO63 => ?_)
              have hE63 : E63 233 = .inr (7, [.ref (ad 234), .ref (ad 235), .ref (ad 236), .ref (ad 237), .int s0, .int s1, .ref (ad 238), .int s2, .int s3, .int s4, .int s5, .ref (ad 239), .ref (ad 240), .ref (ad 241), .long l1, .long m1, .ref (ad 242)]) := hE63
              refine g_aload_n F (q := 67) (dk dX7_spreadAt 36 rfl) rfl rfl 1 rfl ?_
              refine g_iload_n F (q := 68) (dk dX7_spreadAt 37 rfl) rfl rfl 4 rfl ?_
              refine g_if_eq F (q := 71) (tgt := 81) (dk dX7_spreadAt 38 rfl) (by decide) rfl (fun c68 => absurd c68 c41) (fun c68 => ?_)
              have nc68 : ¬ a = 0 := fun h => c68 ((nI_eq (a := a) (b := 0) (by omega) (by omega)).mpr h)
              refine g_lload F (q := 73) (dk dX7_spreadAt 39 rfl) rfl 0 rfl ?_
              refine g_aload_n F (q := 74) (dk dX7_spreadAt 40 rfl) rfl rfl 1 rfl ?_
              refine g_getf F (q := 77) hE63 rfl inX7 (by omega) (j := 15) (by decide) tq_638 rfl rfl (dk dX7_spreadAt 41 rfl) rfl ?_
              refine g_lcmp_le F (q := 81) (tgt := 86) (dk dX7_spreadAt 42 rfl) (dk dX7_spreadAt 43 rfl) (by decide) rfl (fun c77 => ?_) (fun c77 => ?_)
              · refine g_aload_n F (q := 87) (dk dX7_spreadAt 46 rfl) rfl rfl 1 rfl ?_
                refine g_getf F (q := 90) hE63 rfl inX7 (by omega) (j := 15) (by decide) tq_638 rfl rfl (dk dX7_spreadAt 47 rfl) rfl ?_
                refine g_putf F (q := 93) (ty := .long) hE63 rfl inX7 tyX7 tyX7_ok nmX7 (by omega) (j := 15) (by decide) tq_638 rfl rfl (by decide +kernel) rfl rfl (Nat.le_of_ble_eq_true rfl) (dk dX7_spreadAt 48 rfl) rfl (fun E90 hE90 hO90 => ?_)
                have hE90 : E90 233 = .inr (7, [.ref (ad 234), .ref (ad 235), .ref (ad 236), .ref (ad 237), .int s0, .int s1, .ref (ad 238), .int s2, .int s3, .int s4, .int s5, .ref (ad 239), .ref (ad 240), .ref (ad 241), .long l1, .long m1, .ref (ad 242)]) := hE90
                refine g_iconst F (q := 94) (v := 1) (dk dX7_spreadAt 49 rfl) rfl (by decide) ?_
                refine g_istore_n F (q := 95) (lv' := [(3, .int 1), (5, .long bv), (0, .ref (ad 233)), (1, .int (nI kn)), (2, .int xx), (4, .int (nI i))]) (dk dX7_spreadAt 50 rfl) rfl rfl (Nat.le_of_ble_eq_true rfl) rfl ?_
                refine g_iinc F (q := 98) (v := (nI ((i + 1)))) (lv' := [(4, .int (nI ((i + 1)))), (3, .int 1), (5, .long bv), (0, .ref (ad 233)), (1, .int (nI kn)), (2, .int xx)]) (dk dX7_spreadAt 51 rfl) rfl 5 rfl (nI_1 _) (Nat.le_of_ble_eq_true rfl) rfl ?_
                refine g_goto F (tgt := 5) (dk dX7_spreadAt 52 rfl) (by decide) ?_
                refine g_lv (lv' := [(0, .ref (ad 233)), (1, .int (nI kn)), (2, .int xx), (3, .int 1), (4, .int (nI ((i + 1))))]) [3, 4, 5, 1, 0] rfl ?_
                exact ih (i + 1) 1 l1 m1 E90 (by omega) hE90 (fun j hj => (((hO90 j (by omega)).trans (hO63 j (by omega))).trans (hfr5 j (by omega)))) (by omega) (Or.inr ⟨rfl, by rw [(hF_t c26).1]; omega⟩) (fun _ => ⟨by rw [(lsB_t c26 (by omega)).1, ← ebv, ← (hl (by omega)).1, if_neg (Int64.not_lt.mpr c50)], by rw [(lsB_t c26 (by omega)).2, ← ebv, ← (hl (by omega)).2, if_neg (Int64.not_lt.mpr c77)]⟩)
              · refine g_lload F (q := 83) (dk dX7_spreadAt 44 rfl) rfl 0 rfl ?_
                refine g_goto F (tgt := 90) (dk dX7_spreadAt 45 rfl) (by decide) ?_
                refine g_putf F (q := 93) (ty := .long) hE63 rfl inX7 tyX7 tyX7_ok nmX7 (by omega) (j := 15) (by decide) tq_638 rfl rfl (by decide +kernel) rfl rfl (Nat.le_of_ble_eq_true rfl) (dk dX7_spreadAt 48 rfl) rfl (fun E90 hE90 hO90 => ?_)
                have hE90 : E90 233 = .inr (7, [.ref (ad 234), .ref (ad 235), .ref (ad 236), .ref (ad 237), .int s0, .int s1, .ref (ad 238), .int s2, .int s3, .int s4, .int s5, .ref (ad 239), .ref (ad 240), .ref (ad 241), .long l1, .long bv, .ref (ad 242)]) := hE90
                refine g_iconst F (q := 94) (v := 1) (dk dX7_spreadAt 49 rfl) rfl (by decide) ?_
                refine g_istore_n F (q := 95) (lv' := [(3, .int 1), (5, .long bv), (0, .ref (ad 233)), (1, .int (nI kn)), (2, .int xx), (4, .int (nI i))]) (dk dX7_spreadAt 50 rfl) rfl rfl (Nat.le_of_ble_eq_true rfl) rfl ?_
                refine g_iinc F (q := 98) (v := (nI ((i + 1)))) (lv' := [(4, .int (nI ((i + 1)))), (3, .int 1), (5, .long bv), (0, .ref (ad 233)), (1, .int (nI kn)), (2, .int xx)]) (dk dX7_spreadAt 51 rfl) rfl 5 rfl (nI_1 _) (Nat.le_of_ble_eq_true rfl) rfl ?_
                refine g_goto F (tgt := 5) (dk dX7_spreadAt 52 rfl) (by decide) ?_
                refine g_lv (lv' := [(0, .ref (ad 233)), (1, .int (nI kn)), (2, .int xx), (3, .int 1), (4, .int (nI ((i + 1))))]) [3, 4, 5, 1, 0] rfl ?_
                exact ih (i + 1) 1 l1 bv E90 (by omega) hE90 (fun j hj => (((hO90 j (by omega)).trans (hO63 j (by omega))).trans (hfr5 j (by omega)))) (by omega) (Or.inr ⟨rfl, by rw [(hF_t c26).1]; omega⟩) (fun _ => ⟨by rw [(lsB_t c26 (by omega)).1, ← ebv, ← (hl (by omega)).1, if_neg (Int64.not_lt.mpr c50)], by rw [(lsB_t c26 (by omega)).2, ← ebv, ← (hl (by omega)).2, if_pos (Int64.not_le.mp c77)]⟩)
            · refine g_lload F (q := 56) (dk dX7_spreadAt 31 rfl) rfl 0 rfl ?_
              refine g_goto F (tgt := 63) (dk dX7_spreadAt 32 rfl) (by decide) ?_
              refine g_putf F (q := 66) (ty := .long) h3 rfl inX7 tyX7 tyX7_ok nmX7 (by omega) (j := 14) (by decide) tq_637 rfl rfl (by decide +kernel) rfl rfl (Nat.le_of_ble_eq_true rfl) (dk dX7_spreadAt 35 rfl) rfl (fun E63 hE63 hO63 => ?_)
              have hE63 : E63 233 = .inr (7, [.ref (ad 234), .ref (ad 235), .ref (ad 236), .ref (ad 237), .int s0, .int s1, .ref (ad 238), .int s2, .int s3, .int s4, .int s5, .ref (ad 239), .ref (ad 240), .ref (ad 241), .long bv, .long m1, .ref (ad 242)]) := hE63
              refine g_aload_n F (q := 67) (dk dX7_spreadAt 36 rfl) rfl rfl 1 rfl ?_
              refine g_iload_n F (q := 68) (dk dX7_spreadAt 37 rfl) rfl rfl 4 rfl ?_
              refine g_if_eq F (q := 71) (tgt := 81) (dk dX7_spreadAt 38 rfl) (by decide) rfl (fun c68 => absurd c68 c41) (fun c68 => ?_)
              have nc68 : ¬ a = 0 := fun h => c68 ((nI_eq (a := a) (b := 0) (by omega) (by omega)).mpr h)
              refine g_lload F (q := 73) (dk dX7_spreadAt 39 rfl) rfl 0 rfl ?_
              refine g_aload_n F (q := 74) (dk dX7_spreadAt 40 rfl) rfl rfl 1 rfl ?_
              refine g_getf F (q := 77) hE63 rfl inX7 (by omega) (j := 15) (by decide) tq_638 rfl rfl (dk dX7_spreadAt 41 rfl) rfl ?_
              refine g_lcmp_le F (q := 81) (tgt := 86) (dk dX7_spreadAt 42 rfl) (dk dX7_spreadAt 43 rfl) (by decide) rfl (fun c77 => ?_) (fun c77 => ?_)
              · refine g_aload_n F (q := 87) (dk dX7_spreadAt 46 rfl) rfl rfl 1 rfl ?_
                refine g_getf F (q := 90) hE63 rfl inX7 (by omega) (j := 15) (by decide) tq_638 rfl rfl (dk dX7_spreadAt 47 rfl) rfl ?_
                refine g_putf F (q := 93) (ty := .long) hE63 rfl inX7 tyX7 tyX7_ok nmX7 (by omega) (j := 15) (by decide) tq_638 rfl rfl (by decide +kernel) rfl rfl (Nat.le_of_ble_eq_true rfl) (dk dX7_spreadAt 48 rfl) rfl (fun E90 hE90 hO90 => ?_)
                have hE90 : E90 233 = .inr (7, [.ref (ad 234), .ref (ad 235), .ref (ad 236), .ref (ad 237), .int s0, .int s1, .ref (ad 238), .int s2, .int s3, .int s4, .int s5, .ref (ad 239), .ref (ad 240), .ref (ad 241), .long bv, .long m1, .ref (ad 242)]) := hE90
                refine g_iconst F (q := 94) (v := 1) (dk dX7_spreadAt 49 rfl) rfl (by decide) ?_
                refine g_istore_n F (q := 95) (lv' := [(3, .int 1), (5, .long bv), (0, .ref (ad 233)), (1, .int (nI kn)), (2, .int xx), (4, .int (nI i))]) (dk dX7_spreadAt 50 rfl) rfl rfl (Nat.le_of_ble_eq_true rfl) rfl ?_
                refine g_iinc F (q := 98) (v := (nI ((i + 1)))) (lv' := [(4, .int (nI ((i + 1)))), (3, .int 1), (5, .long bv), (0, .ref (ad 233)), (1, .int (nI kn)), (2, .int xx)]) (dk dX7_spreadAt 51 rfl) rfl 5 rfl (nI_1 _) (Nat.le_of_ble_eq_true rfl) rfl ?_
                refine g_goto F (tgt := 5) (dk dX7_spreadAt 52 rfl) (by decide) ?_
                refine g_lv (lv' := [(0, .ref (ad 233)), (1, .int (nI kn)), (2, .int xx), (3, .int 1), (4, .int (nI ((i + 1))))]) [3, 4, 5, 1, 0] rfl ?_
                exact ih (i + 1) 1 bv m1 E90 (by omega) hE90 (fun j hj => (((hO90 j (by omega)).trans (hO63 j (by omega))).trans (hfr5 j (by omega)))) (by omega) (Or.inr ⟨rfl, by rw [(hF_t c26).1]; omega⟩) (fun _ => ⟨by rw [(lsB_t c26 (by omega)).1, ← ebv, ← (hl (by omega)).1, if_pos (Int64.not_le.mp c50)], by rw [(lsB_t c26 (by omega)).2, ← ebv, ← (hl (by omega)).2, if_neg (Int64.not_lt.mpr c77)]⟩)
              · refine g_lload F (q := 83) (dk dX7_spreadAt 44 rfl) rfl 0 rfl ?_
                refine g_goto F (tgt := 90) (dk dX7_spreadAt 45 rfl) (by decide) ?_
                refine g_putf F (q := 93) (ty := .long) hE63 rfl inX7 tyX7 tyX7_ok nmX7 (by omega) (j := 15) (by decide) tq_638 rfl rfl (by decide +kernel) rfl rfl (Nat.le_of_ble_eq_true rfl) (dk dX7_spreadAt 48 rfl) rfl (fun E90 hE90 hO90 => ?_)
                have hE90 : E90 233 = .inr (7, [.ref (ad 234), .ref (ad 235), .ref (ad 236), .ref (ad 237), .int s0, .int s1, .ref (ad 238), .int s2, .int s3, .int s4, .int s5, .ref (ad 239), .ref (ad 240), .ref (ad 241), .long bv, .long bv, .ref (ad 242)]) := hE90
                refine g_iconst F (q := 94) (v := 1) (dk dX7_spreadAt 49 rfl) rfl (by decide) ?_
                refine g_istore_n F (q := 95) (lv' := [(3, .int 1), (5, .long bv), (0, .ref (ad 233)), (1, .int (nI kn)), (2, .int xx), (4, .int (nI i))]) (dk dX7_spreadAt 50 rfl) rfl rfl (Nat.le_of_ble_eq_true rfl) rfl ?_
                refine g_iinc F (q := 98) (v := (nI ((i + 1)))) (lv' := [(4, .int (nI ((i + 1)))), (3, .int 1), (5, .long bv), (0, .ref (ad 233)), (1, .int (nI kn)), (2, .int xx)]) (dk dX7_spreadAt 51 rfl) rfl 5 rfl (nI_1 _) (Nat.le_of_ble_eq_true rfl) rfl ?_
                refine g_goto F (tgt := 5) (dk dX7_spreadAt 52 rfl) (by decide) ?_
                refine g_lv (lv' := [(0, .ref (ad 233)), (1, .int (nI kn)), (2, .int xx), (3, .int 1), (4, .int (nI ((i + 1))))]) [3, 4, 5, 1, 0] rfl ?_
                exact ih (i + 1) 1 bv bv E90 (by omega) hE90 (fun j hj => (((hO90 j (by omega)).trans (hO63 j (by omega))).trans (hfr5 j (by omega)))) (by omega) (Or.inr ⟨rfl, by rw [(hF_t c26).1]; omega⟩) (fun _ => ⟨by rw [(lsB_t c26 (by omega)).1, ← ebv, ← (hl (by omega)).1, if_pos (Int64.not_le.mp c50)], by rw [(lsB_t c26 (by omega)).2, ← ebv, ← (hl (by omega)).2, if_pos (Int64.not_le.mp c77)]⟩)
  refine g_lv (lv' := [(0, .ref (ad 233)), (1, .int (nI kn)), (2, .int xx), (3, .int 0), (4, .int 0)]) [2, 3, 4, 1, 0] rfl ?_
  exact K5 _ 0 0 lo mo E (Nat.lt_succ_self _) h233 (fun j _ => rfl) (by omega) (Or.inl ⟨rfl, rfl⟩) (fun h => absurd h (Nat.not_lt_zero _))
theorem kv_X7_spreadAt : KV yX7_spreadAt "ThumpEarsModel" cX7_spreadAt 7 (some .long) 2 := ⟨tq_887, tq_35, tq_47, tq_888, by decide +kernel⟩
abbrev rm_X7_placeOf : Room := { frames := 5, cells := 0, slots := 0, locals := 116 }
set_option maxHeartbeats 4000000 in
set_option maxRecDepth 100000 in
theorem c_X7_placeOf {l : Launch} {D : va_G} {cA : Nat → ClassId} {ad : Nat → Nat} {E : Nat → va_E} {s0 s1 s2 s3 s4 s5 : Int32} {lo mo : Int64} {r rd er th : Nat → Int32} {ne nt nk : Nat} {rt : Nat → Int64} {kn : Nat}  (h233 : E 233 = .inr (7, [.ref (ad 234), .ref (ad 235), .ref (ad 236), .ref (ad 237), .int s0, .int s1, .ref (ad 238), .int s2, .int s3, .int s4, .int s5, .ref (ad 239), .ref (ad 240), .ref (ad 241), .long lo, .long mo, .ref (ad 242)])) (h234 : E 234 = .inl (cA 0, 346, .inl r)) (h239 : E 239 = .inl (cA 0, 10, .inl rd)) (h240 : E 240 = .inl (cA 0, 10, .inl er)) (h241 : E 241 = .inl (cA 0, 10, .inl th)) (h242 : E 242 = .inl (cA 1, 10, .inr (.inl rt)))  (hk : kn < nk) (hI : Inv r ne nt nk) (hc : 0 < hC r kn ne) : CtI l D cA yX7_placeOf cX7_placeOf 8 .int rm_X7_placeOf 243 ad E [.ref (ad 233), .int (nI kn)] (fun x E' => ∃ (m2 : Int32) (l2 : Int64) (mo2 : Int64) (rd1 : Nat → Int32) (er1 : Nat → Int32) (th1 : Nat → Int32) (rt1 : Nat → Int64), (nI ((plc r ne nt kn))) = x ∧ E' 233 = .inr (7, [.ref (ad 234), .ref (ad 235), .ref (ad 236), .ref (ad 237), .int s0, .int s1, .ref (ad 238), .int s2, .int s3, .int s4, .int m2, .ref (ad 239), .ref (ad 240), .ref (ad 241), .long l2, .long mo2, .ref (ad 242)]) ∧ E' 239 = .inl (cA 0, 10, .inl rd1) ∧ E' 240 = .inl (cA 0, 10, .inl er1) ∧ E' 241 = .inl (cA 0, 10, .inl th1) ∧ E' 242 = .inl (cA 1, 10, .inr (.inl rt1)) ∧ (∀ e, e < ne → rt1 e = rgO r nt kn e) ∧ ∀ j, (j ≠ 233 ∧ j ≠ 239 ∧ j ≠ 240 ∧ j ≠ 241 ∧ j ≠ 242) → E' j = E j) := by
  refine CtI.of (by decide +kernel) (Nat.le_of_ble_eq_true rfl) (fun X F hret => ?_)
  have F : Fr "ThumpEarsModel" cX7_placeOf 8 D cA X := F
  refine (show GG rm_X7_placeOf 8 l D X 0 0 243 ad E 0 [(0, .ref (ad 233)), (1, .int (nI kn))] [] from ?_)
  have hnk := hI.e2
  have hne := hI.e0
  have hnt := hI.e1
  refine g_aload_n F (q := 1) (dk dX7_placeOf 0 rfl) rfl rfl 0 rfl ?_
  refine g_iload_n F (q := 2) (dk dX7_placeOf 1 rfl) rfl rfl 1 rfl ?_
  refine g_callVV F (q := 5) (av := [.int (nI kn)]) (st := []) (c_X7_findRight (kn := kn) h233 h234 h239 h240 h241 h242 (by first | assumption | decide | omega) (by first | assumption | decide | omega)) kv_X7_findRight tq_881 h233 rfl (by omega) ⟨rfl, rfl⟩ (by decide) ⟨Nat.le_refl _, Nat.le_refl _⟩ rfl rfl (Nat.le_of_ble_eq_true rfl) (dk dX7_placeOf 2 rfl) rfl (fun E2 hp2 => ?_)
  obtain ⟨m2_2, rd1_2, er1_2, th1_2, rt1_2, hK233_2, hK239_2, hK240_2, hK241_2, hK242_2, hR_2, hF2⟩ := hp2
  refine g_iconst F (q := 6) (v := 0) (dk dX7_placeOf 3 rfl) rfl (by decide) ?_
  refine g_istore_n F (q := 7) (lv' := [(2, .int 0), (0, .ref (ad 233)), (1, .int (nI kn))]) (dk dX7_placeOf 4 rfl) rfl rfl (Nat.le_of_ble_eq_true rfl) rfl ?_
  refine g_lconst F (q := 8) (v := 0) (dk dX7_placeOf 5 rfl) rfl (by decide) ?_
  refine g_lstore_n F (q := 9) (lv' := [(3, .long 0), (2, .int 0), (0, .ref (ad 233)), (1, .int (nI kn))]) (dk dX7_placeOf 6 rfl) rfl rfl (Nat.le_of_ble_eq_true rfl) rfl ?_
  refine g_iconst F (q := 10) (v := 0) (dk dX7_placeOf 7 rfl) rfl (by decide) ?_
  refine g_istore F (q := 12) (lv' := [(5, .int 0), (3, .long 0), (2, .int 0), (0, .ref (ad 233)), (1, .int (nI kn))]) (dk dX7_placeOf 8 rfl) rfl (Nat.le_of_ble_eq_true rfl) rfl ?_
  have K12 : ∀ (fu : Nat) (x : Nat) (b : Nat) (s : Int64) (l1 : Int64) (m1 : Int64) (E1 : Nat → va_E), 1001 - x < fu → (h3 : E1 233 = .inr (7, [.ref (ad 234), .ref (ad 235), .ref (ad 236), .ref (ad 237), .int s0, .int s1, .ref (ad 238), .int s2, .int s3, .int s4, .int m2_2, .ref (ad 239), .ref (ad 240), .ref (ad 241), .long l1, .long m1, .ref (ad 242)])) → (hfr12 : ∀ j, (j ≠ 233) → E1 j = E2 j) → (hx : x ≤ 1001) → (hb : 0 < x → (b, s) = bsF (fun x => spW r ne nt kn (nI x)) (x - 1)) → GG rm_X7_placeOf 8 l D X 0 0 243 ad E1 12 [(0, .ref (ad 233)), (1, .int (nI kn)), (2, .int (nI b)), (3, .long s), (5, .int (nI x))] [] := by
    intro fu
    induction fu with
    | zero => intro x b s l1 m1 E1 hfu_; exact absurd hfu_ (Nat.not_lt_zero _)
    | succ fu ih =>
      intro x b s l1 m1 E1 hfu_ h3 hfr12 hx hb
      refine g_iload F (q := 14) (dk dX7_placeOf 9 rfl) rfl 4 rfl ?_
      refine g_sipush F (q := 17) (v := 1000) (dk dX7_placeOf 10 rfl) rfl (by decide) ?_
      refine g_icmp_gt F (q := 20) (tgt := 53) (dk dX7_placeOf 11 rfl) (by decide) rfl (fun c17 => ?_) (fun c17 => ?_)
      · have nc17 : 1000 < x := (nI_ltI (a := 1000) (b := x) (by omega) (by omega)).mp c17
        refine g_iload_n F (q := 54) (dk dX7_placeOf 29 rfl) rfl rfl 2 rfl ?_
        have hc1 := (hfr12 239 (by omega)).trans hK239_2
        have hc2 := (hfr12 240 (by omega)).trans hK240_2
        have hc3 := (hfr12 241 (by omega)).trans hK241_2
        have hc4 := (hfr12 242 (by omega)).trans hK242_2
        refine hret (nI b) E1 _ _ (dk dX7_placeOf 30 rfl) (nint _) ?_
        exact ⟨_, _, _, _, _, _, _, (by rw [plc_at (n := x - 1) (by omega)]; unfold plcN; rw [← hb (by omega)]), h3, hc1, hc2, hc3, hc4, hR_2, (fun j hj => ((hfr12 j (by omega)).trans (hF2 j (by omega))))⟩
      · have nc17 : ¬ 1000 < x := fun h => c17 ((nI_ltI (a := 1000) (b := x) (by omega) (by omega)).mpr h)
        refine g_aload_n F (q := 21) (dk dX7_placeOf 12 rfl) rfl rfl 0 rfl ?_
        refine g_iload_n F (q := 22) (dk dX7_placeOf 13 rfl) rfl rfl 1 rfl ?_
        refine g_iload F (q := 24) (dk dX7_placeOf 14 rfl) rfl 4 rfl ?_
        have hc5 := (hF2 234 (by omega)).trans h234
        have hc6 := (hfr12 234 (by omega)).trans hc5
        have hc7 := (hfr12 242 (by omega)).trans hK242_2
        refine g_callVL F (q := 27) (av := [.int (nI kn), .int (nI x)]) (st := []) (c_X7_spreadAt (kn := kn) (xx := (nI x)) h3 hc6 hc7 (by first | assumption | decide | omega) (by first | assumption | decide | omega) (by first | assumption | decide | omega)) kv_X7_spreadAt tq_885 h3 rfl (by omega) ⟨rfl, rfl⟩ (by decide) ⟨Nat.le_refl _, Nat.le_refl _⟩ rfl rfl (Nat.le_of_ble_eq_true rfl) (dk dX7_placeOf 15 rfl) rfl (fun r24 E24 hp24 => ?_)
        obtain ⟨l2_24, m2_24, rfl, hK233_24, hl_24, hF24⟩ := hp24
        refine g_stl (y := (spW r ne nt kn (nI x))) (by rw [(hl_24 hc).1, (hl_24 hc).2]; rfl) ?_
        refine g_lstore F (q := 29) (lv' := [(6, .long (spW r ne nt kn (nI x))), (0, .ref (ad 233)), (1, .int (nI kn)), (2, .int (nI b)), (3, .long s), (5, .int (nI x))]) (dk dX7_placeOf 16 rfl) rfl (Nat.le_of_ble_eq_true rfl) rfl ?_
        refine g_iload F (q := 31) (dk dX7_placeOf 17 rfl) rfl 5 rfl ?_
        refine g_if_eq F (q := 34) (tgt := 41) (dk dX7_placeOf 18 rfl) (by decide) rfl (fun c31 => ?_) (fun c31 => ?_)
        · have nc31 : x = 0 := (nI_eq (a := x) (b := 0) (by omega) (by omega)).mp c31
          refine g_iload F (q := 43) (dk dX7_placeOf 23 rfl) rfl 5 rfl ?_
          refine g_istore_n F (q := 44) (lv' := [(2, .int (nI x)), (6, .long (spW r ne nt kn (nI x))), (0, .ref (ad 233)), (1, .int (nI kn)), (3, .long s), (5, .int (nI x))]) (dk dX7_placeOf 24 rfl) rfl rfl (Nat.le_of_ble_eq_true rfl) rfl ?_
          refine g_lload F (q := 46) (dk dX7_placeOf 25 rfl) rfl 1 rfl ?_
          refine g_lstore_n F (q := 47) (lv' := [(3, .long (spW r ne nt kn (nI x))), (2, .int (nI x)), (6, .long (spW r ne nt kn (nI x))), (0, .ref (ad 233)), (1, .int (nI kn)), (5, .int (nI x))]) (dk dX7_placeOf 26 rfl) rfl rfl (Nat.le_of_ble_eq_true rfl) rfl ?_
          refine g_iinc F (q := 50) (v := (nI ((x + 1)))) (lv' := [(5, .int (nI ((x + 1)))), (3, .long (spW r ne nt kn (nI x))), (2, .int (nI x)), (6, .long (spW r ne nt kn (nI x))), (0, .ref (ad 233)), (1, .int (nI kn))]) (dk dX7_placeOf 27 rfl) rfl 5 rfl (nI_1 _) (Nat.le_of_ble_eq_true rfl) rfl ?_
          refine g_goto F (tgt := 12) (dk dX7_placeOf 28 rfl) (by decide) ?_
          refine g_lv (lv' := [(0, .ref (ad 233)), (1, .int (nI kn)), (2, .int (nI x)), (3, .long (spW r ne nt kn (nI x))), (5, .int (nI ((x + 1))))]) [4, 5, 2, 1, 0] rfl ?_
          exact ih (x + 1) x (spW r ne nt kn (nI x)) l2_24 m2_24 E24 (by omega) hK233_24 (fun j hj => ((hF24 j (by omega)).trans (hfr12 j (by omega)))) (by omega) (fun _ => by subst nc31; rfl)
        · have nc31 : ¬ x = 0 := fun h => c31 ((nI_eq (a := x) (b := 0) (by omega) (by omega)).mpr h)
          refine g_lload F (q := 36) (dk dX7_placeOf 19 rfl) rfl 0 rfl ?_
          refine g_lload_n F (q := 37) (dk dX7_placeOf 20 rfl) rfl rfl 4 rfl ?_
          refine g_lcmp_ge F (q := 41) (tgt := 47) (dk dX7_placeOf 21 rfl) (dk dX7_placeOf 22 rfl) (by decide) rfl (fun c37 => ?_) (fun c37 => ?_)
          · refine g_iinc F (q := 50) (v := (nI ((x + 1)))) (lv' := [(5, .int (nI ((x + 1)))), (6, .long (spW r ne nt kn (nI x))), (0, .ref (ad 233)), (1, .int (nI kn)), (2, .int (nI b)), (3, .long s)]) (dk dX7_placeOf 27 rfl) rfl 5 rfl (nI_1 _) (Nat.le_of_ble_eq_true rfl) rfl ?_
            refine g_goto F (tgt := 12) (dk dX7_placeOf 28 rfl) (by decide) ?_
            refine g_lv (lv' := [(0, .ref (ad 233)), (1, .int (nI kn)), (2, .int (nI b)), (3, .long s), (5, .int (nI ((x + 1))))]) [2, 3, 4, 5, 0] rfl ?_
            exact ih (x + 1) b s l2_24 m2_24 E24 (by omega) hK233_24 (fun j hj => ((hF24 j (by omega)).trans (hfr12 j (by omega)))) (by omega) (by intro _; obtain ⟨y, rfl⟩ : ∃ y, x = y + 1 := ⟨x - 1, by omega⟩; have hb2 := hb (by omega); rw [Nat.add_sub_cancel] at hb2 ⊢; unfold bsF; rw [← hb2, if_neg (Int64.not_lt.mpr c37)])
          · refine g_iload F (q := 43) (dk dX7_placeOf 23 rfl) rfl 5 rfl ?_
            refine g_istore_n F (q := 44) (lv' := [(2, .int (nI x)), (6, .long (spW r ne nt kn (nI x))), (0, .ref (ad 233)), (1, .int (nI kn)), (3, .long s), (5, .int (nI x))]) (dk dX7_placeOf 24 rfl) rfl rfl (Nat.le_of_ble_eq_true rfl) rfl ?_
            refine g_lload F (q := 46) (dk dX7_placeOf 25 rfl) rfl 1 rfl ?_
            refine g_lstore_n F (q := 47) (lv' := [(3, .long (spW r ne nt kn (nI x))), (2, .int (nI x)), (6, .long (spW r ne nt kn (nI x))), (0, .ref (ad 233)), (1, .int (nI kn)), (5, .int (nI x))]) (dk dX7_placeOf 26 rfl) rfl rfl (Nat.le_of_ble_eq_true rfl) rfl ?_
            refine g_iinc F (q := 50) (v := (nI ((x + 1)))) (lv' := [(5, .int (nI ((x + 1)))), (3, .long (spW r ne nt kn (nI x))), (2, .int (nI x)), (6, .long (spW r ne nt kn (nI x))), (0, .ref (ad 233)), (1, .int (nI kn))]) (dk dX7_placeOf 27 rfl) rfl 5 rfl (nI_1 _) (Nat.le_of_ble_eq_true rfl) rfl ?_
            refine g_goto F (tgt := 12) (dk dX7_placeOf 28 rfl) (by decide) ?_
            refine g_lv (lv' := [(0, .ref (ad 233)), (1, .int (nI kn)), (2, .int (nI x)), (3, .long (spW r ne nt kn (nI x))), (5, .int (nI ((x + 1))))]) [4, 5, 2, 1, 0] rfl ?_
            exact ih (x + 1) x (spW r ne nt kn (nI x)) l2_24 m2_24 E24 (by omega) hK233_24 (fun j hj => ((hF24 j (by omega)).trans (hfr12 j (by omega)))) (by omega) (by intro _; obtain ⟨y, rfl⟩ : ∃ y, x = y + 1 := ⟨x - 1, by omega⟩; have hb2 := hb (by omega); rw [Nat.add_sub_cancel] at hb2 ⊢; unfold bsF; rw [← hb2, if_pos (Int64.not_le.mp c37)])
  refine g_lv (lv' := [(0, .ref (ad 233)), (1, .int (nI kn)), (2, .int 0), (3, .long 0), (5, .int 0)]) [3, 4, 2, 1, 0] rfl ?_
  exact K12 _ 0 0 0 lo mo E2 (Nat.lt_succ_self _) hK233_2 (fun j _ => rfl) (by omega) (fun h => absurd h (Nat.not_lt_zero _))
theorem kv_X7_placeOf : KV yX7_placeOf "ThumpEarsModel" cX7_placeOf 8 (some .int) 1 := ⟨tq_879, tq_33, tq_47, tq_880, by decide +kernel⟩
