abbrev rm_X7_worst : Room := { frames := 2, cells := 0, slots := 0, locals := 46 }
set_option maxHeartbeats 4000000 in
set_option maxRecDepth 100000 in
theorem c_X7_worst {l : Launch} {D : va_G} {cA : Nat → ClassId} {ad : Nat → Nat} {E : Nat → va_E} {s0 s1 s2 s3 s4 s5 : Int32} {lo mo : Int64} {r : Nat → Int32} {ne nt nk : Nat} {rt : Nat → Int64} {kn : Nat} {xx : Int32} {t : Int64} (h233 : E 233 = .inr (7, [.ref (ad 234), .ref (ad 235), .ref (ad 236), .ref (ad 237), .int s0, .int s1, .ref (ad 238), .int s2, .int s3, .int s4, .int s5, .ref (ad 239), .ref (ad 240), .ref (ad 241), .long lo, .long mo, .ref (ad 242)])) (h234 : E 234 = .inl (cA 0, 346, .inl r)) (h242 : E 242 = .inl (cA 1, 10, .inr (.inl rt)))  (hk : kn < nk) (hV : Inv r ne nt nk) (hR : ∀ e, e < ne → rt e = rgO r nt kn e) (hc : 0 < hC r kn ne) (hnn : ∀ e, e < ne → ¬ r (146 + 100 * 1 + 10 * kn + e) = MISS → -1 < ab64 (bg r nt kn xx e - t)) : CtI l D cA yX7_worst cX7_worst 11 .int rm_X7_worst 243 ad E [.ref (ad 233), .int (nI kn), .int xx, .long t] (fun x E' => (nI ((wrE r ne nt kn xx t))) = x ∧ E = E') := by
  refine CtI.of (by decide +kernel) (Nat.le_of_ble_eq_true rfl) (fun X F hret => ?_)
  have F : Fr "ThumpEarsModel" cX7_worst 11 D cA X := F
  refine (show GG rm_X7_worst 11 l D X 0 0 243 ad E 0 [(0, .ref (ad 233)), (1, .int (nI kn)), (2, .int xx), (3, .long t)] [] from ?_)
  have hnk := hV.e2
  have hne := hV.e0
  have hnt := hV.e1
  refine g_bipush F (q := 2) (v := (-5)) (dk dX7_worst 0 rfl) rfl (by decide) ?_
  refine g_istore F (q := 4) (lv' := [(5, .int (-5)), (0, .ref (ad 233)), (1, .int (nI kn)), (2, .int xx), (3, .long t)]) (dk dX7_worst 1 rfl) rfl (Nat.le_of_ble_eq_true rfl) rfl ?_
  refine g_ldc2 F (q := 7) (v := (-1)) (dk dX7_worst 2 rfl) rfl tq_898 ?_
  refine g_lstore F (q := 9) (lv' := [(6, .long (-1)), (5, .int (-5)), (0, .ref (ad 233)), (1, .int (nI kn)), (2, .int xx), (3, .long t)]) (dk dX7_worst 3 rfl) rfl (Nat.le_of_ble_eq_true rfl) rfl ?_
  refine g_iconst F (q := 10) (v := 0) (dk dX7_worst 4 rfl) rfl (by decide) ?_
  refine g_istore F (q := 12) (lv' := [(8, .int 0), (6, .long (-1)), (5, .int (-5)), (0, .ref (ad 233)), (1, .int (nI kn)), (2, .int xx), (3, .long t)]) (dk dX7_worst 5 rfl) rfl (Nat.le_of_ble_eq_true rfl) rfl ?_
  have K12 : ∀ (fu : Nat) (i : Nat) (wv : Int32) (fv : Int64), ne - i < fu → (hi : i ≤ ne) → (hw : (hC r kn i = 0 ∧ wv = -5 ∧ fv = -1) ∨ (0 < hC r kn i ∧ wv = nI (hI r kn i (wsA r nt kn xx t i).1) ∧ fv = (wsA r nt kn xx t i).2)) → GG rm_X7_worst 11 l D X 0 0 243 ad E 12 [(0, .ref (ad 233)), (1, .int (nI kn)), (2, .int xx), (3, .long t), (5, .int wv), (6, .long fv), (8, .int (nI i))] [] := by
    intro fu
    induction fu with
    | zero => intro i wv fv hfu_; exact absurd hfu_ (Nat.not_lt_zero _)
    | succ fu ih =>
      intro i wv fv hfu_ hi hw
      refine g_iload F (q := 14) (dk dX7_worst 6 rfl) rfl 6 rfl ?_
      refine g_aload_n F (q := 15) (dk dX7_worst 7 rfl) rfl rfl 0 rfl ?_
      refine g_getf F (q := 18) h233 rfl inX7 (by omega) (j := 0) (by decide) tq_623 rfl rfl (dk dX7_worst 8 rfl) rfl ?_
      refine g_iconst F (q := 19) (v := 0) (dk dX7_worst 9 rfl) rfl (by decide) ?_
      refine g_iald F (q := 20) 0 h234 (by omega) rfl (by omega) (by decide) (dk dX7_worst 10 rfl) rfl ?_
      refine g_sti (y := (nI ne)) hV.h0 ?_
      refine g_icmp_ge F (q := 23) (tgt := 105) (dk dX7_worst 11 rfl) (by decide) rfl (fun c20 => ?_) (fun c20 => ?_)
      · have nc20 : ne ≤ i := (nI_leI (a := ne) (b := i) (by omega) (by omega)).mp c20
        refine g_iload F (q := 107) (dk dX7_worst 54 rfl) rfl 4 rfl ?_
        refine hret wv E _ _ (dk dX7_worst 55 rfl) (nint _) ?_
        have hie : i = ne := by omega
        subst hie
        exact ⟨by rcases hw with h | h; exact absurd h.1 (by omega); exact h.2.1.symm, rfl⟩
      · have nc20 : ¬ ne ≤ i := fun h => c20 ((nI_leI (a := ne) (b := i) (by omega) (by omega)).mpr h)
        refine g_aload_n F (q := 24) (dk dX7_worst 12 rfl) rfl rfl 0 rfl ?_
        refine g_iconst F (q := 25) (v := 1) (dk dX7_worst 13 rfl) rfl (by decide) ?_
        refine g_iload_n F (q := 26) (dk dX7_worst 14 rfl) rfl rfl 1 rfl ?_
        refine g_iload F (q := 28) (dk dX7_worst 15 rfl) rfl 6 rfl ?_
        refine g_callVI F (q := 31) (av := [.int 1, .int (nI kn), .int (nI i)]) (st := []) (c_X7_heardOf (k := 1) (m := kn) (e := i) h233 h234 (by first | assumption | decide | omega)) kv_X7_heardOf tq_822 h233 rfl (by omega) ⟨rfl, rfl⟩ (by decide) ⟨Nat.le_refl _, Nat.le_refl _⟩ rfl rfl (Nat.le_of_ble_eq_true rfl) (dk dX7_worst 16 rfl) rfl (fun r28 E28 hp28 => ?_)
        obtain ⟨rfl, rfl⟩ := hp28
        refine g_ldc F (q := 33) (v := (-1000000000)) (dk dX7_worst 17 rfl) rfl tq_622 ?_
        refine g_sti (y := MISS) rfl ?_
        refine g_icmp_eq F (q := 36) (tgt := 99) (dk dX7_worst 18 rfl) (by decide) rfl (fun c33 => ?_) (fun c33 => ?_)
        · refine g_iinc F (q := 102) (v := (nI ((i + 1)))) (lv' := [(8, .int (nI ((i + 1)))), (0, .ref (ad 233)), (1, .int (nI kn)), (2, .int xx), (3, .long t), (5, .int wv), (6, .long fv)]) (dk dX7_worst 52 rfl) rfl 6 rfl (nI_1 _) (Nat.le_of_ble_eq_true rfl) rfl ?_
          refine g_goto F (tgt := 12) (dk dX7_worst 53 rfl) (by decide) ?_
          refine g_lv (lv' := [(0, .ref (ad 233)), (1, .int (nI kn)), (2, .int xx), (3, .long t), (5, .int wv), (6, .long fv), (8, .int (nI ((i + 1))))]) [1, 2, 3, 4, 5, 6, 0] rfl ?_
          exact ih (i + 1) wv fv (by omega) (by omega) (by rw [(hF_f c33).1, (hF_f c33).2, wsA_f c33]; exact hw)
        · refine g_aload_n F (q := 37) (dk dX7_worst 19 rfl) rfl rfl 0 rfl ?_
          refine g_iload_n F (q := 38) (dk dX7_worst 20 rfl) rfl rfl 1 rfl ?_
          refine g_iload F (q := 40) (dk dX7_worst 21 rfl) rfl 6 rfl ?_
          refine g_iload_n F (q := 41) (dk dX7_worst 22 rfl) rfl rfl 2 rfl ?_
          refine g_callVL F (q := 44) (av := [.int (nI kn), .int (nI i), .int xx]) (st := []) (c_X7_beginning (kn := kn) (e := i) (xx := xx) h233 h234 h242 (by first | assumption | decide | omega) (by first | assumption | decide | omega)) kv_X7_beginning tq_889 h233 rfl (by omega) ⟨rfl, rfl⟩ (by decide) ⟨Nat.le_refl _, Nat.le_refl _⟩ rfl rfl (Nat.le_of_ble_eq_true rfl) (dk dX7_worst 23 rfl) rfl (fun r41 E41 hp41 => ?_)
          obtain ⟨rfl, rfl⟩ := hp41
          refine g_stl (y := (bg r nt kn xx i)) (by rw [hR i (by omega)]; unfold rgO; rw [if_neg c33]; rfl) ?_
          refine g_lload_n F (q := 45) (dk dX7_worst 24 rfl) rfl rfl 3 rfl ?_
          refine g_lsub F (q := 46) (dk dX7_worst 25 rfl) rfl ?_
          refine g_topl (fun dv edv => ?_)
          refine g_lstore F (q := 48) (lv' := [(9, .long dv), (0, .ref (ad 233)), (1, .int (nI kn)), (2, .int xx), (3, .long t), (5, .int wv), (6, .long fv), (8, .int (nI i))]) (dk dX7_worst 26 rfl) rfl (Nat.le_of_ble_eq_true rfl) rfl ?_
          refine g_lload F (q := 50) (dk dX7_worst 27 rfl) rfl 0 rfl ?_
          refine g_lconst F (q := 51) (v := 0) (dk dX7_worst 28 rfl) rfl (by decide) ?_
          refine g_lcmp_ge F (q := 55) (tgt := 61) (dk dX7_worst 29 rfl) (dk dX7_worst 30 rfl) (by decide) rfl (fun c51 => ?_) (fun c51 => ?_)
          · refine g_lload F (q := 63) (dk dX7_worst 34 rfl) rfl 0 rfl ?_
            refine g_topl (fun av eav => ?_)
            refine g_lstore F (q := 65) (lv' := [(9, .long av), (0, .ref (ad 233)), (1, .int (nI kn)), (2, .int xx), (3, .long t), (5, .int wv), (6, .long fv), (8, .int (nI i))]) (dk dX7_worst 35 rfl) rfl (Nat.le_of_ble_eq_true rfl) rfl ?_
            have ea : av = ab64 (bg r nt kn xx i - t) := by rw [← edv]; unfold ab64; rw [if_neg (Int64.not_lt.mpr c51)]; exact eav
            refine g_lload F (q := 67) (dk dX7_worst 36 rfl) rfl 0 rfl ?_
            refine g_lload F (q := 69) (dk dX7_worst 37 rfl) rfl 6 rfl ?_
            refine g_lcmp_le F (q := 73) (tgt := 78) (dk dX7_worst 38 rfl) (dk dX7_worst 39 rfl) (by decide) rfl (fun c69 => ?_) (fun c69 => ?_)
            · refine g_iload F (q := 80) (dk dX7_worst 42 rfl) rfl 5 rfl ?_
              refine g_istore F (q := 82) (lv' := [(5, .int wv), (9, .long av), (0, .ref (ad 233)), (1, .int (nI kn)), (2, .int xx), (3, .long t), (6, .long fv), (8, .int (nI i))]) (dk dX7_worst 43 rfl) rfl (Nat.le_of_ble_eq_true rfl) rfl ?_
              refine g_lload F (q := 84) (dk dX7_worst 44 rfl) rfl 1 rfl ?_
              refine g_lload F (q := 86) (dk dX7_worst 45 rfl) rfl 6 rfl ?_
              refine g_lcmp_le F (q := 90) (tgt := 95) (dk dX7_worst 46 rfl) (dk dX7_worst 47 rfl) (by decide) rfl (fun c86 => ?_) (fun c86 => absurd c86 (fun h => h c69))
              refine g_lload F (q := 97) (dk dX7_worst 50 rfl) rfl 6 rfl ?_
              refine g_lstore F (q := 99) (lv' := [(6, .long fv), (5, .int wv), (9, .long av), (0, .ref (ad 233)), (1, .int (nI kn)), (2, .int xx), (3, .long t), (8, .int (nI i))]) (dk dX7_worst 51 rfl) rfl (Nat.le_of_ble_eq_true rfl) rfl ?_
              refine g_iinc F (q := 102) (v := (nI ((i + 1)))) (lv' := [(8, .int (nI ((i + 1)))), (6, .long fv), (5, .int wv), (9, .long av), (0, .ref (ad 233)), (1, .int (nI kn)), (2, .int xx), (3, .long t)]) (dk dX7_worst 52 rfl) rfl 7 rfl (nI_1 _) (Nat.le_of_ble_eq_true rfl) rfl ?_
              refine g_goto F (tgt := 12) (dk dX7_worst 53 rfl) (by decide) ?_
              have hv1 : -1 < av := by rw [ea]; exact hnn i (by omega) c33
              refine g_lv (lv' := [(0, .ref (ad 233)), (1, .int (nI kn)), (2, .int xx), (3, .long t), (5, .int wv), (6, .long fv), (8, .int (nI ((i + 1))))]) [4, 5, 6, 7, 2, 1, 0] rfl ?_
              exact ih (i + 1) wv fv (by omega) (by omega) (wsJ_f hw c33 hv1 ea c69)
            · refine g_iload F (q := 75) (dk dX7_worst 40 rfl) rfl 7 rfl ?_
              refine g_goto F (tgt := 80) (dk dX7_worst 41 rfl) (by decide) ?_
              refine g_istore F (q := 82) (lv' := [(5, .int (nI i)), (9, .long av), (0, .ref (ad 233)), (1, .int (nI kn)), (2, .int xx), (3, .long t), (6, .long fv), (8, .int (nI i))]) (dk dX7_worst 43 rfl) rfl (Nat.le_of_ble_eq_true rfl) rfl ?_
              refine g_lload F (q := 84) (dk dX7_worst 44 rfl) rfl 1 rfl ?_
              refine g_lload F (q := 86) (dk dX7_worst 45 rfl) rfl 6 rfl ?_
              refine g_lcmp_le F (q := 90) (tgt := 95) (dk dX7_worst 46 rfl) (dk dX7_worst 47 rfl) (by decide) rfl (fun c86 => absurd c86 (Int64.not_le.mpr (Int64.not_le.mp c69))) (fun c86 => ?_)
              refine g_lload F (q := 92) (dk dX7_worst 48 rfl) rfl 1 rfl ?_
              refine g_goto F (tgt := 97) (dk dX7_worst 49 rfl) (by decide) ?_
              refine g_lstore F (q := 99) (lv' := [(6, .long av), (5, .int (nI i)), (9, .long av), (0, .ref (ad 233)), (1, .int (nI kn)), (2, .int xx), (3, .long t), (8, .int (nI i))]) (dk dX7_worst 51 rfl) rfl (Nat.le_of_ble_eq_true rfl) rfl ?_
              refine g_iinc F (q := 102) (v := (nI ((i + 1)))) (lv' := [(8, .int (nI ((i + 1)))), (6, .long av), (5, .int (nI i)), (9, .long av), (0, .ref (ad 233)), (1, .int (nI kn)), (2, .int xx), (3, .long t)]) (dk dX7_worst 52 rfl) rfl 7 rfl (nI_1 _) (Nat.le_of_ble_eq_true rfl) rfl ?_
              refine g_goto F (tgt := 12) (dk dX7_worst 53 rfl) (by decide) ?_
              have hv1 : -1 < av := by rw [ea]; exact hnn i (by omega) c33
              refine g_lv (lv' := [(0, .ref (ad 233)), (1, .int (nI kn)), (2, .int xx), (3, .long t), (5, .int (nI i)), (6, .long av), (8, .int (nI ((i + 1))))]) [4, 5, 6, 7, 2, 1, 0] rfl ?_
              exact ih (i + 1) (nI i) av (by omega) (by omega) (wsJ_t hw c33 hv1 ea c69)
          · refine g_lload F (q := 57) (dk dX7_worst 31 rfl) rfl 0 rfl ?_
            refine g_lneg F (q := 58) (dk dX7_worst 32 rfl) rfl ?_
            refine g_goto F (tgt := 63) (dk dX7_worst 33 rfl) (by decide) ?_
            refine g_topl (fun av eav => ?_)
            refine g_lstore F (q := 65) (lv' := [(9, .long av), (0, .ref (ad 233)), (1, .int (nI kn)), (2, .int xx), (3, .long t), (5, .int wv), (6, .long fv), (8, .int (nI i))]) (dk dX7_worst 35 rfl) rfl (Nat.le_of_ble_eq_true rfl) rfl ?_
            have ea : av = ab64 (bg r nt kn xx i - t) := by rw [← edv]; unfold ab64; rw [if_pos (Int64.not_le.mp c51)]; exact eav
            refine g_lload F (q := 67) (dk dX7_worst 36 rfl) rfl 0 rfl ?_
            refine g_lload F (q := 69) (dk dX7_worst 37 rfl) rfl 6 rfl ?_
            refine g_lcmp_le F (q := 73) (tgt := 78) (dk dX7_worst 38 rfl) (dk dX7_worst 39 rfl) (by decide) rfl (fun c69 => ?_) (fun c69 => ?_)
            · refine g_iload F (q := 80) (dk dX7_worst 42 rfl) rfl 5 rfl ?_
              refine g_istore F (q := 82) (lv' := [(5, .int wv), (9, .long av), (0, .ref (ad 233)), (1, .int (nI kn)), (2, .int xx), (3, .long t), (6, .long fv), (8, .int (nI i))]) (dk dX7_worst 43 rfl) rfl (Nat.le_of_ble_eq_true rfl) rfl ?_
              refine g_lload F (q := 84) (dk dX7_worst 44 rfl) rfl 1 rfl ?_
              refine g_lload F (q := 86) (dk dX7_worst 45 rfl) rfl 6 rfl ?_
              refine g_lcmp_le F (q := 90) (tgt := 95) (dk dX7_worst 46 rfl) (dk dX7_worst 47 rfl) (by decide) rfl (fun c86 => ?_) (fun c86 => absurd c86 (fun h => h c69))
              refine g_lload F (q := 97) (dk dX7_worst 50 rfl) rfl 6 rfl ?_
              refine g_lstore F (q := 99) (lv' := [(6, .long fv), (5, .int wv), (9, .long av), (0, .ref (ad 233)), (1, .int (nI kn)), (2, .int xx), (3, .long t), (8, .int (nI i))]) (dk dX7_worst 51 rfl) rfl (Nat.le_of_ble_eq_true rfl) rfl ?_
              refine g_iinc F (q := 102) (v := (nI ((i + 1)))) (lv' := [(8, .int (nI ((i + 1)))), (6, .long fv), (5, .int wv), (9, .long av), (0, .ref (ad 233)), (1, .int (nI kn)), (2, .int xx), (3, .long t)]) (dk dX7_worst 52 rfl) rfl 7 rfl (nI_1 _) (Nat.le_of_ble_eq_true rfl) rfl ?_
              refine g_goto F (tgt := 12) (dk dX7_worst 53 rfl) (by decide) ?_
              have hv1 : -1 < av := by rw [ea]; exact hnn i (by omega) c33
              refine g_lv (lv' := [(0, .ref (ad 233)), (1, .int (nI kn)), (2, .int xx), (3, .long t), (5, .int wv), (6, .long fv), (8, .int (nI ((i + 1))))]) [4, 5, 6, 7, 2, 1, 0] rfl ?_
              exact ih (i + 1) wv fv (by omega) (by omega) (wsJ_f hw c33 hv1 ea c69)
            · refine g_iload F (q := 75) (dk dX7_worst 40 rfl) rfl 7 rfl ?_
              refine g_goto F (tgt := 80) (dk dX7_worst 41 rfl) (by decide) ?_
              refine g_istore F (q := 82) (lv' := [(5, .int (nI i)), (9, .long av), (0, .ref (ad 233)), (1, .int (nI kn)), (2, .int xx), (3, .long t), (6, .long fv), (8, .int (nI i))]) (dk dX7_worst 43 rfl) rfl (Nat.le_of_ble_eq_true rfl) rfl ?_
              refine g_lload F (q := 84) (dk dX7_worst 44 rfl) rfl 1 rfl ?_
              refine g_lload F (q := 86) (dk dX7_worst 45 rfl) rfl 6 rfl ?_
              refine g_lcmp_le F (q := 90) (tgt := 95) (dk dX7_worst 46 rfl) (dk dX7_worst 47 rfl) (by decide) rfl (fun c86 => absurd c86 (Int64.not_le.mpr (Int64.not_le.mp c69))) (fun c86 => ?_)
              refine g_lload F (q := 92) (dk dX7_worst 48 rfl) rfl 1 rfl ?_
              refine g_goto F (tgt := 97) (dk dX7_worst 49 rfl) (by decide) ?_
              refine g_lstore F (q := 99) (lv' := [(6, .long av), (5, .int (nI i)), (9, .long av), (0, .ref (ad 233)), (1, .int (nI kn)), (2, .int xx), (3, .long t), (8, .int (nI i))]) (dk dX7_worst 51 rfl) rfl (Nat.le_of_ble_eq_true rfl) rfl ?_
              refine g_iinc F (q := 102) (v := (nI ((i + 1)))) (lv' := [(8, .int (nI ((i + 1)))), (6, .long av), (5, .int (nI i)), (9, .long av), (0, .ref (ad 233)), (1, .int (nI kn)), (2, .int xx), (3, .long t)]) (dk dX7_worst 52 rfl) rfl 7 rfl (nI_1 _) (Nat.le_of_ble_eq_true rfl) rfl ?_
              refine g_goto F (tgt := 12) (dk dX7_worst 53 rfl) (by decide) ?_
              have hv1 : -1 < av := by rw [ea]; exact hnn i (by omega) c33
              refine g_lv (lv' := [(0, .ref (ad 233)), (1, .int (nI kn)), (2, .int xx), (3, .long t), (5, .int (nI i)), (6, .long av), (8, .int (nI ((i + 1))))]) [4, 5, 6, 7, 2, 1, 0] rfl ?_
              exact ih (i + 1) (nI i) av (by omega) (by omega) (wsJ_t hw c33 hv1 ea c69)
  refine g_lv (lv' := [(0, .ref (ad 233)), (1, .int (nI kn)), (2, .int xx), (3, .long t), (5, .int (-5)), (6, .long (-1)), (8, .int 0)]) [3, 4, 5, 6, 2, 1, 0] rfl ?_
  exact K12 _ 0 (-5) (-1) (Nat.lt_succ_self _) (by omega) (Or.inl ⟨rfl, rfl, rfl⟩)
theorem kv_X7_worst : KV yX7_worst "ThumpEarsModel" cX7_worst 11 (some .int) 3 := ⟨tq_896, tq_37, tq_47, tq_897, by decide +kernel⟩
