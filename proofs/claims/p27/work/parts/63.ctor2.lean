abbrev rm_X3_init : Room := { frames := 1, cells := 14, slots := 140, locals := 12 }
set_option maxHeartbeats 4000000 in
set_option maxRecDepth 100000 in
theorem c_X3_init {l : Launch} {D : va_G} {cA : Nat → ClassId} {ad : Nat → Nat} {E : Nat → va_E} {b : Nat} (hb : E b = .inr (3, [.null, .null, .null, .null, .int 0])) : CtN l D cA yX3_init cX3_init 1 rm_X3_init (b + 1) (b + 15) 14 140 ad E [.ref (ad b)] (fun ad' E' => (∀ k, k < b + 1 → ad' k = ad k) ∧ (∀ k, k < b → E' k = E k) ∧ SndW cA ad' E' b) := by
  refine CtN.of (by decide +kernel) (Nat.le_of_ble_eq_true rfl) rfl (fun X F hin hNW hret => ?_)
  have F : Fr "ThumpEars$Sounds" cX3_init 1 D cA X := F
  refine (show GG rm_X3_init 1 l D X 0 0 (b + 1) ad E 0 [(0, .ref (ad b))] [] from ?_)
  have hF : ∀ k, k < b → E k = E k := fun k _ => rfl
  have hG : ∀ k, k < b + 1 → ad k = ad k := fun k _ => rfl
  refine g_aload_n F (q := 1) (dk dX3_init 0 rfl) rfl rfl 0 rfl ?_
  refine g_oinit F (q := 4) tq_37 tq_24 tq_25 (by decide) (Nat.le_of_ble_eq_true rfl) (dk dX3_init 1 rfl) rfl ?_
  refine g_aload_n F (q := 5) (dk dX3_init 2 rfl) rfl rfl 0 rfl ?_
  refine g_bipush F (q := 7) (v := 10) (dk dX3_init 3 rfl) rfl (by decide) ?_
  refine g_newa F (q := 9) (at' := .int) (i := 0) (N := 10) (ty := .int) (a0 := (10, .inl (fun _ => 0))) tq_72 rfl rfl (fun c => rfl) (by decide) (by decide) (by decide) (Nat.le_of_ble_eq_true rfl) (Nat.le_of_ble_eq_true rfl) (dk dX3_init 4 rfl) rfl (fun ad7 E7 hA7 hB7 hN7 => ?_)
  have hb : E7 b = .inr (3, [.null, .null, .null, .null, .int 0]) := (hB7 b (by omega)).trans (hb)
  have hF : ∀ k, k < b → E7 k = E k := fun k hk => (hB7 k (by omega)).trans (hF k hk)
  have hG : ∀ k, k < b + 1 → ad7 k = ad k := fun k hk => (hA7 k (by omega)).trans (hG k hk)
  rw [← hA7 b (by omega)]
  have hc1 : E7 (b + 1) = .inl (cA 0, 10, .inl (fun _ => 0)) := hN7
  refine (show GG rm_X3_init 1 l D X 1 10 (b + 2) ad7 E7 9 [(0, .ref (ad7 b))] [.ref (ad7 (b + 1)), .ref (ad7 b)] from ?_)
  refine g_putF F (q := 12) (ty := .array .int) hb rfl inX3 tyX3 tyX3_ok nmX3 (by omega) (j := 0) (by decide) tq_40 rfl rfl hin rfl (by decide +kernel) rfl rfl (Nat.le_of_ble_eq_true rfl) (dk dX3_init 5 rfl) rfl (fun E9 hE9 hO9 => ?_)
  have hb : E9 b = .inr (3, [.ref (ad7 (b + 1)), .null, .null, .null, .int 0]) := hE9
  have hc1 : E9 (b + 1) = .inl (cA 0, 10, .inl (fun _ => 0)) := (hO9 (b + 1) (by omega)).trans hc1
  have hF : ∀ k, k < b → E9 k = E k := fun k hk => (hO9 k (by omega)).trans (hF k hk)
  refine g_aload_n F (q := 13) (dk dX3_init 6 rfl) rfl rfl 0 rfl ?_
  refine g_bipush F (q := 15) (v := 10) (dk dX3_init 7 rfl) rfl (by decide) ?_
  refine g_newa F (q := 17) (at' := .int) (i := 0) (N := 10) (ty := .int) (a0 := (10, .inl (fun _ => 0))) tq_72 rfl rfl (fun c => rfl) (by decide) (by decide) (by decide) (Nat.le_of_ble_eq_true rfl) (Nat.le_of_ble_eq_true rfl) (dk dX3_init 8 rfl) rfl (fun ad15 E15 hA15 hB15 hN15 => ?_)
  have hb : E15 b = .inr (3, [.ref (ad15 (b + 1)), .null, .null, .null, .int 0]) := (hB15 b (by omega)).trans (hb.trans (by rw [hA15 (b + 1) (by omega)]))
  have hc1 : E15 (b + 1) = .inl (cA 0, 10, .inl (fun _ => 0)) := (hB15 (b + 1) (by omega)).trans hc1
  have hF : ∀ k, k < b → E15 k = E k := fun k hk => (hB15 k (by omega)).trans (hF k hk)
  have hG : ∀ k, k < b + 1 → ad15 k = ad k := fun k hk => (hA15 k (by omega)).trans (hG k hk)
  rw [← hA15 b (by omega)]
  have hc2 : E15 (b + 2) = .inl (cA 0, 10, .inl (fun _ => 0)) := hN15
  refine (show GG rm_X3_init 1 l D X 2 20 (b + 3) ad15 E15 17 [(0, .ref (ad15 b))] [.ref (ad15 (b + 2)), .ref (ad15 b)] from ?_)
  refine g_putF F (q := 20) (ty := .array .int) hb rfl inX3 tyX3 tyX3_ok nmX3 (by omega) (j := 1) (by decide) tq_44 rfl rfl hin rfl (by decide +kernel) rfl rfl (Nat.le_of_ble_eq_true rfl) (dk dX3_init 9 rfl) rfl (fun E17 hE17 hO17 => ?_)
  have hb : E17 b = .inr (3, [.ref (ad15 (b + 1)), .ref (ad15 (b + 2)), .null, .null, .int 0]) := hE17
  have hc1 : E17 (b + 1) = .inl (cA 0, 10, .inl (fun _ => 0)) := (hO17 (b + 1) (by omega)).trans hc1
  have hc2 : E17 (b + 2) = .inl (cA 0, 10, .inl (fun _ => 0)) := (hO17 (b + 2) (by omega)).trans hc2
  have hF : ∀ k, k < b → E17 k = E k := fun k hk => (hO17 k (by omega)).trans (hF k hk)
  refine g_aload_n F (q := 21) (dk dX3_init 10 rfl) rfl rfl 0 rfl ?_
  refine g_bipush F (q := 23) (v := 10) (dk dX3_init 11 rfl) rfl (by decide) ?_
  refine g_newa F (q := 25) (at' := .int) (i := 0) (N := 10) (ty := .int) (a0 := (10, .inl (fun _ => 0))) tq_72 rfl rfl (fun c => rfl) (by decide) (by decide) (by decide) (Nat.le_of_ble_eq_true rfl) (Nat.le_of_ble_eq_true rfl) (dk dX3_init 12 rfl) rfl (fun ad23 E23 hA23 hB23 hN23 => ?_)
  have hb : E23 b = .inr (3, [.ref (ad23 (b + 1)), .ref (ad23 (b + 2)), .null, .null, .int 0]) := (hB23 b (by omega)).trans (hb.trans (by rw [hA23 (b + 1) (by omega), hA23 (b + 2) (by omega)]))
  have hc1 : E23 (b + 1) = .inl (cA 0, 10, .inl (fun _ => 0)) := (hB23 (b + 1) (by omega)).trans hc1
  have hc2 : E23 (b + 2) = .inl (cA 0, 10, .inl (fun _ => 0)) := (hB23 (b + 2) (by omega)).trans hc2
  have hF : ∀ k, k < b → E23 k = E k := fun k hk => (hB23 k (by omega)).trans (hF k hk)
  have hG : ∀ k, k < b + 1 → ad23 k = ad k := fun k hk => (hA23 k (by omega)).trans (hG k hk)
  rw [← hA23 b (by omega)]
  have hc3 : E23 (b + 3) = .inl (cA 0, 10, .inl (fun _ => 0)) := hN23
  refine (show GG rm_X3_init 1 l D X 3 30 (b + 4) ad23 E23 25 [(0, .ref (ad23 b))] [.ref (ad23 (b + 3)), .ref (ad23 b)] from ?_)
  refine g_putF F (q := 28) (ty := .array .int) hb rfl inX3 tyX3 tyX3_ok nmX3 (by omega) (j := 2) (by decide) tq_48 rfl rfl hin rfl (by decide +kernel) rfl rfl (Nat.le_of_ble_eq_true rfl) (dk dX3_init 13 rfl) rfl (fun E25 hE25 hO25 => ?_)
  have hb : E25 b = .inr (3, [.ref (ad23 (b + 1)), .ref (ad23 (b + 2)), .ref (ad23 (b + 3)), .null, .int 0]) := hE25
  have hc1 : E25 (b + 1) = .inl (cA 0, 10, .inl (fun _ => 0)) := (hO25 (b + 1) (by omega)).trans hc1
  have hc2 : E25 (b + 2) = .inl (cA 0, 10, .inl (fun _ => 0)) := (hO25 (b + 2) (by omega)).trans hc2
  have hc3 : E25 (b + 3) = .inl (cA 0, 10, .inl (fun _ => 0)) := (hO25 (b + 3) (by omega)).trans hc3
  have hF : ∀ k, k < b → E25 k = E k := fun k hk => (hO25 k (by omega)).trans (hF k hk)
  refine g_aload_n F (q := 29) (dk dX3_init 14 rfl) rfl rfl 0 rfl ?_
  refine g_bipush F (q := 31) (v := 10) (dk dX3_init 15 rfl) rfl (by decide) ?_
  refine g_bipush F (q := 33) (v := 10) (dk dX3_init 16 rfl) rfl (by decide) ?_
  refine g_mna F (q := 37) tq_38 hNW.h tq_72 (Nat.le_of_ble_eq_true rfl) (Nat.le_of_ble_eq_true rfl) (dk dX3_init 17 rfl) rfl (fun ad33 E33 hA33 hB33 hN33 hM33 => ?_)
  have hb : E33 b = .inr (3, [.ref (ad33 (b + 1)), .ref (ad33 (b + 2)), .ref (ad33 (b + 3)), .null, .int 0]) := (hB33 b (by omega)).trans (hb.trans (by rw [hA33 (b + 1) (by omega), hA33 (b + 2) (by omega), hA33 (b + 3) (by omega)]))
  have hc1 : E33 (b + 1) = .inl (cA 0, 10, .inl (fun _ => 0)) := (hB33 (b + 1) (by omega)).trans hc1
  have hc2 : E33 (b + 2) = .inl (cA 0, 10, .inl (fun _ => 0)) := (hB33 (b + 2) (by omega)).trans hc2
  have hc3 : E33 (b + 3) = .inl (cA 0, 10, .inl (fun _ => 0)) := (hB33 (b + 3) (by omega)).trans hc3
  have hF : ∀ k, k < b → E33 k = E k := fun k hk => (hB33 k (by omega)).trans (hF k hk)
  have hG : ∀ k, k < b + 1 → ad33 k = ad k := fun k hk => (hA33 k (by omega)).trans (hG k hk)
  rw [← hA33 b (by omega)]
  refine (show GG rm_X3_init 1 l D X 14 140 (b + 15) ad33 E33 37 [(0, .ref (ad33 b))] [.ref (ad33 (b + 4)), .ref (ad33 b)] from ?_)
  have hmo : ∃ f : Nat → Option Nat, E33 (b + 4) = .inl (cA 5, 10, .inr (.inr (.inr (.inr f)))) ∧ ∀ i, i < 10 → f i = some (ad33 (b + 5 + i)) := ⟨_, hN33, fun i hi => rfl⟩
  have hmi : ∀ i, i < 10 → E33 (b + 5 + i) = .inl (cA 0, 10, .inl (fun _ => 0)) := fun i hi => hM33 i hi
  refine g_putF F (q := 40) (ty := .array (.array .int)) hb rfl inX3 tyX3 tyX3_ok nmX3 (by omega) (j := 3) (by decide) tq_52 rfl rfl hin rfl (by decide +kernel) rfl rfl (Nat.le_of_ble_eq_true rfl) (dk dX3_init 18 rfl) rfl (fun E37 hE37 hO37 => ?_)
  have hb : E37 b = .inr (3, [.ref (ad33 (b + 1)), .ref (ad33 (b + 2)), .ref (ad33 (b + 3)), .ref (ad33 (b + 4)), .int 0]) := hE37
  have hc1 : E37 (b + 1) = .inl (cA 0, 10, .inl (fun _ => 0)) := (hO37 (b + 1) (by omega)).trans hc1
  have hc2 : E37 (b + 2) = .inl (cA 0, 10, .inl (fun _ => 0)) := (hO37 (b + 2) (by omega)).trans hc2
  have hc3 : E37 (b + 3) = .inl (cA 0, 10, .inl (fun _ => 0)) := (hO37 (b + 3) (by omega)).trans hc3
  have hF : ∀ k, k < b → E37 k = E k := fun k hk => (hO37 k (by omega)).trans (hF k hk)
  have hmo : ∃ f : Nat → Option Nat, E37 (b + 4) = .inl (cA 5, 10, .inr (.inr (.inr (.inr f)))) ∧ ∀ i, i < 10 → f i = some (ad33 (b + 5 + i)) := by obtain ⟨f, q1, q2⟩ := hmo; exact ⟨f, (hO37 (b + 4) (by omega)).trans q1, q2⟩
  have hmi : ∀ i, i < 10 → E37 (b + 5 + i) = .inl (cA 0, 10, .inl (fun _ => 0)) := fun i hi => (hO37 _ (by omega)).trans (hmi i hi)
  refine g_aload_n F (q := 41) (dk dX3_init 19 rfl) rfl rfl 0 rfl ?_
  refine g_iconst F (q := 42) (v := 0) (dk dX3_init 20 rfl) rfl (by decide) ?_
  refine g_putf F (q := 45) (ty := .int) hb rfl inX3 tyX3 tyX3_ok nmX3 (by omega) (j := 4) (by decide) tq_57 rfl rfl (by decide +kernel) rfl rfl (Nat.le_of_ble_eq_true rfl) (dk dX3_init 21 rfl) rfl (fun E42 hE42 hO42 => ?_)
  have hb : E42 b = .inr (3, [.ref (ad33 (b + 1)), .ref (ad33 (b + 2)), .ref (ad33 (b + 3)), .ref (ad33 (b + 4)), .int 0]) := hE42
  have hc1 : E42 (b + 1) = .inl (cA 0, 10, .inl (fun _ => 0)) := (hO42 (b + 1) (by omega)).trans hc1
  have hc2 : E42 (b + 2) = .inl (cA 0, 10, .inl (fun _ => 0)) := (hO42 (b + 2) (by omega)).trans hc2
  have hc3 : E42 (b + 3) = .inl (cA 0, 10, .inl (fun _ => 0)) := (hO42 (b + 3) (by omega)).trans hc3
  have hF : ∀ k, k < b → E42 k = E k := fun k hk => (hO42 k (by omega)).trans (hF k hk)
  have hmo : ∃ f : Nat → Option Nat, E42 (b + 4) = .inl (cA 5, 10, .inr (.inr (.inr (.inr f)))) ∧ ∀ i, i < 10 → f i = some (ad33 (b + 5 + i)) := by obtain ⟨f, q1, q2⟩ := hmo; exact ⟨f, (hO42 (b + 4) (by omega)).trans q1, q2⟩
  have hmi : ∀ i, i < 10 → E42 (b + 5 + i) = .inl (cA 0, 10, .inl (fun _ => 0)) := fun i hi => (hO42 _ (by omega)).trans (hmi i hi)
  exact hret ad33 E42 _ _ (dk dX3_init 22 rfl) ⟨hG, hF, hb, hc1, hc2, hc3, hmo, hmi⟩
theorem kn_X3_init : KN yX3_init cX3_init 1 := ⟨tq_35, tq_11, tq_36, rfl, by decide +kernel⟩
abbrev rm_X5_init : Room := { frames := 2, cells := 35, slots := 340, locals := 32 }
set_option maxHeartbeats 4000000 in
set_option maxRecDepth 100000 in
theorem c_X5_init {l : Launch} {D : va_G} {cA : Nat → ClassId} {ad : Nat → Nat} {E : Nat → va_E} {b : Nat} (hb : E b = .inr (5, [.null, .null, .null, .null, .null, .null, .null, .int 0, .int 0, .int 0, .int 0])) : CtN l D cA yX5_init cX5_init 1 rm_X5_init (b + 1) (b + 36) 35 340 ad E [.ref (ad b)] (fun ad' E' => (∀ k, k < b + 1 → ad' k = ad k) ∧ (∀ k, k < b → E' k = E k) ∧ StW cA ad' E' b) := by
  refine CtN.of (by decide +kernel) (Nat.le_of_ble_eq_true rfl) rfl (fun X F hin hNW hret => ?_)
  have F : Fr "ThumpEars$State" cX5_init 1 D cA X := F
  refine (show GG rm_X5_init 1 l D X 0 0 (b + 1) ad E 0 [(0, .ref (ad b))] [] from ?_)
  have hF : ∀ k, k < b → E k = E k := fun k _ => rfl
  have hG : ∀ k, k < b + 1 → ad k = ad k := fun k _ => rfl
  refine g_aload_n F (q := 1) (dk dX5_init 0 rfl) rfl rfl 0 rfl ?_
  refine g_oinit F (q := 4) tq_31 tq_24 tq_25 (by decide) (Nat.le_of_ble_eq_true rfl) (dk dX5_init 1 rfl) rfl ?_
  refine g_aload_n F (q := 5) (dk dX5_init 2 rfl) rfl rfl 0 rfl ?_
  refine g_bipush F (q := 7) (v := 10) (dk dX5_init 3 rfl) rfl (by decide) ?_
  refine g_newa F (q := 9) (at' := .int) (i := 0) (N := 10) (ty := .int) (a0 := (10, .inl (fun _ => 0))) tq_72 rfl rfl (fun c => rfl) (by decide) (by decide) (by decide) (Nat.le_of_ble_eq_true rfl) (Nat.le_of_ble_eq_true rfl) (dk dX5_init 4 rfl) rfl (fun ad7 E7 hA7 hB7 hN7 => ?_)
  have hb : E7 b = .inr (5, [.null, .null, .null, .null, .null, .null, .null, .int 0, .int 0, .int 0, .int 0]) := (hB7 b (by omega)).trans (hb)
  have hF : ∀ k, k < b → E7 k = E k := fun k hk => (hB7 k (by omega)).trans (hF k hk)
  have hG : ∀ k, k < b + 1 → ad7 k = ad k := fun k hk => (hA7 k (by omega)).trans (hG k hk)
  rw [← hA7 b (by omega)]
  have hc1 : E7 (b + 1) = .inl (cA 0, 10, .inl (fun _ => 0)) := hN7
  refine (show GG rm_X5_init 1 l D X 1 10 (b + 2) ad7 E7 9 [(0, .ref (ad7 b))] [.ref (ad7 (b + 1)), .ref (ad7 b)] from ?_)
  refine g_putF F (q := 12) (ty := .array .int) hb rfl inX5 tyX5 tyX5_ok nmX5 (by omega) (j := 0) (by decide) tq_74 rfl rfl hin rfl (by decide +kernel) rfl rfl (Nat.le_of_ble_eq_true rfl) (dk dX5_init 5 rfl) rfl (fun E9 hE9 hO9 => ?_)
  have hb : E9 b = .inr (5, [.ref (ad7 (b + 1)), .null, .null, .null, .null, .null, .null, .int 0, .int 0, .int 0, .int 0]) := hE9
  have hc1 : E9 (b + 1) = .inl (cA 0, 10, .inl (fun _ => 0)) := (hO9 (b + 1) (by omega)).trans hc1
  have hF : ∀ k, k < b → E9 k = E k := fun k hk => (hO9 k (by omega)).trans (hF k hk)
  refine g_aload_n F (q := 13) (dk dX5_init 6 rfl) rfl rfl 0 rfl ?_
  refine g_bipush F (q := 15) (v := 10) (dk dX5_init 7 rfl) rfl (by decide) ?_
  refine g_newa F (q := 17) (at' := .int) (i := 0) (N := 10) (ty := .int) (a0 := (10, .inl (fun _ => 0))) tq_72 rfl rfl (fun c => rfl) (by decide) (by decide) (by decide) (Nat.le_of_ble_eq_true rfl) (Nat.le_of_ble_eq_true rfl) (dk dX5_init 8 rfl) rfl (fun ad15 E15 hA15 hB15 hN15 => ?_)
  have hb : E15 b = .inr (5, [.ref (ad15 (b + 1)), .null, .null, .null, .null, .null, .null, .int 0, .int 0, .int 0, .int 0]) := (hB15 b (by omega)).trans (hb.trans (by rw [hA15 (b + 1) (by omega)]))
  have hc1 : E15 (b + 1) = .inl (cA 0, 10, .inl (fun _ => 0)) := (hB15 (b + 1) (by omega)).trans hc1
  have hF : ∀ k, k < b → E15 k = E k := fun k hk => (hB15 k (by omega)).trans (hF k hk)
  have hG : ∀ k, k < b + 1 → ad15 k = ad k := fun k hk => (hA15 k (by omega)).trans (hG k hk)
  rw [← hA15 b (by omega)]
  have hc2 : E15 (b + 2) = .inl (cA 0, 10, .inl (fun _ => 0)) := hN15
  refine (show GG rm_X5_init 1 l D X 2 20 (b + 3) ad15 E15 17 [(0, .ref (ad15 b))] [.ref (ad15 (b + 2)), .ref (ad15 b)] from ?_)
  refine g_putF F (q := 20) (ty := .array .int) hb rfl inX5 tyX5 tyX5_ok nmX5 (by omega) (j := 1) (by decide) tq_77 rfl rfl hin rfl (by decide +kernel) rfl rfl (Nat.le_of_ble_eq_true rfl) (dk dX5_init 9 rfl) rfl (fun E17 hE17 hO17 => ?_)
  have hb : E17 b = .inr (5, [.ref (ad15 (b + 1)), .ref (ad15 (b + 2)), .null, .null, .null, .null, .null, .int 0, .int 0, .int 0, .int 0]) := hE17
  have hc1 : E17 (b + 1) = .inl (cA 0, 10, .inl (fun _ => 0)) := (hO17 (b + 1) (by omega)).trans hc1
  have hc2 : E17 (b + 2) = .inl (cA 0, 10, .inl (fun _ => 0)) := (hO17 (b + 2) (by omega)).trans hc2
  have hF : ∀ k, k < b → E17 k = E k := fun k hk => (hO17 k (by omega)).trans (hF k hk)
  refine g_aload_n F (q := 21) (dk dX5_init 10 rfl) rfl rfl 0 rfl ?_
  refine g_bipush F (q := 23) (v := 10) (dk dX5_init 11 rfl) rfl (by decide) ?_
  refine g_newa F (q := 25) (at' := .int) (i := 0) (N := 10) (ty := .int) (a0 := (10, .inl (fun _ => 0))) tq_72 rfl rfl (fun c => rfl) (by decide) (by decide) (by decide) (Nat.le_of_ble_eq_true rfl) (Nat.le_of_ble_eq_true rfl) (dk dX5_init 12 rfl) rfl (fun ad23 E23 hA23 hB23 hN23 => ?_)
  have hb : E23 b = .inr (5, [.ref (ad23 (b + 1)), .ref (ad23 (b + 2)), .null, .null, .null, .null, .null, .int 0, .int 0, .int 0, .int 0]) := (hB23 b (by omega)).trans (hb.trans (by rw [hA23 (b + 1) (by omega), hA23 (b + 2) (by omega)]))
  have hc1 : E23 (b + 1) = .inl (cA 0, 10, .inl (fun _ => 0)) := (hB23 (b + 1) (by omega)).trans hc1
  have hc2 : E23 (b + 2) = .inl (cA 0, 10, .inl (fun _ => 0)) := (hB23 (b + 2) (by omega)).trans hc2
  have hF : ∀ k, k < b → E23 k = E k := fun k hk => (hB23 k (by omega)).trans (hF k hk)
  have hG : ∀ k, k < b + 1 → ad23 k = ad k := fun k hk => (hA23 k (by omega)).trans (hG k hk)
  rw [← hA23 b (by omega)]
  have hc3 : E23 (b + 3) = .inl (cA 0, 10, .inl (fun _ => 0)) := hN23
  refine (show GG rm_X5_init 1 l D X 3 30 (b + 4) ad23 E23 25 [(0, .ref (ad23 b))] [.ref (ad23 (b + 3)), .ref (ad23 b)] from ?_)
  refine g_putF F (q := 28) (ty := .array .int) hb rfl inX5 tyX5 tyX5_ok nmX5 (by omega) (j := 2) (by decide) tq_79 rfl rfl hin rfl (by decide +kernel) rfl rfl (Nat.le_of_ble_eq_true rfl) (dk dX5_init 13 rfl) rfl (fun E25 hE25 hO25 => ?_)
  have hb : E25 b = .inr (5, [.ref (ad23 (b + 1)), .ref (ad23 (b + 2)), .ref (ad23 (b + 3)), .null, .null, .null, .null, .int 0, .int 0, .int 0, .int 0]) := hE25
  have hc1 : E25 (b + 1) = .inl (cA 0, 10, .inl (fun _ => 0)) := (hO25 (b + 1) (by omega)).trans hc1
  have hc2 : E25 (b + 2) = .inl (cA 0, 10, .inl (fun _ => 0)) := (hO25 (b + 2) (by omega)).trans hc2
  have hc3 : E25 (b + 3) = .inl (cA 0, 10, .inl (fun _ => 0)) := (hO25 (b + 3) (by omega)).trans hc3
  have hF : ∀ k, k < b → E25 k = E k := fun k hk => (hO25 k (by omega)).trans (hF k hk)
  refine g_aload_n F (q := 29) (dk dX5_init 14 rfl) rfl rfl 0 rfl ?_
  refine g_bipush F (q := 31) (v := 10) (dk dX5_init 15 rfl) rfl (by decide) ?_
  refine g_newa F (q := 33) (at' := .boolean) (i := 2) (N := 10) (ty := .boolean) (a0 := (10, .inl (fun _ => 0))) tq_73 rfl rfl (fun c => rfl) (by decide) (by decide) (by decide) (Nat.le_of_ble_eq_true rfl) (Nat.le_of_ble_eq_true rfl) (dk dX5_init 16 rfl) rfl (fun ad31 E31 hA31 hB31 hN31 => ?_)
  have hb : E31 b = .inr (5, [.ref (ad31 (b + 1)), .ref (ad31 (b + 2)), .ref (ad31 (b + 3)), .null, .null, .null, .null, .int 0, .int 0, .int 0, .int 0]) := (hB31 b (by omega)).trans (hb.trans (by rw [hA31 (b + 1) (by omega), hA31 (b + 2) (by omega), hA31 (b + 3) (by omega)]))
  have hc1 : E31 (b + 1) = .inl (cA 0, 10, .inl (fun _ => 0)) := (hB31 (b + 1) (by omega)).trans hc1
  have hc2 : E31 (b + 2) = .inl (cA 0, 10, .inl (fun _ => 0)) := (hB31 (b + 2) (by omega)).trans hc2
  have hc3 : E31 (b + 3) = .inl (cA 0, 10, .inl (fun _ => 0)) := (hB31 (b + 3) (by omega)).trans hc3
  have hF : ∀ k, k < b → E31 k = E k := fun k hk => (hB31 k (by omega)).trans (hF k hk)
  have hG : ∀ k, k < b + 1 → ad31 k = ad k := fun k hk => (hA31 k (by omega)).trans (hG k hk)
  rw [← hA31 b (by omega)]
  have hc4 : E31 (b + 4) = .inl (cA 2, 10, .inl (fun _ => 0)) := hN31
  refine (show GG rm_X5_init 1 l D X 4 40 (b + 5) ad31 E31 33 [(0, .ref (ad31 b))] [.ref (ad31 (b + 4)), .ref (ad31 b)] from ?_)
  refine g_putF F (q := 36) (ty := .array .boolean) hb rfl inX5 tyX5 tyX5_ok nmX5 (by omega) (j := 3) (by decide) tq_81 rfl rfl hin rfl (by decide +kernel) rfl rfl (Nat.le_of_ble_eq_true rfl) (dk dX5_init 17 rfl) rfl (fun E33 hE33 hO33 => ?_)
  have hb : E33 b = .inr (5, [.ref (ad31 (b + 1)), .ref (ad31 (b + 2)), .ref (ad31 (b + 3)), .ref (ad31 (b + 4)), .null, .null, .null, .int 0, .int 0, .int 0, .int 0]) := hE33
  have hc1 : E33 (b + 1) = .inl (cA 0, 10, .inl (fun _ => 0)) := (hO33 (b + 1) (by omega)).trans hc1
  have hc2 : E33 (b + 2) = .inl (cA 0, 10, .inl (fun _ => 0)) := (hO33 (b + 2) (by omega)).trans hc2
  have hc3 : E33 (b + 3) = .inl (cA 0, 10, .inl (fun _ => 0)) := (hO33 (b + 3) (by omega)).trans hc3
  have hc4 : E33 (b + 4) = .inl (cA 2, 10, .inl (fun _ => 0)) := (hO33 (b + 4) (by omega)).trans hc4
  have hF : ∀ k, k < b → E33 k = E k := fun k hk => (hO33 k (by omega)).trans (hF k hk)
  refine g_aload_n F (q := 37) (dk dX5_init 18 rfl) rfl rfl 0 rfl ?_
  refine g_bipush F (q := 39) (v := 10) (dk dX5_init 19 rfl) rfl (by decide) ?_
  refine g_newa F (q := 41) (at' := .boolean) (i := 2) (N := 10) (ty := .boolean) (a0 := (10, .inl (fun _ => 0))) tq_73 rfl rfl (fun c => rfl) (by decide) (by decide) (by decide) (Nat.le_of_ble_eq_true rfl) (Nat.le_of_ble_eq_true rfl) (dk dX5_init 20 rfl) rfl (fun ad39 E39 hA39 hB39 hN39 => ?_)
  have hb : E39 b = .inr (5, [.ref (ad39 (b + 1)), .ref (ad39 (b + 2)), .ref (ad39 (b + 3)), .ref (ad39 (b + 4)), .null, .null, .null, .int 0, .int 0, .int 0, .int 0]) := (hB39 b (by omega)).trans (hb.trans (by rw [hA39 (b + 1) (by omega), hA39 (b + 2) (by omega), hA39 (b + 3) (by omega), hA39 (b + 4) (by omega)]))
  have hc1 : E39 (b + 1) = .inl (cA 0, 10, .inl (fun _ => 0)) := (hB39 (b + 1) (by omega)).trans hc1
  have hc2 : E39 (b + 2) = .inl (cA 0, 10, .inl (fun _ => 0)) := (hB39 (b + 2) (by omega)).trans hc2
  have hc3 : E39 (b + 3) = .inl (cA 0, 10, .inl (fun _ => 0)) := (hB39 (b + 3) (by omega)).trans hc3
  have hc4 : E39 (b + 4) = .inl (cA 2, 10, .inl (fun _ => 0)) := (hB39 (b + 4) (by omega)).trans hc4
  have hF : ∀ k, k < b → E39 k = E k := fun k hk => (hB39 k (by omega)).trans (hF k hk)
  have hG : ∀ k, k < b + 1 → ad39 k = ad k := fun k hk => (hA39 k (by omega)).trans (hG k hk)
  rw [← hA39 b (by omega)]
  have hc5 : E39 (b + 5) = .inl (cA 2, 10, .inl (fun _ => 0)) := hN39
  refine (show GG rm_X5_init 1 l D X 5 50 (b + 6) ad39 E39 41 [(0, .ref (ad39 b))] [.ref (ad39 (b + 5)), .ref (ad39 b)] from ?_)
  refine g_putF F (q := 44) (ty := .array .boolean) hb rfl inX5 tyX5 tyX5_ok nmX5 (by omega) (j := 4) (by decide) tq_83 rfl rfl hin rfl (by decide +kernel) rfl rfl (Nat.le_of_ble_eq_true rfl) (dk dX5_init 21 rfl) rfl (fun E41 hE41 hO41 => ?_)
  have hb : E41 b = .inr (5, [.ref (ad39 (b + 1)), .ref (ad39 (b + 2)), .ref (ad39 (b + 3)), .ref (ad39 (b + 4)), .ref (ad39 (b + 5)), .null, .null, .int 0, .int 0, .int 0, .int 0]) := hE41
  have hc1 : E41 (b + 1) = .inl (cA 0, 10, .inl (fun _ => 0)) := (hO41 (b + 1) (by omega)).trans hc1
  have hc2 : E41 (b + 2) = .inl (cA 0, 10, .inl (fun _ => 0)) := (hO41 (b + 2) (by omega)).trans hc2
  have hc3 : E41 (b + 3) = .inl (cA 0, 10, .inl (fun _ => 0)) := (hO41 (b + 3) (by omega)).trans hc3
  have hc4 : E41 (b + 4) = .inl (cA 2, 10, .inl (fun _ => 0)) := (hO41 (b + 4) (by omega)).trans hc4
  have hc5 : E41 (b + 5) = .inl (cA 2, 10, .inl (fun _ => 0)) := (hO41 (b + 5) (by omega)).trans hc5
  have hF : ∀ k, k < b → E41 k = E k := fun k hk => (hO41 k (by omega)).trans (hF k hk)
  refine g_aload_n F (q := 45) (dk dX5_init 22 rfl) rfl rfl 0 rfl ?_
  refine g_new F (q := 48) (ci := 3) (fs := [.null, .null, .null, .null, .int 0]) (C := RX3) (T := TX3) (N := 5) inX3 tyX3 tyX3_ok tq_32 tq_33 tq_11 rfl (fun j hj => by rcases (show j = 0 ∨ j = 1 ∨ j = 2 ∨ j = 3 ∨ j = 4 by omega) with rfl | rfl | rfl | rfl | rfl <;> rfl) (Nat.le_of_ble_eq_true rfl) (Nat.le_of_ble_eq_true rfl) (dk dX5_init 23 rfl) rfl (fun ad45 E45 hA45 hB45 hN45 => ?_)
  have hb : E45 b = .inr (5, [.ref (ad45 (b + 1)), .ref (ad45 (b + 2)), .ref (ad45 (b + 3)), .ref (ad45 (b + 4)), .ref (ad45 (b + 5)), .null, .null, .int 0, .int 0, .int 0, .int 0]) := (hB45 b (by omega)).trans (hb.trans (by rw [hA45 (b + 1) (by omega), hA45 (b + 2) (by omega), hA45 (b + 3) (by omega), hA45 (b + 4) (by omega), hA45 (b + 5) (by omega)]))
  have hc1 : E45 (b + 1) = .inl (cA 0, 10, .inl (fun _ => 0)) := (hB45 (b + 1) (by omega)).trans hc1
  have hc2 : E45 (b + 2) = .inl (cA 0, 10, .inl (fun _ => 0)) := (hB45 (b + 2) (by omega)).trans hc2
  have hc3 : E45 (b + 3) = .inl (cA 0, 10, .inl (fun _ => 0)) := (hB45 (b + 3) (by omega)).trans hc3
  have hc4 : E45 (b + 4) = .inl (cA 2, 10, .inl (fun _ => 0)) := (hB45 (b + 4) (by omega)).trans hc4
  have hc5 : E45 (b + 5) = .inl (cA 2, 10, .inl (fun _ => 0)) := (hB45 (b + 5) (by omega)).trans hc5
  have hF : ∀ k, k < b → E45 k = E k := fun k hk => (hB45 k (by omega)).trans (hF k hk)
  have hG : ∀ k, k < b + 1 → ad45 k = ad k := fun k hk => (hA45 k (by omega)).trans (hG k hk)
  rw [← hA45 b (by omega)]
  have hnew : E45 (b + 6) = .inr (3, [.null, .null, .null, .null, .int 0]) := hN45
  refine (show GG rm_X5_init 1 l D X 6 55 (b + 7) ad45 E45 48 [(0, .ref (ad45 b))] [.ref (ad45 (b + 6)), .ref (ad45 b)] from ?_)
  refine g_dup F (q := 49) (dk dX5_init 24 rfl) rfl rfl ?_
  refine g_callN F (q := 52) (n2 := (b + 21)) (mc := 14) (ms := 140) (c_X3_init (b := b + 6) hnew) kn_X3_init hNW hNW.b ⟨rfl, rfl⟩ (by decide) ⟨Nat.le_of_ble_eq_true rfl, Nat.le_of_ble_eq_true rfl⟩ (Nat.le_of_ble_eq_true rfl) (dk dX5_init 25 rfl) rfl (fun ad49 E49 hp49 => ?_)
  obtain ⟨hA49, hB49, hX49⟩ := hp49
  have hb : E49 b = .inr (5, [.ref (ad49 (b + 1)), .ref (ad49 (b + 2)), .ref (ad49 (b + 3)), .ref (ad49 (b + 4)), .ref (ad49 (b + 5)), .null, .null, .int 0, .int 0, .int 0, .int 0]) := (hB49 b (by omega)).trans (hb.trans (by rw [hA49 (b + 1) (by omega), hA49 (b + 2) (by omega), hA49 (b + 3) (by omega), hA49 (b + 4) (by omega), hA49 (b + 5) (by omega)]))
  have hc1 : E49 (b + 1) = .inl (cA 0, 10, .inl (fun _ => 0)) := (hB49 (b + 1) (by omega)).trans hc1
  have hc2 : E49 (b + 2) = .inl (cA 0, 10, .inl (fun _ => 0)) := (hB49 (b + 2) (by omega)).trans hc2
  have hc3 : E49 (b + 3) = .inl (cA 0, 10, .inl (fun _ => 0)) := (hB49 (b + 3) (by omega)).trans hc3
  have hc4 : E49 (b + 4) = .inl (cA 2, 10, .inl (fun _ => 0)) := (hB49 (b + 4) (by omega)).trans hc4
  have hc5 : E49 (b + 5) = .inl (cA 2, 10, .inl (fun _ => 0)) := (hB49 (b + 5) (by omega)).trans hc5
  have hF : ∀ k, k < b → E49 k = E k := fun k hk => (hB49 k (by omega)).trans (hF k hk)
  have hG : ∀ k, k < b + 1 → ad49 k = ad k := fun k hk => (hA49 k (by omega)).trans (hG k hk)
  rw [← hA49 b (by omega)]
  rw [← hA49 (b + 6) (by omega)]
  have hs6 : SndW cA ad49 E49 (b + 6) := hX49
  refine (show GG rm_X5_init 1 l D X 20 195 (b + 21) ad49 E49 52 [(0, .ref (ad49 b))] [.ref (ad49 (b + 6)), .ref (ad49 b)] from ?_)
  refine g_putF F (q := 55) (ty := .object "ThumpEars$Sounds") hb rfl inX5 tyX5 tyX5_ok nmX5 (by omega) (j := 5) (by decide) tq_86 rfl rfl hin rfl (by decide +kernel) rfl rfl (Nat.le_of_ble_eq_true rfl) (dk dX5_init 26 rfl) rfl (fun E52 hE52 hO52 => ?_)
  have hb : E52 b = .inr (5, [.ref (ad49 (b + 1)), .ref (ad49 (b + 2)), .ref (ad49 (b + 3)), .ref (ad49 (b + 4)), .ref (ad49 (b + 5)), .ref (ad49 (b + 6)), .null, .int 0, .int 0, .int 0, .int 0]) := hE52
  have hc1 : E52 (b + 1) = .inl (cA 0, 10, .inl (fun _ => 0)) := (hO52 (b + 1) (by omega)).trans hc1
  have hc2 : E52 (b + 2) = .inl (cA 0, 10, .inl (fun _ => 0)) := (hO52 (b + 2) (by omega)).trans hc2
  have hc3 : E52 (b + 3) = .inl (cA 0, 10, .inl (fun _ => 0)) := (hO52 (b + 3) (by omega)).trans hc3
  have hc4 : E52 (b + 4) = .inl (cA 2, 10, .inl (fun _ => 0)) := (hO52 (b + 4) (by omega)).trans hc4
  have hc5 : E52 (b + 5) = .inl (cA 2, 10, .inl (fun _ => 0)) := (hO52 (b + 5) (by omega)).trans hc5
  have hs6 : SndW cA ad49 E52 (b + 6) := hs6.mv (fun j h1 h2 => hO52 j (by omega)) (fun j h1 h2 => rfl)
  have hF : ∀ k, k < b → E52 k = E k := fun k hk => (hO52 k (by omega)).trans (hF k hk)
  refine g_aload_n F (q := 56) (dk dX5_init 27 rfl) rfl rfl 0 rfl ?_
  refine g_new F (q := 59) (ci := 3) (fs := [.null, .null, .null, .null, .int 0]) (C := RX3) (T := TX3) (N := 5) inX3 tyX3 tyX3_ok tq_32 tq_33 tq_11 rfl (fun j hj => by rcases (show j = 0 ∨ j = 1 ∨ j = 2 ∨ j = 3 ∨ j = 4 by omega) with rfl | rfl | rfl | rfl | rfl <;> rfl) (Nat.le_of_ble_eq_true rfl) (Nat.le_of_ble_eq_true rfl) (dk dX5_init 28 rfl) rfl (fun ad56 E56 hA56 hB56 hN56 => ?_)
  have hb : E56 b = .inr (5, [.ref (ad56 (b + 1)), .ref (ad56 (b + 2)), .ref (ad56 (b + 3)), .ref (ad56 (b + 4)), .ref (ad56 (b + 5)), .ref (ad56 (b + 6)), .null, .int 0, .int 0, .int 0, .int 0]) := (hB56 b (by omega)).trans (hb.trans (by rw [hA56 (b + 1) (by omega), hA56 (b + 2) (by omega), hA56 (b + 3) (by omega), hA56 (b + 4) (by omega), hA56 (b + 5) (by omega), hA56 (b + 6) (by omega)]))
  have hc1 : E56 (b + 1) = .inl (cA 0, 10, .inl (fun _ => 0)) := (hB56 (b + 1) (by omega)).trans hc1
  have hc2 : E56 (b + 2) = .inl (cA 0, 10, .inl (fun _ => 0)) := (hB56 (b + 2) (by omega)).trans hc2
  have hc3 : E56 (b + 3) = .inl (cA 0, 10, .inl (fun _ => 0)) := (hB56 (b + 3) (by omega)).trans hc3
  have hc4 : E56 (b + 4) = .inl (cA 2, 10, .inl (fun _ => 0)) := (hB56 (b + 4) (by omega)).trans hc4
  have hc5 : E56 (b + 5) = .inl (cA 2, 10, .inl (fun _ => 0)) := (hB56 (b + 5) (by omega)).trans hc5
  have hs6 : SndW cA ad56 E56 (b + 6) := hs6.mv (fun j h1 h2 => hB56 j (by omega)) (fun j h1 h2 => hA56 j (by omega))
  have hF : ∀ k, k < b → E56 k = E k := fun k hk => (hB56 k (by omega)).trans (hF k hk)
  have hG : ∀ k, k < b + 1 → ad56 k = ad k := fun k hk => (hA56 k (by omega)).trans (hG k hk)
  rw [← hA56 b (by omega)]
  have hnew : E56 (b + 21) = .inr (3, [.null, .null, .null, .null, .int 0]) := hN56
  refine (show GG rm_X5_init 1 l D X 21 200 (b + 22) ad56 E56 59 [(0, .ref (ad56 b))] [.ref (ad56 (b + 21)), .ref (ad56 b)] from ?_)
  refine g_dup F (q := 60) (dk dX5_init 29 rfl) rfl rfl ?_
  refine g_callN F (q := 63) (n2 := (b + 36)) (mc := 14) (ms := 140) (c_X3_init (b := b + 21) hnew) kn_X3_init hNW hNW.b ⟨rfl, rfl⟩ (by decide) ⟨Nat.le_of_ble_eq_true rfl, Nat.le_of_ble_eq_true rfl⟩ (Nat.le_of_ble_eq_true rfl) (dk dX5_init 30 rfl) rfl (fun ad60 E60 hp60 => ?_)
  obtain ⟨hA60, hB60, hX60⟩ := hp60
  have hb : E60 b = .inr (5, [.ref (ad60 (b + 1)), .ref (ad60 (b + 2)), .ref (ad60 (b + 3)), .ref (ad60 (b + 4)), .ref (ad60 (b + 5)), .ref (ad60 (b + 6)), .null, .int 0, .int 0, .int 0, .int 0]) := (hB60 b (by omega)).trans (hb.trans (by rw [hA60 (b + 1) (by omega), hA60 (b + 2) (by omega), hA60 (b + 3) (by omega), hA60 (b + 4) (by omega), hA60 (b + 5) (by omega), hA60 (b + 6) (by omega)]))
  have hc1 : E60 (b + 1) = .inl (cA 0, 10, .inl (fun _ => 0)) := (hB60 (b + 1) (by omega)).trans hc1
  have hc2 : E60 (b + 2) = .inl (cA 0, 10, .inl (fun _ => 0)) := (hB60 (b + 2) (by omega)).trans hc2
  have hc3 : E60 (b + 3) = .inl (cA 0, 10, .inl (fun _ => 0)) := (hB60 (b + 3) (by omega)).trans hc3
  have hc4 : E60 (b + 4) = .inl (cA 2, 10, .inl (fun _ => 0)) := (hB60 (b + 4) (by omega)).trans hc4
  have hc5 : E60 (b + 5) = .inl (cA 2, 10, .inl (fun _ => 0)) := (hB60 (b + 5) (by omega)).trans hc5
  have hs6 : SndW cA ad60 E60 (b + 6) := hs6.mv (fun j h1 h2 => hB60 j (by omega)) (fun j h1 h2 => hA60 j (by omega))
  have hF : ∀ k, k < b → E60 k = E k := fun k hk => (hB60 k (by omega)).trans (hF k hk)
  have hG : ∀ k, k < b + 1 → ad60 k = ad k := fun k hk => (hA60 k (by omega)).trans (hG k hk)
  rw [← hA60 b (by omega)]
  rw [← hA60 (b + 21) (by omega)]
  have hs21 : SndW cA ad60 E60 (b + 21) := hX60
  refine (show GG rm_X5_init 1 l D X 35 340 (b + 36) ad60 E60 63 [(0, .ref (ad60 b))] [.ref (ad60 (b + 21)), .ref (ad60 b)] from ?_)
  refine g_putF F (q := 66) (ty := .object "ThumpEars$Sounds") hb rfl inX5 tyX5 tyX5_ok nmX5 (by omega) (j := 6) (by decide) tq_89 rfl rfl hin rfl (by decide +kernel) rfl rfl (Nat.le_of_ble_eq_true rfl) (dk dX5_init 31 rfl) rfl (fun E63 hE63 hO63 => ?_)
  have hb : E63 b = .inr (5, [.ref (ad60 (b + 1)), .ref (ad60 (b + 2)), .ref (ad60 (b + 3)), .ref (ad60 (b + 4)), .ref (ad60 (b + 5)), .ref (ad60 (b + 6)), .ref (ad60 (b + 21)), .int 0, .int 0, .int 0, .int 0]) := hE63
  have hc1 : E63 (b + 1) = .inl (cA 0, 10, .inl (fun _ => 0)) := (hO63 (b + 1) (by omega)).trans hc1
  have hc2 : E63 (b + 2) = .inl (cA 0, 10, .inl (fun _ => 0)) := (hO63 (b + 2) (by omega)).trans hc2
  have hc3 : E63 (b + 3) = .inl (cA 0, 10, .inl (fun _ => 0)) := (hO63 (b + 3) (by omega)).trans hc3
  have hc4 : E63 (b + 4) = .inl (cA 2, 10, .inl (fun _ => 0)) := (hO63 (b + 4) (by omega)).trans hc4
  have hc5 : E63 (b + 5) = .inl (cA 2, 10, .inl (fun _ => 0)) := (hO63 (b + 5) (by omega)).trans hc5
  have hs6 : SndW cA ad60 E63 (b + 6) := hs6.mv (fun j h1 h2 => hO63 j (by omega)) (fun j h1 h2 => rfl)
  have hs21 : SndW cA ad60 E63 (b + 21) := hs21.mv (fun j h1 h2 => hO63 j (by omega)) (fun j h1 h2 => rfl)
  have hF : ∀ k, k < b → E63 k = E k := fun k hk => (hO63 k (by omega)).trans (hF k hk)
  refine g_aload_n F (q := 67) (dk dX5_init 32 rfl) rfl rfl 0 rfl ?_
  refine g_iconst F (q := 68) (v := 0) (dk dX5_init 33 rfl) rfl (by decide) ?_
  refine g_putf F (q := 71) (ty := .int) hb rfl inX5 tyX5 tyX5_ok nmX5 (by omega) (j := 7) (by decide) tq_92 rfl rfl (by decide +kernel) rfl rfl (Nat.le_of_ble_eq_true rfl) (dk dX5_init 34 rfl) rfl (fun E68 hE68 hO68 => ?_)
  have hb : E68 b = .inr (5, [.ref (ad60 (b + 1)), .ref (ad60 (b + 2)), .ref (ad60 (b + 3)), .ref (ad60 (b + 4)), .ref (ad60 (b + 5)), .ref (ad60 (b + 6)), .ref (ad60 (b + 21)), .int 0, .int 0, .int 0, .int 0]) := hE68
  have hc1 : E68 (b + 1) = .inl (cA 0, 10, .inl (fun _ => 0)) := (hO68 (b + 1) (by omega)).trans hc1
  have hc2 : E68 (b + 2) = .inl (cA 0, 10, .inl (fun _ => 0)) := (hO68 (b + 2) (by omega)).trans hc2
  have hc3 : E68 (b + 3) = .inl (cA 0, 10, .inl (fun _ => 0)) := (hO68 (b + 3) (by omega)).trans hc3
  have hc4 : E68 (b + 4) = .inl (cA 2, 10, .inl (fun _ => 0)) := (hO68 (b + 4) (by omega)).trans hc4
  have hc5 : E68 (b + 5) = .inl (cA 2, 10, .inl (fun _ => 0)) := (hO68 (b + 5) (by omega)).trans hc5
  have hs6 : SndW cA ad60 E68 (b + 6) := hs6.mv (fun j h1 h2 => hO68 j (by omega)) (fun j h1 h2 => rfl)
  have hs21 : SndW cA ad60 E68 (b + 21) := hs21.mv (fun j h1 h2 => hO68 j (by omega)) (fun j h1 h2 => rfl)
  have hF : ∀ k, k < b → E68 k = E k := fun k hk => (hO68 k (by omega)).trans (hF k hk)
  refine g_aload_n F (q := 72) (dk dX5_init 35 rfl) rfl rfl 0 rfl ?_
  refine g_iconst F (q := 73) (v := 3) (dk dX5_init 36 rfl) rfl (by decide) ?_
  refine g_putf F (q := 76) (ty := .int) hb rfl inX5 tyX5 tyX5_ok nmX5 (by omega) (j := 8) (by decide) tq_95 rfl rfl (by decide +kernel) rfl rfl (Nat.le_of_ble_eq_true rfl) (dk dX5_init 37 rfl) rfl (fun E73 hE73 hO73 => ?_)
  have hb : E73 b = .inr (5, [.ref (ad60 (b + 1)), .ref (ad60 (b + 2)), .ref (ad60 (b + 3)), .ref (ad60 (b + 4)), .ref (ad60 (b + 5)), .ref (ad60 (b + 6)), .ref (ad60 (b + 21)), .int 0, .int 3, .int 0, .int 0]) := hE73
  have hc1 : E73 (b + 1) = .inl (cA 0, 10, .inl (fun _ => 0)) := (hO73 (b + 1) (by omega)).trans hc1
  have hc2 : E73 (b + 2) = .inl (cA 0, 10, .inl (fun _ => 0)) := (hO73 (b + 2) (by omega)).trans hc2
  have hc3 : E73 (b + 3) = .inl (cA 0, 10, .inl (fun _ => 0)) := (hO73 (b + 3) (by omega)).trans hc3
  have hc4 : E73 (b + 4) = .inl (cA 2, 10, .inl (fun _ => 0)) := (hO73 (b + 4) (by omega)).trans hc4
  have hc5 : E73 (b + 5) = .inl (cA 2, 10, .inl (fun _ => 0)) := (hO73 (b + 5) (by omega)).trans hc5
  have hs6 : SndW cA ad60 E73 (b + 6) := hs6.mv (fun j h1 h2 => hO73 j (by omega)) (fun j h1 h2 => rfl)
  have hs21 : SndW cA ad60 E73 (b + 21) := hs21.mv (fun j h1 h2 => hO73 j (by omega)) (fun j h1 h2 => rfl)
  have hF : ∀ k, k < b → E73 k = E k := fun k hk => (hO73 k (by omega)).trans (hF k hk)
  refine g_aload_n F (q := 77) (dk dX5_init 38 rfl) rfl rfl 0 rfl ?_
  refine g_iconst F (q := 78) (v := 5) (dk dX5_init 39 rfl) rfl (by decide) ?_
  refine g_putf F (q := 81) (ty := .int) hb rfl inX5 tyX5 tyX5_ok nmX5 (by omega) (j := 9) (by decide) tq_97 rfl rfl (by decide +kernel) rfl rfl (Nat.le_of_ble_eq_true rfl) (dk dX5_init 40 rfl) rfl (fun E78 hE78 hO78 => ?_)
  have hb : E78 b = .inr (5, [.ref (ad60 (b + 1)), .ref (ad60 (b + 2)), .ref (ad60 (b + 3)), .ref (ad60 (b + 4)), .ref (ad60 (b + 5)), .ref (ad60 (b + 6)), .ref (ad60 (b + 21)), .int 0, .int 3, .int 5, .int 0]) := hE78
  have hc1 : E78 (b + 1) = .inl (cA 0, 10, .inl (fun _ => 0)) := (hO78 (b + 1) (by omega)).trans hc1
  have hc2 : E78 (b + 2) = .inl (cA 0, 10, .inl (fun _ => 0)) := (hO78 (b + 2) (by omega)).trans hc2
  have hc3 : E78 (b + 3) = .inl (cA 0, 10, .inl (fun _ => 0)) := (hO78 (b + 3) (by omega)).trans hc3
  have hc4 : E78 (b + 4) = .inl (cA 2, 10, .inl (fun _ => 0)) := (hO78 (b + 4) (by omega)).trans hc4
  have hc5 : E78 (b + 5) = .inl (cA 2, 10, .inl (fun _ => 0)) := (hO78 (b + 5) (by omega)).trans hc5
  have hs6 : SndW cA ad60 E78 (b + 6) := hs6.mv (fun j h1 h2 => hO78 j (by omega)) (fun j h1 h2 => rfl)
  have hs21 : SndW cA ad60 E78 (b + 21) := hs21.mv (fun j h1 h2 => hO78 j (by omega)) (fun j h1 h2 => rfl)
  have hF : ∀ k, k < b → E78 k = E k := fun k hk => (hO78 k (by omega)).trans (hF k hk)
  refine g_aload_n F (q := 82) (dk dX5_init 41 rfl) rfl rfl 0 rfl ?_
  refine g_iconst F (q := 83) (v := 0) (dk dX5_init 42 rfl) rfl (by decide) ?_
  refine g_putf F (q := 86) (ty := .int) hb rfl inX5 tyX5 tyX5_ok nmX5 (by omega) (j := 10) (by decide) tq_99 rfl rfl (by decide +kernel) rfl rfl (Nat.le_of_ble_eq_true rfl) (dk dX5_init 43 rfl) rfl (fun E83 hE83 hO83 => ?_)
  have hb : E83 b = .inr (5, [.ref (ad60 (b + 1)), .ref (ad60 (b + 2)), .ref (ad60 (b + 3)), .ref (ad60 (b + 4)), .ref (ad60 (b + 5)), .ref (ad60 (b + 6)), .ref (ad60 (b + 21)), .int 0, .int 3, .int 5, .int 0]) := hE83
  have hc1 : E83 (b + 1) = .inl (cA 0, 10, .inl (fun _ => 0)) := (hO83 (b + 1) (by omega)).trans hc1
  have hc2 : E83 (b + 2) = .inl (cA 0, 10, .inl (fun _ => 0)) := (hO83 (b + 2) (by omega)).trans hc2
  have hc3 : E83 (b + 3) = .inl (cA 0, 10, .inl (fun _ => 0)) := (hO83 (b + 3) (by omega)).trans hc3
  have hc4 : E83 (b + 4) = .inl (cA 2, 10, .inl (fun _ => 0)) := (hO83 (b + 4) (by omega)).trans hc4
  have hc5 : E83 (b + 5) = .inl (cA 2, 10, .inl (fun _ => 0)) := (hO83 (b + 5) (by omega)).trans hc5
  have hs6 : SndW cA ad60 E83 (b + 6) := hs6.mv (fun j h1 h2 => hO83 j (by omega)) (fun j h1 h2 => rfl)
  have hs21 : SndW cA ad60 E83 (b + 21) := hs21.mv (fun j h1 h2 => hO83 j (by omega)) (fun j h1 h2 => rfl)
  have hF : ∀ k, k < b → E83 k = E k := fun k hk => (hO83 k (by omega)).trans (hF k hk)
  exact hret ad60 E83 _ _ (dk dX5_init 44 rfl) ⟨hG, hF, hb, hc1, hc2, hc3, hc4, hc5, hs6, hs21⟩
theorem kn_X5_init : KN yX5_init cX5_init 1 := ⟨tq_29, tq_10, tq_30, rfl, by decide +kernel⟩
abbrev rm_X0_init : Room := { frames := 3, cells := 145, slots := 1408, locals := 52 }
set_option maxHeartbeats 4000000 in
set_option maxRecDepth 100000 in
theorem c_X0_init {l : Launch} {D : va_G} {cA : Nat → ClassId} {ad : Nat → Nat} {E : Nat → va_E} (hb : E 73 = .inr (0, [.null, .int 0])) : CtN l D cA yX0_init cX0_init 2 rm_X0_init 74 219 145 1408 ad E [.ref (ad 73)] (fun ad' E' => (∀ k, k < 74 → ad' k = ad k) ∧ (∀ k, k < 73 → E' k = E k) ∧ HsW cA ad' E' 73) := by
  refine CtN.of (by decide +kernel) (Nat.le_of_ble_eq_true rfl) rfl (fun X F hin hNW hret => ?_)
  have F : Fr "ThumpEars$History" cX0_init 2 D cA X := F
  refine (show GG rm_X0_init 2 l D X 0 0 74 ad E 0 [(0, .ref (ad 73))] [] from ?_)
  have hF : ∀ k, k < 73 → E k = E k := fun k _ => rfl
  have hG : ∀ k, k < 74 → ad k = ad k := fun k _ => rfl
  refine g_aload_n F (q := 1) (dk dX0_init 0 rfl) rfl rfl 0 rfl ?_
  refine g_oinit F (q := 4) tq_129 tq_24 tq_25 (by decide) (Nat.le_of_ble_eq_true rfl) (dk dX0_init 1 rfl) rfl ?_
  refine g_aload_n F (q := 5) (dk dX0_init 2 rfl) rfl rfl 0 rfl ?_
  refine g_iconst F (q := 6) (v := 4) (dk dX0_init 3 rfl) rfl (by decide) ?_
  refine g_newq F (q := 9) (N := 4) tq_130 hNW.g (by decide) (by decide) (by decide) (Nat.le_of_ble_eq_true rfl) (Nat.le_of_ble_eq_true rfl) (dk dX0_init 4 rfl) rfl (fun ad6 E6 hA6 hB6 hN6 => ?_)
  have hb : E6 73 = .inr (0, [.null, .int 0]) := (hB6 73 (by omega)).trans (hb)
  have hF : ∀ k, k < 73 → E6 k = E k := fun k hk => (hB6 k (by omega)).trans (hF k hk)
  have hG : ∀ k, k < 74 → ad6 k = ad k := fun k hk => (hA6 k (by omega)).trans (hG k hk)
  rw [← hA6 73 (by omega)]
  have hq1 : E6 74 = .inl (cA 4, 4, .inr (.inr (.inr (.inr (fun _ => none))))) := hN6
  refine (show GG rm_X0_init 2 l D X 1 4 75 ad6 E6 9 [(0, .ref (ad6 73))] [.ref (ad6 74), .ref (ad6 73)] from ?_)
  refine g_putF F (q := 12) (ty := .array (.object "ThumpEars$State")) hb rfl inX0 tyX0 tyX0_ok nmX0 (by omega) (j := 0) (by decide) tq_133 rfl rfl hin rfl (by decide +kernel) rfl rfl (Nat.le_of_ble_eq_true rfl) (dk dX0_init 5 rfl) rfl (fun E9 hE9 hO9 => ?_)
  have hb : E9 73 = .inr (0, [.ref (ad6 74), .int 0]) := hE9
  have hq1 : E9 74 = .inl (cA 4, 4, .inr (.inr (.inr (.inr (fun _ => none))))) := (hO9 74 (by omega)).trans hq1
  have hF : ∀ k, k < 73 → E9 k = E k := fun k hk => (hO9 k (by omega)).trans (hF k hk)
  refine g_aload_n F (q := 13) (dk dX0_init 6 rfl) rfl rfl 0 rfl ?_
  refine g_iconst F (q := 14) (v := 0) (dk dX0_init 7 rfl) rfl (by decide) ?_
  refine g_putf F (q := 17) (ty := .int) hb rfl inX0 tyX0 tyX0_ok nmX0 (by omega) (j := 1) (by decide) tq_134 rfl rfl (by decide +kernel) rfl rfl (Nat.le_of_ble_eq_true rfl) (dk dX0_init 8 rfl) rfl (fun E14 hE14 hO14 => ?_)
  have hb : E14 73 = .inr (0, [.ref (ad6 74), .int 0]) := hE14
  have hq1 : E14 74 = .inl (cA 4, 4, .inr (.inr (.inr (.inr (fun _ => none))))) := (hO14 74 (by omega)).trans hq1
  have hF : ∀ k, k < 73 → E14 k = E k := fun k hk => (hO14 k (by omega)).trans (hF k hk)
  refine g_iconst F (q := 18) (v := 0) (dk dX0_init 9 rfl) rfl (by decide) ?_
  refine g_istore_n F (q := 19) (lv' := [(1, .int 0), (0, .ref (ad6 73))]) (dk dX0_init 10 rfl) rfl rfl (Nat.le_of_ble_eq_true rfl) rfl ?_
  refine g_iload_n F (q := 20) (dk dX0_init 11 rfl) rfl rfl 0 rfl ?_
  refine g_iconst F (q := 21) (v := 4) (dk dX0_init 12 rfl) rfl (by decide) ?_
  refine g_icmp_ge F (q := 24) (tgt := 43) (dk dX0_init 13 rfl) (by decide) rfl (fun h => absurd h (by decide)) (fun _ => ?_)
  refine g_aload_n F (q := 25) (dk dX0_init 14 rfl) rfl rfl 1 rfl ?_
  refine g_getf F (q := 28) hb rfl inX0 (by omega) (j := 0) (by decide) tq_133 rfl rfl (dk dX0_init 15 rfl) rfl ?_
  refine g_iload_n F (q := 29) (dk dX0_init 16 rfl) rfl rfl 0 rfl ?_
  refine g_new F (q := 32) (ci := 5) (fs := [.null, .null, .null, .null, .null, .null, .null, .int 0, .int 0, .int 0, .int 0]) (C := RX5) (T := TX5) (N := 11) inX5 tyX5 tyX5_ok tq_130 tq_27 tq_10 rfl (fun j hj => by rcases (show j = 0 ∨ j = 1 ∨ j = 2 ∨ j = 3 ∨ j = 4 ∨ j = 5 ∨ j = 6 ∨ j = 7 ∨ j = 8 ∨ j = 9 ∨ j = 10 by omega) with rfl | rfl | rfl | rfl | rfl | rfl | rfl | rfl | rfl | rfl | rfl <;> rfl) (Nat.le_of_ble_eq_true rfl) (Nat.le_of_ble_eq_true rfl) (dk dX0_init 17 rfl) rfl (fun ad29 E29 hA29 hB29 hN29 => ?_)
  have hb : E29 73 = .inr (0, [.ref (ad29 74), .int 0]) := (hB29 73 (by omega)).trans (hb.trans (by rw [hA29 74 (by omega)]))
  have hq1 : E29 74 = .inl (cA 4, 4, .inr (.inr (.inr (.inr (fun _ => none))))) := (hB29 74 (by omega)).trans hq1
  have hF : ∀ k, k < 73 → E29 k = E k := fun k hk => (hB29 k (by omega)).trans (hF k hk)
  have hG : ∀ k, k < 74 → ad29 k = ad k := fun k hk => (hA29 k (by omega)).trans (hG k hk)
  rw [← hA29 73 (by omega)]
  rw [← hA29 74 (by omega)]
  have hnew : E29 75 = .inr (5, [.null, .null, .null, .null, .null, .null, .null, .int 0, .int 0, .int 0, .int 0]) := hN29
  refine (show GG rm_X0_init 2 l D X 2 15 76 ad29 E29 32 [(1, .int 0), (0, .ref (ad29 73))] [.ref (ad29 75), .int 0, .ref (ad29 74)] from ?_)
  refine g_dup F (q := 33) (dk dX0_init 18 rfl) rfl rfl ?_
  refine g_callN F (q := 36) (n2 := 111) (mc := 35) (ms := 340) (c_X5_init (b := 75) hnew) kn_X5_init hNW hNW.c ⟨rfl, rfl⟩ (by decide) ⟨Nat.le_of_ble_eq_true rfl, Nat.le_of_ble_eq_true rfl⟩ (Nat.le_of_ble_eq_true rfl) (dk dX0_init 19 rfl) rfl (fun ad33 E33 hp33 => ?_)
  obtain ⟨hA33, hB33, hX33⟩ := hp33
  have hb : E33 73 = .inr (0, [.ref (ad33 74), .int 0]) := (hB33 73 (by omega)).trans (hb.trans (by rw [hA33 74 (by omega)]))
  have hq1 : E33 74 = .inl (cA 4, 4, .inr (.inr (.inr (.inr (fun _ => none))))) := (hB33 74 (by omega)).trans hq1
  have hF : ∀ k, k < 73 → E33 k = E k := fun k hk => (hB33 k (by omega)).trans (hF k hk)
  have hG : ∀ k, k < 74 → ad33 k = ad k := fun k hk => (hA33 k (by omega)).trans (hG k hk)
  rw [← hA33 73 (by omega)]
  rw [← hA33 75 (by omega)]
  rw [← hA33 74 (by omega)]
  have hs2 : StW cA ad33 E33 75 := hX33
  refine (show GG rm_X0_init 2 l D X 37 355 111 ad33 E33 36 [(1, .int 0), (0, .ref (ad33 73))] [.ref (ad33 75), .int 0, .ref (ad33 74)] from ?_)
  refine g_aast4 F (q := 37) 0 hq1 hs2.1 (by omega) (by omega) (by decide) (by decide) (by decide) (dk dX0_init 20 rfl) rfl (fun E36 hE36 hO36 => ?_)
  have hb : E36 73 = .inr (0, [.ref (ad33 74), .int 0]) := (hO36 73 (by omega)).trans hb
  have hs2 : StW cA ad33 E36 75 := hs2.mv (fun j h1 h2 => hO36 j (by omega)) (fun j h1 h2 => rfl)
  have hF : ∀ k, k < 73 → E36 k = E k := fun k hk => (hO36 k (by omega)).trans (hF k hk)
  obtain ⟨fq0, ef0⟩ : ∃ g : Nat → Option Nat, g = va_up (fun _ => none) 0 (some (ad33 75)) := ⟨_, rfl⟩
  rw [← ef0] at hE36
  have hq1 : E36 74 = .inl (cA 4, 4, .inr (.inr (.inr (.inr fq0)))) := hE36
  have hr0 : fq0 0 = some (ad33 75) := by rw [ef0]; exact if_pos rfl
  refine g_iinc F (q := 40) (v := 1) (lv' := [(1, .int 1), (0, .ref (ad33 73))]) (dk dX0_init 21 rfl) rfl 0 rfl (by decide) (Nat.le_of_ble_eq_true rfl) rfl ?_
  refine g_goto F (tgt := 19) (dk dX0_init 22 rfl) (by decide) ?_
  refine g_iload_n F (q := 20) (dk dX0_init 11 rfl) rfl rfl 0 rfl ?_
  refine g_iconst F (q := 21) (v := 4) (dk dX0_init 12 rfl) rfl (by decide) ?_
  refine g_icmp_ge F (q := 24) (tgt := 43) (dk dX0_init 13 rfl) (by decide) rfl (fun h => absurd h (by decide)) (fun _ => ?_)
  refine g_aload_n F (q := 25) (dk dX0_init 14 rfl) rfl rfl 1 rfl ?_
  refine g_getf F (q := 28) hb rfl inX0 (by omega) (j := 0) (by decide) tq_133 rfl rfl (dk dX0_init 15 rfl) rfl ?_
  refine g_iload_n F (q := 29) (dk dX0_init 16 rfl) rfl rfl 0 rfl ?_
  refine g_new F (q := 32) (ci := 5) (fs := [.null, .null, .null, .null, .null, .null, .null, .int 0, .int 0, .int 0, .int 0]) (C := RX5) (T := TX5) (N := 11) inX5 tyX5 tyX5_ok tq_130 tq_27 tq_10 rfl (fun j hj => by rcases (show j = 0 ∨ j = 1 ∨ j = 2 ∨ j = 3 ∨ j = 4 ∨ j = 5 ∨ j = 6 ∨ j = 7 ∨ j = 8 ∨ j = 9 ∨ j = 10 by omega) with rfl | rfl | rfl | rfl | rfl | rfl | rfl | rfl | rfl | rfl | rfl <;> rfl) (Nat.le_of_ble_eq_true rfl) (Nat.le_of_ble_eq_true rfl) (dk dX0_init 17 rfl) rfl (fun ad29x1 E29x1 hA29x1 hB29x1 hN29x1 => ?_)
  have hb : E29x1 73 = .inr (0, [.ref (ad29x1 74), .int 0]) := (hB29x1 73 (by omega)).trans (hb.trans (by rw [hA29x1 74 (by omega)]))
  have hq1 : E29x1 74 = .inl (cA 4, 4, .inr (.inr (.inr (.inr fq0)))) := (hB29x1 74 (by omega)).trans hq1
  have hs2 : StW cA ad29x1 E29x1 75 := hs2.mv (fun j h1 h2 => hB29x1 j (by omega)) (fun j h1 h2 => hA29x1 j (by omega))
  have hr0 : fq0 0 = some (ad29x1 75) := by rw [hA29x1 75 (by omega)]; exact hr0
  have hF : ∀ k, k < 73 → E29x1 k = E k := fun k hk => (hB29x1 k (by omega)).trans (hF k hk)
  have hG : ∀ k, k < 74 → ad29x1 k = ad k := fun k hk => (hA29x1 k (by omega)).trans (hG k hk)
  rw [← hA29x1 73 (by omega)]
  rw [← hA29x1 74 (by omega)]
  have hnew : E29x1 111 = .inr (5, [.null, .null, .null, .null, .null, .null, .null, .int 0, .int 0, .int 0, .int 0]) := hN29x1
  refine (show GG rm_X0_init 2 l D X 38 366 112 ad29x1 E29x1 32 [(1, .int 1), (0, .ref (ad29x1 73))] [.ref (ad29x1 111), .int 1, .ref (ad29x1 74)] from ?_)
  refine g_dup F (q := 33) (dk dX0_init 18 rfl) rfl rfl ?_
  refine g_callN F (q := 36) (n2 := 147) (mc := 35) (ms := 340) (c_X5_init (b := 111) hnew) kn_X5_init hNW hNW.c ⟨rfl, rfl⟩ (by decide) ⟨Nat.le_of_ble_eq_true rfl, Nat.le_of_ble_eq_true rfl⟩ (Nat.le_of_ble_eq_true rfl) (dk dX0_init 19 rfl) rfl (fun ad33x1 E33x1 hp33x1 => ?_)
  obtain ⟨hA33x1, hB33x1, hX33x1⟩ := hp33x1
  have hb : E33x1 73 = .inr (0, [.ref (ad33x1 74), .int 0]) := (hB33x1 73 (by omega)).trans (hb.trans (by rw [hA33x1 74 (by omega)]))
  have hq1 : E33x1 74 = .inl (cA 4, 4, .inr (.inr (.inr (.inr fq0)))) := (hB33x1 74 (by omega)).trans hq1
  have hs2 : StW cA ad33x1 E33x1 75 := hs2.mv (fun j h1 h2 => hB33x1 j (by omega)) (fun j h1 h2 => hA33x1 j (by omega))
  have hr0 : fq0 0 = some (ad33x1 75) := by rw [hA33x1 75 (by omega)]; exact hr0
  have hF : ∀ k, k < 73 → E33x1 k = E k := fun k hk => (hB33x1 k (by omega)).trans (hF k hk)
  have hG : ∀ k, k < 74 → ad33x1 k = ad k := fun k hk => (hA33x1 k (by omega)).trans (hG k hk)
  rw [← hA33x1 73 (by omega)]
  rw [← hA33x1 111 (by omega)]
  rw [← hA33x1 74 (by omega)]
  have hs38 : StW cA ad33x1 E33x1 111 := hX33x1
  refine (show GG rm_X0_init 2 l D X 73 706 147 ad33x1 E33x1 36 [(1, .int 1), (0, .ref (ad33x1 73))] [.ref (ad33x1 111), .int 1, .ref (ad33x1 74)] from ?_)
  refine g_aast4 F (q := 37) 1 hq1 hs38.1 (by omega) (by omega) (by decide) (by decide) (by decide) (dk dX0_init 20 rfl) rfl (fun E36x1 hE36x1 hO36x1 => ?_)
  have hb : E36x1 73 = .inr (0, [.ref (ad33x1 74), .int 0]) := (hO36x1 73 (by omega)).trans hb
  have hs2 : StW cA ad33x1 E36x1 75 := hs2.mv (fun j h1 h2 => hO36x1 j (by omega)) (fun j h1 h2 => rfl)
  have hs38 : StW cA ad33x1 E36x1 111 := hs38.mv (fun j h1 h2 => hO36x1 j (by omega)) (fun j h1 h2 => rfl)
  have hF : ∀ k, k < 73 → E36x1 k = E k := fun k hk => (hO36x1 k (by omega)).trans (hF k hk)
  obtain ⟨fq1, ef1⟩ : ∃ g : Nat → Option Nat, g = va_up fq0 1 (some (ad33x1 111)) := ⟨_, rfl⟩
  rw [← ef1] at hE36x1
  have hq1 : E36x1 74 = .inl (cA 4, 4, .inr (.inr (.inr (.inr fq1)))) := hE36x1
  have hr0 : fq1 0 = some (ad33x1 75) := by rw [ef1]; exact (if_neg (by decide)).trans hr0
  have hr1 : fq1 1 = some (ad33x1 111) := by rw [ef1]; exact if_pos rfl
  refine g_iinc F (q := 40) (v := 2) (lv' := [(1, .int 2), (0, .ref (ad33x1 73))]) (dk dX0_init 21 rfl) rfl 0 rfl (by decide) (Nat.le_of_ble_eq_true rfl) rfl ?_
  refine g_goto F (tgt := 19) (dk dX0_init 22 rfl) (by decide) ?_
  refine g_iload_n F (q := 20) (dk dX0_init 11 rfl) rfl rfl 0 rfl ?_
  refine g_iconst F (q := 21) (v := 4) (dk dX0_init 12 rfl) rfl (by decide) ?_
  refine g_icmp_ge F (q := 24) (tgt := 43) (dk dX0_init 13 rfl) (by decide) rfl (fun h => absurd h (by decide)) (fun _ => ?_)
  refine g_aload_n F (q := 25) (dk dX0_init 14 rfl) rfl rfl 1 rfl ?_
  refine g_getf F (q := 28) hb rfl inX0 (by omega) (j := 0) (by decide) tq_133 rfl rfl (dk dX0_init 15 rfl) rfl ?_
  refine g_iload_n F (q := 29) (dk dX0_init 16 rfl) rfl rfl 0 rfl ?_
  refine g_new F (q := 32) (ci := 5) (fs := [.null, .null, .null, .null, .null, .null, .null, .int 0, .int 0, .int 0, .int 0]) (C := RX5) (T := TX5) (N := 11) inX5 tyX5 tyX5_ok tq_130 tq_27 tq_10 rfl (fun j hj => by rcases (show j = 0 ∨ j = 1 ∨ j = 2 ∨ j = 3 ∨ j = 4 ∨ j = 5 ∨ j = 6 ∨ j = 7 ∨ j = 8 ∨ j = 9 ∨ j = 10 by omega) with rfl | rfl | rfl | rfl | rfl | rfl | rfl | rfl | rfl | rfl | rfl <;> rfl) (Nat.le_of_ble_eq_true rfl) (Nat.le_of_ble_eq_true rfl) (dk dX0_init 17 rfl) rfl (fun ad29x2 E29x2 hA29x2 hB29x2 hN29x2 => ?_)
  have hb : E29x2 73 = .inr (0, [.ref (ad29x2 74), .int 0]) := (hB29x2 73 (by omega)).trans (hb.trans (by rw [hA29x2 74 (by omega)]))
  have hq1 : E29x2 74 = .inl (cA 4, 4, .inr (.inr (.inr (.inr fq1)))) := (hB29x2 74 (by omega)).trans hq1
  have hs2 : StW cA ad29x2 E29x2 75 := hs2.mv (fun j h1 h2 => hB29x2 j (by omega)) (fun j h1 h2 => hA29x2 j (by omega))
  have hr0 : fq1 0 = some (ad29x2 75) := by rw [hA29x2 75 (by omega)]; exact hr0
  have hs38 : StW cA ad29x2 E29x2 111 := hs38.mv (fun j h1 h2 => hB29x2 j (by omega)) (fun j h1 h2 => hA29x2 j (by omega))
  have hr1 : fq1 1 = some (ad29x2 111) := by rw [hA29x2 111 (by omega)]; exact hr1
  have hF : ∀ k, k < 73 → E29x2 k = E k := fun k hk => (hB29x2 k (by omega)).trans (hF k hk)
  have hG : ∀ k, k < 74 → ad29x2 k = ad k := fun k hk => (hA29x2 k (by omega)).trans (hG k hk)
  rw [← hA29x2 73 (by omega)]
  rw [← hA29x2 74 (by omega)]
  have hnew : E29x2 147 = .inr (5, [.null, .null, .null, .null, .null, .null, .null, .int 0, .int 0, .int 0, .int 0]) := hN29x2
  refine (show GG rm_X0_init 2 l D X 74 717 148 ad29x2 E29x2 32 [(1, .int 2), (0, .ref (ad29x2 73))] [.ref (ad29x2 147), .int 2, .ref (ad29x2 74)] from ?_)
  refine g_dup F (q := 33) (dk dX0_init 18 rfl) rfl rfl ?_
  refine g_callN F (q := 36) (n2 := 183) (mc := 35) (ms := 340) (c_X5_init (b := 147) hnew) kn_X5_init hNW hNW.c ⟨rfl, rfl⟩ (by decide) ⟨Nat.le_of_ble_eq_true rfl, Nat.le_of_ble_eq_true rfl⟩ (Nat.le_of_ble_eq_true rfl) (dk dX0_init 19 rfl) rfl (fun ad33x2 E33x2 hp33x2 => ?_)
  obtain ⟨hA33x2, hB33x2, hX33x2⟩ := hp33x2
  have hb : E33x2 73 = .inr (0, [.ref (ad33x2 74), .int 0]) := (hB33x2 73 (by omega)).trans (hb.trans (by rw [hA33x2 74 (by omega)]))
  have hq1 : E33x2 74 = .inl (cA 4, 4, .inr (.inr (.inr (.inr fq1)))) := (hB33x2 74 (by omega)).trans hq1
  have hs2 : StW cA ad33x2 E33x2 75 := hs2.mv (fun j h1 h2 => hB33x2 j (by omega)) (fun j h1 h2 => hA33x2 j (by omega))
  have hr0 : fq1 0 = some (ad33x2 75) := by rw [hA33x2 75 (by omega)]; exact hr0
  have hs38 : StW cA ad33x2 E33x2 111 := hs38.mv (fun j h1 h2 => hB33x2 j (by omega)) (fun j h1 h2 => hA33x2 j (by omega))
  have hr1 : fq1 1 = some (ad33x2 111) := by rw [hA33x2 111 (by omega)]; exact hr1
  have hF : ∀ k, k < 73 → E33x2 k = E k := fun k hk => (hB33x2 k (by omega)).trans (hF k hk)
  have hG : ∀ k, k < 74 → ad33x2 k = ad k := fun k hk => (hA33x2 k (by omega)).trans (hG k hk)
  rw [← hA33x2 73 (by omega)]
  rw [← hA33x2 147 (by omega)]
  rw [← hA33x2 74 (by omega)]
  have hs74 : StW cA ad33x2 E33x2 147 := hX33x2
  refine (show GG rm_X0_init 2 l D X 109 1057 183 ad33x2 E33x2 36 [(1, .int 2), (0, .ref (ad33x2 73))] [.ref (ad33x2 147), .int 2, .ref (ad33x2 74)] from ?_)
  refine g_aast4 F (q := 37) 2 hq1 hs74.1 (by omega) (by omega) (by decide) (by decide) (by decide) (dk dX0_init 20 rfl) rfl (fun E36x2 hE36x2 hO36x2 => ?_)
  have hb : E36x2 73 = .inr (0, [.ref (ad33x2 74), .int 0]) := (hO36x2 73 (by omega)).trans hb
  have hs2 : StW cA ad33x2 E36x2 75 := hs2.mv (fun j h1 h2 => hO36x2 j (by omega)) (fun j h1 h2 => rfl)
  have hs38 : StW cA ad33x2 E36x2 111 := hs38.mv (fun j h1 h2 => hO36x2 j (by omega)) (fun j h1 h2 => rfl)
  have hs74 : StW cA ad33x2 E36x2 147 := hs74.mv (fun j h1 h2 => hO36x2 j (by omega)) (fun j h1 h2 => rfl)
  have hF : ∀ k, k < 73 → E36x2 k = E k := fun k hk => (hO36x2 k (by omega)).trans (hF k hk)
  obtain ⟨fq2, ef2⟩ : ∃ g : Nat → Option Nat, g = va_up fq1 2 (some (ad33x2 147)) := ⟨_, rfl⟩
  rw [← ef2] at hE36x2
  have hq1 : E36x2 74 = .inl (cA 4, 4, .inr (.inr (.inr (.inr fq2)))) := hE36x2
  have hr0 : fq2 0 = some (ad33x2 75) := by rw [ef2]; exact (if_neg (by decide)).trans hr0
  have hr1 : fq2 1 = some (ad33x2 111) := by rw [ef2]; exact (if_neg (by decide)).trans hr1
  have hr2 : fq2 2 = some (ad33x2 147) := by rw [ef2]; exact if_pos rfl
  refine g_iinc F (q := 40) (v := 3) (lv' := [(1, .int 3), (0, .ref (ad33x2 73))]) (dk dX0_init 21 rfl) rfl 0 rfl (by decide) (Nat.le_of_ble_eq_true rfl) rfl ?_
  refine g_goto F (tgt := 19) (dk dX0_init 22 rfl) (by decide) ?_
  refine g_iload_n F (q := 20) (dk dX0_init 11 rfl) rfl rfl 0 rfl ?_
  refine g_iconst F (q := 21) (v := 4) (dk dX0_init 12 rfl) rfl (by decide) ?_
  refine g_icmp_ge F (q := 24) (tgt := 43) (dk dX0_init 13 rfl) (by decide) rfl (fun h => absurd h (by decide)) (fun _ => ?_)
  refine g_aload_n F (q := 25) (dk dX0_init 14 rfl) rfl rfl 1 rfl ?_
  refine g_getf F (q := 28) hb rfl inX0 (by omega) (j := 0) (by decide) tq_133 rfl rfl (dk dX0_init 15 rfl) rfl ?_
  refine g_iload_n F (q := 29) (dk dX0_init 16 rfl) rfl rfl 0 rfl ?_
  refine g_new F (q := 32) (ci := 5) (fs := [.null, .null, .null, .null, .null, .null, .null, .int 0, .int 0, .int 0, .int 0]) (C := RX5) (T := TX5) (N := 11) inX5 tyX5 tyX5_ok tq_130 tq_27 tq_10 rfl (fun j hj => by rcases (show j = 0 ∨ j = 1 ∨ j = 2 ∨ j = 3 ∨ j = 4 ∨ j = 5 ∨ j = 6 ∨ j = 7 ∨ j = 8 ∨ j = 9 ∨ j = 10 by omega) with rfl | rfl | rfl | rfl | rfl | rfl | rfl | rfl | rfl | rfl | rfl <;> rfl) (Nat.le_of_ble_eq_true rfl) (Nat.le_of_ble_eq_true rfl) (dk dX0_init 17 rfl) rfl (fun ad29x3 E29x3 hA29x3 hB29x3 hN29x3 => ?_)
  have hb : E29x3 73 = .inr (0, [.ref (ad29x3 74), .int 0]) := (hB29x3 73 (by omega)).trans (hb.trans (by rw [hA29x3 74 (by omega)]))
  have hq1 : E29x3 74 = .inl (cA 4, 4, .inr (.inr (.inr (.inr fq2)))) := (hB29x3 74 (by omega)).trans hq1
  have hs2 : StW cA ad29x3 E29x3 75 := hs2.mv (fun j h1 h2 => hB29x3 j (by omega)) (fun j h1 h2 => hA29x3 j (by omega))
  have hr0 : fq2 0 = some (ad29x3 75) := by rw [hA29x3 75 (by omega)]; exact hr0
  have hs38 : StW cA ad29x3 E29x3 111 := hs38.mv (fun j h1 h2 => hB29x3 j (by omega)) (fun j h1 h2 => hA29x3 j (by omega))
  have hr1 : fq2 1 = some (ad29x3 111) := by rw [hA29x3 111 (by omega)]; exact hr1
  have hs74 : StW cA ad29x3 E29x3 147 := hs74.mv (fun j h1 h2 => hB29x3 j (by omega)) (fun j h1 h2 => hA29x3 j (by omega))
  have hr2 : fq2 2 = some (ad29x3 147) := by rw [hA29x3 147 (by omega)]; exact hr2
  have hF : ∀ k, k < 73 → E29x3 k = E k := fun k hk => (hB29x3 k (by omega)).trans (hF k hk)
  have hG : ∀ k, k < 74 → ad29x3 k = ad k := fun k hk => (hA29x3 k (by omega)).trans (hG k hk)
  rw [← hA29x3 73 (by omega)]
  rw [← hA29x3 74 (by omega)]
  have hnew : E29x3 183 = .inr (5, [.null, .null, .null, .null, .null, .null, .null, .int 0, .int 0, .int 0, .int 0]) := hN29x3
  refine (show GG rm_X0_init 2 l D X 110 1068 184 ad29x3 E29x3 32 [(1, .int 3), (0, .ref (ad29x3 73))] [.ref (ad29x3 183), .int 3, .ref (ad29x3 74)] from ?_)
  refine g_dup F (q := 33) (dk dX0_init 18 rfl) rfl rfl ?_
  refine g_callN F (q := 36) (n2 := 219) (mc := 35) (ms := 340) (c_X5_init (b := 183) hnew) kn_X5_init hNW hNW.c ⟨rfl, rfl⟩ (by decide) ⟨Nat.le_of_ble_eq_true rfl, Nat.le_of_ble_eq_true rfl⟩ (Nat.le_of_ble_eq_true rfl) (dk dX0_init 19 rfl) rfl (fun ad33x3 E33x3 hp33x3 => ?_)
  obtain ⟨hA33x3, hB33x3, hX33x3⟩ := hp33x3
  have hb : E33x3 73 = .inr (0, [.ref (ad33x3 74), .int 0]) := (hB33x3 73 (by omega)).trans (hb.trans (by rw [hA33x3 74 (by omega)]))
  have hq1 : E33x3 74 = .inl (cA 4, 4, .inr (.inr (.inr (.inr fq2)))) := (hB33x3 74 (by omega)).trans hq1
  have hs2 : StW cA ad33x3 E33x3 75 := hs2.mv (fun j h1 h2 => hB33x3 j (by omega)) (fun j h1 h2 => hA33x3 j (by omega))
  have hr0 : fq2 0 = some (ad33x3 75) := by rw [hA33x3 75 (by omega)]; exact hr0
  have hs38 : StW cA ad33x3 E33x3 111 := hs38.mv (fun j h1 h2 => hB33x3 j (by omega)) (fun j h1 h2 => hA33x3 j (by omega))
  have hr1 : fq2 1 = some (ad33x3 111) := by rw [hA33x3 111 (by omega)]; exact hr1
  have hs74 : StW cA ad33x3 E33x3 147 := hs74.mv (fun j h1 h2 => hB33x3 j (by omega)) (fun j h1 h2 => hA33x3 j (by omega))
  have hr2 : fq2 2 = some (ad33x3 147) := by rw [hA33x3 147 (by omega)]; exact hr2
  have hF : ∀ k, k < 73 → E33x3 k = E k := fun k hk => (hB33x3 k (by omega)).trans (hF k hk)
  have hG : ∀ k, k < 74 → ad33x3 k = ad k := fun k hk => (hA33x3 k (by omega)).trans (hG k hk)
  rw [← hA33x3 73 (by omega)]
  rw [← hA33x3 183 (by omega)]
  rw [← hA33x3 74 (by omega)]
  have hs110 : StW cA ad33x3 E33x3 183 := hX33x3
  refine (show GG rm_X0_init 2 l D X 145 1408 219 ad33x3 E33x3 36 [(1, .int 3), (0, .ref (ad33x3 73))] [.ref (ad33x3 183), .int 3, .ref (ad33x3 74)] from ?_)
  refine g_aast4 F (q := 37) 3 hq1 hs110.1 (by omega) (by omega) (by decide) (by decide) (by decide) (dk dX0_init 20 rfl) rfl (fun E36x3 hE36x3 hO36x3 => ?_)
  have hb : E36x3 73 = .inr (0, [.ref (ad33x3 74), .int 0]) := (hO36x3 73 (by omega)).trans hb
  have hs2 : StW cA ad33x3 E36x3 75 := hs2.mv (fun j h1 h2 => hO36x3 j (by omega)) (fun j h1 h2 => rfl)
  have hs38 : StW cA ad33x3 E36x3 111 := hs38.mv (fun j h1 h2 => hO36x3 j (by omega)) (fun j h1 h2 => rfl)
  have hs74 : StW cA ad33x3 E36x3 147 := hs74.mv (fun j h1 h2 => hO36x3 j (by omega)) (fun j h1 h2 => rfl)
  have hs110 : StW cA ad33x3 E36x3 183 := hs110.mv (fun j h1 h2 => hO36x3 j (by omega)) (fun j h1 h2 => rfl)
  have hF : ∀ k, k < 73 → E36x3 k = E k := fun k hk => (hO36x3 k (by omega)).trans (hF k hk)
  obtain ⟨fq3, ef3⟩ : ∃ g : Nat → Option Nat, g = va_up fq2 3 (some (ad33x3 183)) := ⟨_, rfl⟩
  rw [← ef3] at hE36x3
  have hq1 : E36x3 74 = .inl (cA 4, 4, .inr (.inr (.inr (.inr fq3)))) := hE36x3
  have hr0 : fq3 0 = some (ad33x3 75) := by rw [ef3]; exact (if_neg (by decide)).trans hr0
  have hr1 : fq3 1 = some (ad33x3 111) := by rw [ef3]; exact (if_neg (by decide)).trans hr1
  have hr2 : fq3 2 = some (ad33x3 147) := by rw [ef3]; exact (if_neg (by decide)).trans hr2
  have hr3 : fq3 3 = some (ad33x3 183) := by rw [ef3]; exact if_pos rfl
  refine g_iinc F (q := 40) (v := 4) (lv' := [(1, .int 4), (0, .ref (ad33x3 73))]) (dk dX0_init 21 rfl) rfl 0 rfl (by decide) (Nat.le_of_ble_eq_true rfl) rfl ?_
  refine g_goto F (tgt := 19) (dk dX0_init 22 rfl) (by decide) ?_
  refine g_iload_n F (q := 20) (dk dX0_init 11 rfl) rfl rfl 0 rfl ?_
  refine g_iconst F (q := 21) (v := 4) (dk dX0_init 12 rfl) rfl (by decide) ?_
  refine g_icmp_ge F (q := 24) (tgt := 43) (dk dX0_init 13 rfl) (by decide) rfl (fun _ => ?_) (fun h => absurd h (by decide))
  have hfr : ∀ i, i < 4 → fq3 i = some (ad33x3 (75 + 36 * i)) := fun i hi => by rcases (show i = 0 ∨ i = 1 ∨ i = 2 ∨ i = 3 by omega) with rfl | rfl | rfl | rfl <;> first | exact hr0 | exact hr1 | exact hr2 | exact hr3
  have hst : ∀ i, i < 4 → StW cA ad33x3 E36x3 (75 + 36 * i) := fun i hi => by rcases (show i = 0 ∨ i = 1 ∨ i = 2 ∨ i = 3 by omega) with rfl | rfl | rfl | rfl <;> first | exact hs2 | exact hs38 | exact hs74 | exact hs110
  exact hret ad33x3 E36x3 _ _ (dk dX0_init 23 rfl) ⟨hG, hF, hb, ⟨_, hq1, hfr⟩, hst⟩
theorem kn_X0_init : KN yX0_init cX0_init 2 := ⟨tq_127, tq_12, tq_128, rfl, by decide +kernel⟩
abbrev rm_X2_init : Room := { frames := 1, cells := 5, slots := 300, locals := 12 }
set_option maxHeartbeats 4000000 in
set_option maxRecDepth 100000 in
theorem c_X2_init {l : Launch} {D : va_G} {cA : Nat → ClassId} {ad : Nat → Nat} {E : Nat → va_E} (hb : E 219 = .inr (2, [.null, .int 0, .null, .null, .null, .null, .int 0, .int 0, .int 0])) : CtN l D cA yX2_init cX2_init 1 rm_X2_init 220 225 5 300 ad E [.ref (ad 219)] (fun ad' E' => (∀ k, k < 220 → ad' k = ad k) ∧ (∀ k, k < 219 → E' k = E k) ∧ OtW cA ad' E' 219) := by
  refine CtN.of (by decide +kernel) (Nat.le_of_ble_eq_true rfl) rfl (fun X F hin hNW hret => ?_)
  have F : Fr "ThumpEars$OrderText" cX2_init 1 D cA X := F
  refine (show GG rm_X2_init 1 l D X 0 0 220 ad E 0 [(0, .ref (ad 219))] [] from ?_)
  have hF : ∀ k, k < 219 → E k = E k := fun k _ => rfl
  have hG : ∀ k, k < 220 → ad k = ad k := fun k _ => rfl
  refine g_aload_n F (q := 1) (dk dX2_init 0 rfl) rfl rfl 0 rfl ?_
  refine g_oinit F (q := 4) tq_146 tq_24 tq_25 (by decide) (Nat.le_of_ble_eq_true rfl) (dk dX2_init 1 rfl) rfl ?_
  refine g_aload_n F (q := 5) (dk dX2_init 2 rfl) rfl rfl 0 rfl ?_
  refine g_bipush F (q := 7) (v := 60) (dk dX2_init 3 rfl) rfl (by decide) ?_
  refine g_newa F (q := 9) (at' := .char) (i := 3) (N := 60) (ty := .char) (a0 := (60, .inl (fun _ => 0))) tq_182 rfl rfl (fun c => rfl) (by decide) (by decide) (by decide) (Nat.le_of_ble_eq_true rfl) (Nat.le_of_ble_eq_true rfl) (dk dX2_init 4 rfl) rfl (fun ad7 E7 hA7 hB7 hN7 => ?_)
  have hb : E7 219 = .inr (2, [.null, .int 0, .null, .null, .null, .null, .int 0, .int 0, .int 0]) := (hB7 219 (by omega)).trans (hb)
  have hF : ∀ k, k < 219 → E7 k = E k := fun k hk => (hB7 k (by omega)).trans (hF k hk)
  have hG : ∀ k, k < 220 → ad7 k = ad k := fun k hk => (hA7 k (by omega)).trans (hG k hk)
  rw [← hA7 219 (by omega)]
  have hc1 : E7 220 = .inl (cA 3, 60, .inl (fun _ => 0)) := hN7
  refine (show GG rm_X2_init 1 l D X 1 60 221 ad7 E7 9 [(0, .ref (ad7 219))] [.ref (ad7 220), .ref (ad7 219)] from ?_)
  refine g_putF F (q := 12) (ty := .array .char) hb rfl inX2 tyX2 tyX2_ok nmX2 (by omega) (j := 0) (by decide) tq_147 rfl rfl hin rfl (by decide +kernel) rfl rfl (Nat.le_of_ble_eq_true rfl) (dk dX2_init 5 rfl) rfl (fun E9 hE9 hO9 => ?_)
  have hb : E9 219 = .inr (2, [.ref (ad7 220), .int 0, .null, .null, .null, .null, .int 0, .int 0, .int 0]) := hE9
  have hc1 : E9 220 = .inl (cA 3, 60, .inl (fun _ => 0)) := (hO9 220 (by omega)).trans hc1
  have hF : ∀ k, k < 219 → E9 k = E k := fun k hk => (hO9 k (by omega)).trans (hF k hk)
  refine g_aload_n F (q := 13) (dk dX2_init 6 rfl) rfl rfl 0 rfl ?_
  refine g_iconst F (q := 14) (v := 0) (dk dX2_init 7 rfl) rfl (by decide) ?_
  refine g_putf F (q := 17) (ty := .int) hb rfl inX2 tyX2 tyX2_ok nmX2 (by omega) (j := 1) (by decide) tq_149 rfl rfl (by decide +kernel) rfl rfl (Nat.le_of_ble_eq_true rfl) (dk dX2_init 8 rfl) rfl (fun E14 hE14 hO14 => ?_)
  have hb : E14 219 = .inr (2, [.ref (ad7 220), .int 0, .null, .null, .null, .null, .int 0, .int 0, .int 0]) := hE14
  have hc1 : E14 220 = .inl (cA 3, 60, .inl (fun _ => 0)) := (hO14 220 (by omega)).trans hc1
  have hF : ∀ k, k < 219 → E14 k = E k := fun k hk => (hO14 k (by omega)).trans (hF k hk)
  refine g_aload_n F (q := 18) (dk dX2_init 9 rfl) rfl rfl 0 rfl ?_
  refine g_bipush F (q := 20) (v := 60) (dk dX2_init 10 rfl) rfl (by decide) ?_
  refine g_newa F (q := 22) (at' := .boolean) (i := 2) (N := 60) (ty := .boolean) (a0 := (60, .inl (fun _ => 0))) tq_73 rfl rfl (fun c => rfl) (by decide) (by decide) (by decide) (Nat.le_of_ble_eq_true rfl) (Nat.le_of_ble_eq_true rfl) (dk dX2_init 11 rfl) rfl (fun ad20 E20 hA20 hB20 hN20 => ?_)
  have hb : E20 219 = .inr (2, [.ref (ad20 220), .int 0, .null, .null, .null, .null, .int 0, .int 0, .int 0]) := (hB20 219 (by omega)).trans (hb.trans (by rw [hA20 220 (by omega)]))
  have hc1 : E20 220 = .inl (cA 3, 60, .inl (fun _ => 0)) := (hB20 220 (by omega)).trans hc1
  have hF : ∀ k, k < 219 → E20 k = E k := fun k hk => (hB20 k (by omega)).trans (hF k hk)
  have hG : ∀ k, k < 220 → ad20 k = ad k := fun k hk => (hA20 k (by omega)).trans (hG k hk)
  rw [← hA20 219 (by omega)]
  have hc2 : E20 221 = .inl (cA 2, 60, .inl (fun _ => 0)) := hN20
  refine (show GG rm_X2_init 1 l D X 2 120 222 ad20 E20 22 [(0, .ref (ad20 219))] [.ref (ad20 221), .ref (ad20 219)] from ?_)
  refine g_putF F (q := 25) (ty := .array .boolean) hb rfl inX2 tyX2 tyX2_ok nmX2 (by omega) (j := 2) (by decide) tq_151 rfl rfl hin rfl (by decide +kernel) rfl rfl (Nat.le_of_ble_eq_true rfl) (dk dX2_init 12 rfl) rfl (fun E22 hE22 hO22 => ?_)
  have hb : E22 219 = .inr (2, [.ref (ad20 220), .int 0, .ref (ad20 221), .null, .null, .null, .int 0, .int 0, .int 0]) := hE22
  have hc1 : E22 220 = .inl (cA 3, 60, .inl (fun _ => 0)) := (hO22 220 (by omega)).trans hc1
  have hc2 : E22 221 = .inl (cA 2, 60, .inl (fun _ => 0)) := (hO22 221 (by omega)).trans hc2
  have hF : ∀ k, k < 219 → E22 k = E k := fun k hk => (hO22 k (by omega)).trans (hF k hk)
  refine g_aload_n F (q := 26) (dk dX2_init 13 rfl) rfl rfl 0 rfl ?_
  refine g_bipush F (q := 28) (v := 60) (dk dX2_init 14 rfl) rfl (by decide) ?_
  refine g_newa F (q := 30) (at' := .int) (i := 0) (N := 60) (ty := .int) (a0 := (60, .inl (fun _ => 0))) tq_72 rfl rfl (fun c => rfl) (by decide) (by decide) (by decide) (Nat.le_of_ble_eq_true rfl) (Nat.le_of_ble_eq_true rfl) (dk dX2_init 15 rfl) rfl (fun ad28 E28 hA28 hB28 hN28 => ?_)
  have hb : E28 219 = .inr (2, [.ref (ad28 220), .int 0, .ref (ad28 221), .null, .null, .null, .int 0, .int 0, .int 0]) := (hB28 219 (by omega)).trans (hb.trans (by rw [hA28 220 (by omega), hA28 221 (by omega)]))
  have hc1 : E28 220 = .inl (cA 3, 60, .inl (fun _ => 0)) := (hB28 220 (by omega)).trans hc1
  have hc2 : E28 221 = .inl (cA 2, 60, .inl (fun _ => 0)) := (hB28 221 (by omega)).trans hc2
  have hF : ∀ k, k < 219 → E28 k = E k := fun k hk => (hB28 k (by omega)).trans (hF k hk)
  have hG : ∀ k, k < 220 → ad28 k = ad k := fun k hk => (hA28 k (by omega)).trans (hG k hk)
  rw [← hA28 219 (by omega)]
  have hc3 : E28 222 = .inl (cA 0, 60, .inl (fun _ => 0)) := hN28
  refine (show GG rm_X2_init 1 l D X 3 180 223 ad28 E28 30 [(0, .ref (ad28 219))] [.ref (ad28 222), .ref (ad28 219)] from ?_)
  refine g_putF F (q := 33) (ty := .array .int) hb rfl inX2 tyX2 tyX2_ok nmX2 (by omega) (j := 3) (by decide) tq_153 rfl rfl hin rfl (by decide +kernel) rfl rfl (Nat.le_of_ble_eq_true rfl) (dk dX2_init 16 rfl) rfl (fun E30 hE30 hO30 => ?_)
  have hb : E30 219 = .inr (2, [.ref (ad28 220), .int 0, .ref (ad28 221), .ref (ad28 222), .null, .null, .int 0, .int 0, .int 0]) := hE30
  have hc1 : E30 220 = .inl (cA 3, 60, .inl (fun _ => 0)) := (hO30 220 (by omega)).trans hc1
  have hc2 : E30 221 = .inl (cA 2, 60, .inl (fun _ => 0)) := (hO30 221 (by omega)).trans hc2
  have hc3 : E30 222 = .inl (cA 0, 60, .inl (fun _ => 0)) := (hO30 222 (by omega)).trans hc3
  have hF : ∀ k, k < 219 → E30 k = E k := fun k hk => (hO30 k (by omega)).trans (hF k hk)
  refine g_aload_n F (q := 34) (dk dX2_init 17 rfl) rfl rfl 0 rfl ?_
  refine g_bipush F (q := 36) (v := 60) (dk dX2_init 18 rfl) rfl (by decide) ?_
  refine g_newa F (q := 38) (at' := .int) (i := 0) (N := 60) (ty := .int) (a0 := (60, .inl (fun _ => 0))) tq_72 rfl rfl (fun c => rfl) (by decide) (by decide) (by decide) (Nat.le_of_ble_eq_true rfl) (Nat.le_of_ble_eq_true rfl) (dk dX2_init 19 rfl) rfl (fun ad36 E36 hA36 hB36 hN36 => ?_)
  have hb : E36 219 = .inr (2, [.ref (ad36 220), .int 0, .ref (ad36 221), .ref (ad36 222), .null, .null, .int 0, .int 0, .int 0]) := (hB36 219 (by omega)).trans (hb.trans (by rw [hA36 220 (by omega), hA36 221 (by omega), hA36 222 (by omega)]))
  have hc1 : E36 220 = .inl (cA 3, 60, .inl (fun _ => 0)) := (hB36 220 (by omega)).trans hc1
  have hc2 : E36 221 = .inl (cA 2, 60, .inl (fun _ => 0)) := (hB36 221 (by omega)).trans hc2
  have hc3 : E36 222 = .inl (cA 0, 60, .inl (fun _ => 0)) := (hB36 222 (by omega)).trans hc3
  have hF : ∀ k, k < 219 → E36 k = E k := fun k hk => (hB36 k (by omega)).trans (hF k hk)
  have hG : ∀ k, k < 220 → ad36 k = ad k := fun k hk => (hA36 k (by omega)).trans (hG k hk)
  rw [← hA36 219 (by omega)]
  have hc4 : E36 223 = .inl (cA 0, 60, .inl (fun _ => 0)) := hN36
  refine (show GG rm_X2_init 1 l D X 4 240 224 ad36 E36 38 [(0, .ref (ad36 219))] [.ref (ad36 223), .ref (ad36 219)] from ?_)
  refine g_putF F (q := 41) (ty := .array .int) hb rfl inX2 tyX2 tyX2_ok nmX2 (by omega) (j := 4) (by decide) tq_155 rfl rfl hin rfl (by decide +kernel) rfl rfl (Nat.le_of_ble_eq_true rfl) (dk dX2_init 20 rfl) rfl (fun E38 hE38 hO38 => ?_)
  have hb : E38 219 = .inr (2, [.ref (ad36 220), .int 0, .ref (ad36 221), .ref (ad36 222), .ref (ad36 223), .null, .int 0, .int 0, .int 0]) := hE38
  have hc1 : E38 220 = .inl (cA 3, 60, .inl (fun _ => 0)) := (hO38 220 (by omega)).trans hc1
  have hc2 : E38 221 = .inl (cA 2, 60, .inl (fun _ => 0)) := (hO38 221 (by omega)).trans hc2
  have hc3 : E38 222 = .inl (cA 0, 60, .inl (fun _ => 0)) := (hO38 222 (by omega)).trans hc3
  have hc4 : E38 223 = .inl (cA 0, 60, .inl (fun _ => 0)) := (hO38 223 (by omega)).trans hc4
  have hF : ∀ k, k < 219 → E38 k = E k := fun k hk => (hO38 k (by omega)).trans (hF k hk)
  refine g_aload_n F (q := 42) (dk dX2_init 21 rfl) rfl rfl 0 rfl ?_
  refine g_bipush F (q := 44) (v := 60) (dk dX2_init 22 rfl) rfl (by decide) ?_
  refine g_newa F (q := 46) (at' := .int) (i := 0) (N := 60) (ty := .int) (a0 := (60, .inl (fun _ => 0))) tq_72 rfl rfl (fun c => rfl) (by decide) (by decide) (by decide) (Nat.le_of_ble_eq_true rfl) (Nat.le_of_ble_eq_true rfl) (dk dX2_init 23 rfl) rfl (fun ad44 E44 hA44 hB44 hN44 => ?_)
  have hb : E44 219 = .inr (2, [.ref (ad44 220), .int 0, .ref (ad44 221), .ref (ad44 222), .ref (ad44 223), .null, .int 0, .int 0, .int 0]) := (hB44 219 (by omega)).trans (hb.trans (by rw [hA44 220 (by omega), hA44 221 (by omega), hA44 222 (by omega), hA44 223 (by omega)]))
  have hc1 : E44 220 = .inl (cA 3, 60, .inl (fun _ => 0)) := (hB44 220 (by omega)).trans hc1
  have hc2 : E44 221 = .inl (cA 2, 60, .inl (fun _ => 0)) := (hB44 221 (by omega)).trans hc2
  have hc3 : E44 222 = .inl (cA 0, 60, .inl (fun _ => 0)) := (hB44 222 (by omega)).trans hc3
  have hc4 : E44 223 = .inl (cA 0, 60, .inl (fun _ => 0)) := (hB44 223 (by omega)).trans hc4
  have hF : ∀ k, k < 219 → E44 k = E k := fun k hk => (hB44 k (by omega)).trans (hF k hk)
  have hG : ∀ k, k < 220 → ad44 k = ad k := fun k hk => (hA44 k (by omega)).trans (hG k hk)
  rw [← hA44 219 (by omega)]
  have hc5 : E44 224 = .inl (cA 0, 60, .inl (fun _ => 0)) := hN44
  refine (show GG rm_X2_init 1 l D X 5 300 225 ad44 E44 46 [(0, .ref (ad44 219))] [.ref (ad44 224), .ref (ad44 219)] from ?_)
  refine g_putF F (q := 49) (ty := .array .int) hb rfl inX2 tyX2 tyX2_ok nmX2 (by omega) (j := 5) (by decide) tq_157 rfl rfl hin rfl (by decide +kernel) rfl rfl (Nat.le_of_ble_eq_true rfl) (dk dX2_init 24 rfl) rfl (fun E46 hE46 hO46 => ?_)
  have hb : E46 219 = .inr (2, [.ref (ad44 220), .int 0, .ref (ad44 221), .ref (ad44 222), .ref (ad44 223), .ref (ad44 224), .int 0, .int 0, .int 0]) := hE46
  have hc1 : E46 220 = .inl (cA 3, 60, .inl (fun _ => 0)) := (hO46 220 (by omega)).trans hc1
  have hc2 : E46 221 = .inl (cA 2, 60, .inl (fun _ => 0)) := (hO46 221 (by omega)).trans hc2
  have hc3 : E46 222 = .inl (cA 0, 60, .inl (fun _ => 0)) := (hO46 222 (by omega)).trans hc3
  have hc4 : E46 223 = .inl (cA 0, 60, .inl (fun _ => 0)) := (hO46 223 (by omega)).trans hc4
  have hc5 : E46 224 = .inl (cA 0, 60, .inl (fun _ => 0)) := (hO46 224 (by omega)).trans hc5
  have hF : ∀ k, k < 219 → E46 k = E k := fun k hk => (hO46 k (by omega)).trans (hF k hk)
  refine g_aload_n F (q := 50) (dk dX2_init 25 rfl) rfl rfl 0 rfl ?_
  refine g_iconst F (q := 51) (v := 0) (dk dX2_init 26 rfl) rfl (by decide) ?_
  refine g_putf F (q := 54) (ty := .int) hb rfl inX2 tyX2 tyX2_ok nmX2 (by omega) (j := 6) (by decide) tq_159 rfl rfl (by decide +kernel) rfl rfl (Nat.le_of_ble_eq_true rfl) (dk dX2_init 27 rfl) rfl (fun E51 hE51 hO51 => ?_)
  have hb : E51 219 = .inr (2, [.ref (ad44 220), .int 0, .ref (ad44 221), .ref (ad44 222), .ref (ad44 223), .ref (ad44 224), .int 0, .int 0, .int 0]) := hE51
  have hc1 : E51 220 = .inl (cA 3, 60, .inl (fun _ => 0)) := (hO51 220 (by omega)).trans hc1
  have hc2 : E51 221 = .inl (cA 2, 60, .inl (fun _ => 0)) := (hO51 221 (by omega)).trans hc2
  have hc3 : E51 222 = .inl (cA 0, 60, .inl (fun _ => 0)) := (hO51 222 (by omega)).trans hc3
  have hc4 : E51 223 = .inl (cA 0, 60, .inl (fun _ => 0)) := (hO51 223 (by omega)).trans hc4
  have hc5 : E51 224 = .inl (cA 0, 60, .inl (fun _ => 0)) := (hO51 224 (by omega)).trans hc5
  have hF : ∀ k, k < 219 → E51 k = E k := fun k hk => (hO51 k (by omega)).trans (hF k hk)
  refine g_aload_n F (q := 55) (dk dX2_init 28 rfl) rfl rfl 0 rfl ?_
  refine g_iconst F (q := 56) (v := 0) (dk dX2_init 29 rfl) rfl (by decide) ?_
  refine g_putf F (q := 59) (ty := .int) hb rfl inX2 tyX2 tyX2_ok nmX2 (by omega) (j := 7) (by decide) tq_161 rfl rfl (by decide +kernel) rfl rfl (Nat.le_of_ble_eq_true rfl) (dk dX2_init 30 rfl) rfl (fun E56 hE56 hO56 => ?_)
  have hb : E56 219 = .inr (2, [.ref (ad44 220), .int 0, .ref (ad44 221), .ref (ad44 222), .ref (ad44 223), .ref (ad44 224), .int 0, .int 0, .int 0]) := hE56
  have hc1 : E56 220 = .inl (cA 3, 60, .inl (fun _ => 0)) := (hO56 220 (by omega)).trans hc1
  have hc2 : E56 221 = .inl (cA 2, 60, .inl (fun _ => 0)) := (hO56 221 (by omega)).trans hc2
  have hc3 : E56 222 = .inl (cA 0, 60, .inl (fun _ => 0)) := (hO56 222 (by omega)).trans hc3
  have hc4 : E56 223 = .inl (cA 0, 60, .inl (fun _ => 0)) := (hO56 223 (by omega)).trans hc4
  have hc5 : E56 224 = .inl (cA 0, 60, .inl (fun _ => 0)) := (hO56 224 (by omega)).trans hc5
  have hF : ∀ k, k < 219 → E56 k = E k := fun k hk => (hO56 k (by omega)).trans (hF k hk)
  refine g_aload_n F (q := 60) (dk dX2_init 31 rfl) rfl rfl 0 rfl ?_
  refine g_iconst F (q := 61) (v := 0) (dk dX2_init 32 rfl) rfl (by decide) ?_
  refine g_putf F (q := 64) (ty := .int) hb rfl inX2 tyX2 tyX2_ok nmX2 (by omega) (j := 8) (by decide) tq_162 rfl rfl (by decide +kernel) rfl rfl (Nat.le_of_ble_eq_true rfl) (dk dX2_init 33 rfl) rfl (fun E61 hE61 hO61 => ?_)
  have hb : E61 219 = .inr (2, [.ref (ad44 220), .int 0, .ref (ad44 221), .ref (ad44 222), .ref (ad44 223), .ref (ad44 224), .int 0, .int 0, .int 0]) := hE61
  have hc1 : E61 220 = .inl (cA 3, 60, .inl (fun _ => 0)) := (hO61 220 (by omega)).trans hc1
  have hc2 : E61 221 = .inl (cA 2, 60, .inl (fun _ => 0)) := (hO61 221 (by omega)).trans hc2
  have hc3 : E61 222 = .inl (cA 0, 60, .inl (fun _ => 0)) := (hO61 222 (by omega)).trans hc3
  have hc4 : E61 223 = .inl (cA 0, 60, .inl (fun _ => 0)) := (hO61 223 (by omega)).trans hc4
  have hc5 : E61 224 = .inl (cA 0, 60, .inl (fun _ => 0)) := (hO61 224 (by omega)).trans hc5
  have hF : ∀ k, k < 219 → E61 k = E k := fun k hk => (hO61 k (by omega)).trans (hF k hk)
  exact hret ad44 E61 _ _ (dk dX2_init 34 rfl) ⟨hG, hF, hb, hc1, hc2, hc3, hc4, hc5⟩
theorem kn_X2_init : KN yX2_init cX2_init 1 := ⟨tq_144, tq_13, tq_145, rfl, by decide +kernel⟩
abbrev rm_X1_init : Room := { frames := 1, cells := 3, slots := 30, locals := 12 }
set_option maxHeartbeats 4000000 in
set_option maxRecDepth 100000 in
theorem c_X1_init {l : Launch} {D : va_G} {cA : Nat → ClassId} {ad : Nat → Nat} {E : Nat → va_E} (hb : E 225 = .inr (1, [.null, .null, .null, .int 0])) : CtN l D cA yX1_init cX1_init 1 rm_X1_init 226 229 3 30 ad E [.ref (ad 225)] (fun ad' E' => (∀ k, k < 226 → ad' k = ad k) ∧ (∀ k, k < 225 → E' k = E k) ∧ MkW cA ad' E' 225) := by
  refine CtN.of (by decide +kernel) (Nat.le_of_ble_eq_true rfl) rfl (fun X F hin hNW hret => ?_)
  have F : Fr "ThumpEars$Marks" cX1_init 1 D cA X := F
  refine (show GG rm_X1_init 1 l D X 0 0 226 ad E 0 [(0, .ref (ad 225))] [] from ?_)
  have hF : ∀ k, k < 225 → E k = E k := fun k _ => rfl
  have hG : ∀ k, k < 226 → ad k = ad k := fun k _ => rfl
  refine g_aload_n F (q := 1) (dk dX1_init 0 rfl) rfl rfl 0 rfl ?_
  refine g_oinit F (q := 4) tq_188 tq_24 tq_25 (by decide) (Nat.le_of_ble_eq_true rfl) (dk dX1_init 1 rfl) rfl ?_
  refine g_aload_n F (q := 5) (dk dX1_init 2 rfl) rfl rfl 0 rfl ?_
  refine g_bipush F (q := 7) (v := 10) (dk dX1_init 3 rfl) rfl (by decide) ?_
  refine g_newa F (q := 9) (at' := .int) (i := 0) (N := 10) (ty := .int) (a0 := (10, .inl (fun _ => 0))) tq_72 rfl rfl (fun c => rfl) (by decide) (by decide) (by decide) (Nat.le_of_ble_eq_true rfl) (Nat.le_of_ble_eq_true rfl) (dk dX1_init 4 rfl) rfl (fun ad7 E7 hA7 hB7 hN7 => ?_)
  have hb : E7 225 = .inr (1, [.null, .null, .null, .int 0]) := (hB7 225 (by omega)).trans (hb)
  have hF : ∀ k, k < 225 → E7 k = E k := fun k hk => (hB7 k (by omega)).trans (hF k hk)
  have hG : ∀ k, k < 226 → ad7 k = ad k := fun k hk => (hA7 k (by omega)).trans (hG k hk)
  rw [← hA7 225 (by omega)]
  have hc1 : E7 226 = .inl (cA 0, 10, .inl (fun _ => 0)) := hN7
  refine (show GG rm_X1_init 1 l D X 1 10 227 ad7 E7 9 [(0, .ref (ad7 225))] [.ref (ad7 226), .ref (ad7 225)] from ?_)
  refine g_putF F (q := 12) (ty := .array .int) hb rfl inX1 tyX1 tyX1_ok nmX1 (by omega) (j := 0) (by decide) tq_189 rfl rfl hin rfl (by decide +kernel) rfl rfl (Nat.le_of_ble_eq_true rfl) (dk dX1_init 5 rfl) rfl (fun E9 hE9 hO9 => ?_)
  have hb : E9 225 = .inr (1, [.ref (ad7 226), .null, .null, .int 0]) := hE9
  have hc1 : E9 226 = .inl (cA 0, 10, .inl (fun _ => 0)) := (hO9 226 (by omega)).trans hc1
  have hF : ∀ k, k < 225 → E9 k = E k := fun k hk => (hO9 k (by omega)).trans (hF k hk)
  refine g_aload_n F (q := 13) (dk dX1_init 6 rfl) rfl rfl 0 rfl ?_
  refine g_bipush F (q := 15) (v := 10) (dk dX1_init 7 rfl) rfl (by decide) ?_
  refine g_newa F (q := 17) (at' := .int) (i := 0) (N := 10) (ty := .int) (a0 := (10, .inl (fun _ => 0))) tq_72 rfl rfl (fun c => rfl) (by decide) (by decide) (by decide) (Nat.le_of_ble_eq_true rfl) (Nat.le_of_ble_eq_true rfl) (dk dX1_init 8 rfl) rfl (fun ad15 E15 hA15 hB15 hN15 => ?_)
  have hb : E15 225 = .inr (1, [.ref (ad15 226), .null, .null, .int 0]) := (hB15 225 (by omega)).trans (hb.trans (by rw [hA15 226 (by omega)]))
  have hc1 : E15 226 = .inl (cA 0, 10, .inl (fun _ => 0)) := (hB15 226 (by omega)).trans hc1
  have hF : ∀ k, k < 225 → E15 k = E k := fun k hk => (hB15 k (by omega)).trans (hF k hk)
  have hG : ∀ k, k < 226 → ad15 k = ad k := fun k hk => (hA15 k (by omega)).trans (hG k hk)
  rw [← hA15 225 (by omega)]
  have hc2 : E15 227 = .inl (cA 0, 10, .inl (fun _ => 0)) := hN15
  refine (show GG rm_X1_init 1 l D X 2 20 228 ad15 E15 17 [(0, .ref (ad15 225))] [.ref (ad15 227), .ref (ad15 225)] from ?_)
  refine g_putF F (q := 20) (ty := .array .int) hb rfl inX1 tyX1 tyX1_ok nmX1 (by omega) (j := 1) (by decide) tq_191 rfl rfl hin rfl (by decide +kernel) rfl rfl (Nat.le_of_ble_eq_true rfl) (dk dX1_init 9 rfl) rfl (fun E17 hE17 hO17 => ?_)
  have hb : E17 225 = .inr (1, [.ref (ad15 226), .ref (ad15 227), .null, .int 0]) := hE17
  have hc1 : E17 226 = .inl (cA 0, 10, .inl (fun _ => 0)) := (hO17 226 (by omega)).trans hc1
  have hc2 : E17 227 = .inl (cA 0, 10, .inl (fun _ => 0)) := (hO17 227 (by omega)).trans hc2
  have hF : ∀ k, k < 225 → E17 k = E k := fun k hk => (hO17 k (by omega)).trans (hF k hk)
  refine g_aload_n F (q := 21) (dk dX1_init 10 rfl) rfl rfl 0 rfl ?_
  refine g_bipush F (q := 23) (v := 10) (dk dX1_init 11 rfl) rfl (by decide) ?_
  refine g_newa F (q := 25) (at' := .int) (i := 0) (N := 10) (ty := .int) (a0 := (10, .inl (fun _ => 0))) tq_72 rfl rfl (fun c => rfl) (by decide) (by decide) (by decide) (Nat.le_of_ble_eq_true rfl) (Nat.le_of_ble_eq_true rfl) (dk dX1_init 12 rfl) rfl (fun ad23 E23 hA23 hB23 hN23 => ?_)
  have hb : E23 225 = .inr (1, [.ref (ad23 226), .ref (ad23 227), .null, .int 0]) := (hB23 225 (by omega)).trans (hb.trans (by rw [hA23 226 (by omega), hA23 227 (by omega)]))
  have hc1 : E23 226 = .inl (cA 0, 10, .inl (fun _ => 0)) := (hB23 226 (by omega)).trans hc1
  have hc2 : E23 227 = .inl (cA 0, 10, .inl (fun _ => 0)) := (hB23 227 (by omega)).trans hc2
  have hF : ∀ k, k < 225 → E23 k = E k := fun k hk => (hB23 k (by omega)).trans (hF k hk)
  have hG : ∀ k, k < 226 → ad23 k = ad k := fun k hk => (hA23 k (by omega)).trans (hG k hk)
  rw [← hA23 225 (by omega)]
  have hc3 : E23 228 = .inl (cA 0, 10, .inl (fun _ => 0)) := hN23
  refine (show GG rm_X1_init 1 l D X 3 30 229 ad23 E23 25 [(0, .ref (ad23 225))] [.ref (ad23 228), .ref (ad23 225)] from ?_)
  refine g_putF F (q := 28) (ty := .array .int) hb rfl inX1 tyX1 tyX1_ok nmX1 (by omega) (j := 2) (by decide) tq_193 rfl rfl hin rfl (by decide +kernel) rfl rfl (Nat.le_of_ble_eq_true rfl) (dk dX1_init 13 rfl) rfl (fun E25 hE25 hO25 => ?_)
  have hb : E25 225 = .inr (1, [.ref (ad23 226), .ref (ad23 227), .ref (ad23 228), .int 0]) := hE25
  have hc1 : E25 226 = .inl (cA 0, 10, .inl (fun _ => 0)) := (hO25 226 (by omega)).trans hc1
  have hc2 : E25 227 = .inl (cA 0, 10, .inl (fun _ => 0)) := (hO25 227 (by omega)).trans hc2
  have hc3 : E25 228 = .inl (cA 0, 10, .inl (fun _ => 0)) := (hO25 228 (by omega)).trans hc3
  have hF : ∀ k, k < 225 → E25 k = E k := fun k hk => (hO25 k (by omega)).trans (hF k hk)
  refine g_aload_n F (q := 29) (dk dX1_init 14 rfl) rfl rfl 0 rfl ?_
  refine g_iconst F (q := 30) (v := 0) (dk dX1_init 15 rfl) rfl (by decide) ?_
  refine g_putf F (q := 33) (ty := .int) hb rfl inX1 tyX1 tyX1_ok nmX1 (by omega) (j := 3) (by decide) tq_195 rfl rfl (by decide +kernel) rfl rfl (Nat.le_of_ble_eq_true rfl) (dk dX1_init 16 rfl) rfl (fun E30 hE30 hO30 => ?_)
  have hb : E30 225 = .inr (1, [.ref (ad23 226), .ref (ad23 227), .ref (ad23 228), .int 0]) := hE30
  have hc1 : E30 226 = .inl (cA 0, 10, .inl (fun _ => 0)) := (hO30 226 (by omega)).trans hc1
  have hc2 : E30 227 = .inl (cA 0, 10, .inl (fun _ => 0)) := (hO30 227 (by omega)).trans hc2
  have hc3 : E30 228 = .inl (cA 0, 10, .inl (fun _ => 0)) := (hO30 228 (by omega)).trans hc3
  have hF : ∀ k, k < 225 → E30 k = E k := fun k hk => (hO30 k (by omega)).trans (hF k hk)
  exact hret ad23 E30 _ _ (dk dX1_init 17 rfl) ⟨hG, hF, hb, hc1, hc2, hc3⟩
theorem kn_X1_init : KN yX1_init cX1_init 1 := ⟨tq_186, tq_14, tq_187, rfl, by decide +kernel⟩
abbrev rm_X4_init : Room := { frames := 1, cells := 3, slots := 30, locals := 12 }
set_option maxHeartbeats 4000000 in
set_option maxRecDepth 100000 in
theorem c_X4_init {l : Launch} {D : va_G} {cA : Nat → ClassId} {ad : Nat → Nat} {E : Nat → va_E} (hb : E 229 = .inr (4, [.null, .null, .null, .int 0, .long 0, .int 0, .long 0, .long 0])) : CtN l D cA yX4_init cX4_init 1 rm_X4_init 230 233 3 30 ad E [.ref (ad 229)] (fun ad' E' => (∀ k, k < 230 → ad' k = ad k) ∧ (∀ k, k < 229 → E' k = E k) ∧ SrW cA ad' E' 229) := by
  refine CtN.of (by decide +kernel) (Nat.le_of_ble_eq_true rfl) rfl (fun X F hin hNW hret => ?_)
  have F : Fr "ThumpEars$Source" cX4_init 1 D cA X := F
  refine (show GG rm_X4_init 1 l D X 0 0 230 ad E 0 [(0, .ref (ad 229))] [] from ?_)
  have hF : ∀ k, k < 229 → E k = E k := fun k _ => rfl
  have hG : ∀ k, k < 230 → ad k = ad k := fun k _ => rfl
  refine g_aload_n F (q := 1) (dk dX4_init 0 rfl) rfl rfl 0 rfl ?_
  refine g_oinit F (q := 4) tq_211 tq_24 tq_25 (by decide) (Nat.le_of_ble_eq_true rfl) (dk dX4_init 1 rfl) rfl ?_
  refine g_aload_n F (q := 5) (dk dX4_init 2 rfl) rfl rfl 0 rfl ?_
  refine g_bipush F (q := 7) (v := 10) (dk dX4_init 3 rfl) rfl (by decide) ?_
  refine g_newa F (q := 9) (at' := .int) (i := 0) (N := 10) (ty := .int) (a0 := (10, .inl (fun _ => 0))) tq_72 rfl rfl (fun c => rfl) (by decide) (by decide) (by decide) (Nat.le_of_ble_eq_true rfl) (Nat.le_of_ble_eq_true rfl) (dk dX4_init 4 rfl) rfl (fun ad7 E7 hA7 hB7 hN7 => ?_)
  have hb : E7 229 = .inr (4, [.null, .null, .null, .int 0, .long 0, .int 0, .long 0, .long 0]) := (hB7 229 (by omega)).trans (hb)
  have hF : ∀ k, k < 229 → E7 k = E k := fun k hk => (hB7 k (by omega)).trans (hF k hk)
  have hG : ∀ k, k < 230 → ad7 k = ad k := fun k hk => (hA7 k (by omega)).trans (hG k hk)
  rw [← hA7 229 (by omega)]
  have hc1 : E7 230 = .inl (cA 0, 10, .inl (fun _ => 0)) := hN7
  refine (show GG rm_X4_init 1 l D X 1 10 231 ad7 E7 9 [(0, .ref (ad7 229))] [.ref (ad7 230), .ref (ad7 229)] from ?_)
  refine g_putF F (q := 12) (ty := .array .int) hb rfl inX4 tyX4 tyX4_ok nmX4 (by omega) (j := 0) (by decide) tq_212 rfl rfl hin rfl (by decide +kernel) rfl rfl (Nat.le_of_ble_eq_true rfl) (dk dX4_init 5 rfl) rfl (fun E9 hE9 hO9 => ?_)
  have hb : E9 229 = .inr (4, [.ref (ad7 230), .null, .null, .int 0, .long 0, .int 0, .long 0, .long 0]) := hE9
  have hc1 : E9 230 = .inl (cA 0, 10, .inl (fun _ => 0)) := (hO9 230 (by omega)).trans hc1
  have hF : ∀ k, k < 229 → E9 k = E k := fun k hk => (hO9 k (by omega)).trans (hF k hk)
  refine g_aload_n F (q := 13) (dk dX4_init 6 rfl) rfl rfl 0 rfl ?_
  refine g_bipush F (q := 15) (v := 10) (dk dX4_init 7 rfl) rfl (by decide) ?_
  refine g_newa F (q := 17) (at' := .int) (i := 0) (N := 10) (ty := .int) (a0 := (10, .inl (fun _ => 0))) tq_72 rfl rfl (fun c => rfl) (by decide) (by decide) (by decide) (Nat.le_of_ble_eq_true rfl) (Nat.le_of_ble_eq_true rfl) (dk dX4_init 8 rfl) rfl (fun ad15 E15 hA15 hB15 hN15 => ?_)
  have hb : E15 229 = .inr (4, [.ref (ad15 230), .null, .null, .int 0, .long 0, .int 0, .long 0, .long 0]) := (hB15 229 (by omega)).trans (hb.trans (by rw [hA15 230 (by omega)]))
  have hc1 : E15 230 = .inl (cA 0, 10, .inl (fun _ => 0)) := (hB15 230 (by omega)).trans hc1
  have hF : ∀ k, k < 229 → E15 k = E k := fun k hk => (hB15 k (by omega)).trans (hF k hk)
  have hG : ∀ k, k < 230 → ad15 k = ad k := fun k hk => (hA15 k (by omega)).trans (hG k hk)
  rw [← hA15 229 (by omega)]
  have hc2 : E15 231 = .inl (cA 0, 10, .inl (fun _ => 0)) := hN15
  refine (show GG rm_X4_init 1 l D X 2 20 232 ad15 E15 17 [(0, .ref (ad15 229))] [.ref (ad15 231), .ref (ad15 229)] from ?_)
  refine g_putF F (q := 20) (ty := .array .int) hb rfl inX4 tyX4 tyX4_ok nmX4 (by omega) (j := 1) (by decide) tq_213 rfl rfl hin rfl (by decide +kernel) rfl rfl (Nat.le_of_ble_eq_true rfl) (dk dX4_init 9 rfl) rfl (fun E17 hE17 hO17 => ?_)
  have hb : E17 229 = .inr (4, [.ref (ad15 230), .ref (ad15 231), .null, .int 0, .long 0, .int 0, .long 0, .long 0]) := hE17
  have hc1 : E17 230 = .inl (cA 0, 10, .inl (fun _ => 0)) := (hO17 230 (by omega)).trans hc1
  have hc2 : E17 231 = .inl (cA 0, 10, .inl (fun _ => 0)) := (hO17 231 (by omega)).trans hc2
  have hF : ∀ k, k < 229 → E17 k = E k := fun k hk => (hO17 k (by omega)).trans (hF k hk)
  refine g_aload_n F (q := 21) (dk dX4_init 10 rfl) rfl rfl 0 rfl ?_
  refine g_bipush F (q := 23) (v := 10) (dk dX4_init 11 rfl) rfl (by decide) ?_
  refine g_newa F (q := 25) (at' := .long) (i := 1) (N := 10) (ty := .long) (a0 := (10, .inr (.inl (fun _ => 0)))) tq_239 rfl rfl (fun c => rfl) (by decide) (by decide) (by decide) (Nat.le_of_ble_eq_true rfl) (Nat.le_of_ble_eq_true rfl) (dk dX4_init 12 rfl) rfl (fun ad23 E23 hA23 hB23 hN23 => ?_)
  have hb : E23 229 = .inr (4, [.ref (ad23 230), .ref (ad23 231), .null, .int 0, .long 0, .int 0, .long 0, .long 0]) := (hB23 229 (by omega)).trans (hb.trans (by rw [hA23 230 (by omega), hA23 231 (by omega)]))
  have hc1 : E23 230 = .inl (cA 0, 10, .inl (fun _ => 0)) := (hB23 230 (by omega)).trans hc1
  have hc2 : E23 231 = .inl (cA 0, 10, .inl (fun _ => 0)) := (hB23 231 (by omega)).trans hc2
  have hF : ∀ k, k < 229 → E23 k = E k := fun k hk => (hB23 k (by omega)).trans (hF k hk)
  have hG : ∀ k, k < 230 → ad23 k = ad k := fun k hk => (hA23 k (by omega)).trans (hG k hk)
  rw [← hA23 229 (by omega)]
  have hc3 : E23 232 = .inl (cA 1, 10, .inr (.inl (fun _ => 0))) := hN23
  refine (show GG rm_X4_init 1 l D X 3 30 233 ad23 E23 25 [(0, .ref (ad23 229))] [.ref (ad23 232), .ref (ad23 229)] from ?_)
  refine g_putF F (q := 28) (ty := .array .long) hb rfl inX4 tyX4 tyX4_ok nmX4 (by omega) (j := 2) (by decide) tq_214 rfl rfl hin rfl (by decide +kernel) rfl rfl (Nat.le_of_ble_eq_true rfl) (dk dX4_init 13 rfl) rfl (fun E25 hE25 hO25 => ?_)
  have hb : E25 229 = .inr (4, [.ref (ad23 230), .ref (ad23 231), .ref (ad23 232), .int 0, .long 0, .int 0, .long 0, .long 0]) := hE25
  have hc1 : E25 230 = .inl (cA 0, 10, .inl (fun _ => 0)) := (hO25 230 (by omega)).trans hc1
  have hc2 : E25 231 = .inl (cA 0, 10, .inl (fun _ => 0)) := (hO25 231 (by omega)).trans hc2
  have hc3 : E25 232 = .inl (cA 1, 10, .inr (.inl (fun _ => 0))) := (hO25 232 (by omega)).trans hc3
  have hF : ∀ k, k < 229 → E25 k = E k := fun k hk => (hO25 k (by omega)).trans (hF k hk)
  refine g_aload_n F (q := 29) (dk dX4_init 14 rfl) rfl rfl 0 rfl ?_
  refine g_iconst F (q := 30) (v := 0) (dk dX4_init 15 rfl) rfl (by decide) ?_
  refine g_putf F (q := 33) (ty := .int) hb rfl inX4 tyX4 tyX4_ok nmX4 (by omega) (j := 3) (by decide) tq_215 rfl rfl (by decide +kernel) rfl rfl (Nat.le_of_ble_eq_true rfl) (dk dX4_init 16 rfl) rfl (fun E30 hE30 hO30 => ?_)
  have hb : E30 229 = .inr (4, [.ref (ad23 230), .ref (ad23 231), .ref (ad23 232), .int 0, .long 0, .int 0, .long 0, .long 0]) := hE30
  have hc1 : E30 230 = .inl (cA 0, 10, .inl (fun _ => 0)) := (hO30 230 (by omega)).trans hc1
  have hc2 : E30 231 = .inl (cA 0, 10, .inl (fun _ => 0)) := (hO30 231 (by omega)).trans hc2
  have hc3 : E30 232 = .inl (cA 1, 10, .inr (.inl (fun _ => 0))) := (hO30 232 (by omega)).trans hc3
  have hF : ∀ k, k < 229 → E30 k = E k := fun k hk => (hO30 k (by omega)).trans (hF k hk)
  refine g_aload_n F (q := 34) (dk dX4_init 17 rfl) rfl rfl 0 rfl ?_
  refine g_lconst F (q := 35) (v := 0) (dk dX4_init 18 rfl) rfl (by decide) ?_
  refine g_putf F (q := 38) (ty := .long) hb rfl inX4 tyX4 tyX4_ok nmX4 (by omega) (j := 4) (by decide) tq_217 rfl rfl (by decide +kernel) rfl rfl (Nat.le_of_ble_eq_true rfl) (dk dX4_init 19 rfl) rfl (fun E35 hE35 hO35 => ?_)
  have hb : E35 229 = .inr (4, [.ref (ad23 230), .ref (ad23 231), .ref (ad23 232), .int 0, .long 0, .int 0, .long 0, .long 0]) := hE35
  have hc1 : E35 230 = .inl (cA 0, 10, .inl (fun _ => 0)) := (hO35 230 (by omega)).trans hc1
  have hc2 : E35 231 = .inl (cA 0, 10, .inl (fun _ => 0)) := (hO35 231 (by omega)).trans hc2
  have hc3 : E35 232 = .inl (cA 1, 10, .inr (.inl (fun _ => 0))) := (hO35 232 (by omega)).trans hc3
  have hF : ∀ k, k < 229 → E35 k = E k := fun k hk => (hO35 k (by omega)).trans (hF k hk)
  refine g_aload_n F (q := 39) (dk dX4_init 20 rfl) rfl rfl 0 rfl ?_
  refine g_iconst F (q := 40) (v := 0) (dk dX4_init 21 rfl) rfl (by decide) ?_
  refine g_putf F (q := 43) (ty := .int) hb rfl inX4 tyX4 tyX4_ok nmX4 (by omega) (j := 5) (by decide) tq_218 rfl rfl (by decide +kernel) rfl rfl (Nat.le_of_ble_eq_true rfl) (dk dX4_init 22 rfl) rfl (fun E40 hE40 hO40 => ?_)
  have hb : E40 229 = .inr (4, [.ref (ad23 230), .ref (ad23 231), .ref (ad23 232), .int 0, .long 0, .int 0, .long 0, .long 0]) := hE40
  have hc1 : E40 230 = .inl (cA 0, 10, .inl (fun _ => 0)) := (hO40 230 (by omega)).trans hc1
  have hc2 : E40 231 = .inl (cA 0, 10, .inl (fun _ => 0)) := (hO40 231 (by omega)).trans hc2
  have hc3 : E40 232 = .inl (cA 1, 10, .inr (.inl (fun _ => 0))) := (hO40 232 (by omega)).trans hc3
  have hF : ∀ k, k < 229 → E40 k = E k := fun k hk => (hO40 k (by omega)).trans (hF k hk)
  refine g_aload_n F (q := 44) (dk dX4_init 23 rfl) rfl rfl 0 rfl ?_
  refine g_lconst F (q := 45) (v := 0) (dk dX4_init 24 rfl) rfl (by decide) ?_
  refine g_putf F (q := 48) (ty := .long) hb rfl inX4 tyX4 tyX4_ok nmX4 (by omega) (j := 6) (by decide) tq_220 rfl rfl (by decide +kernel) rfl rfl (Nat.le_of_ble_eq_true rfl) (dk dX4_init 25 rfl) rfl (fun E45 hE45 hO45 => ?_)
  have hb : E45 229 = .inr (4, [.ref (ad23 230), .ref (ad23 231), .ref (ad23 232), .int 0, .long 0, .int 0, .long 0, .long 0]) := hE45
  have hc1 : E45 230 = .inl (cA 0, 10, .inl (fun _ => 0)) := (hO45 230 (by omega)).trans hc1
  have hc2 : E45 231 = .inl (cA 0, 10, .inl (fun _ => 0)) := (hO45 231 (by omega)).trans hc2
  have hc3 : E45 232 = .inl (cA 1, 10, .inr (.inl (fun _ => 0))) := (hO45 232 (by omega)).trans hc3
  have hF : ∀ k, k < 229 → E45 k = E k := fun k hk => (hO45 k (by omega)).trans (hF k hk)
  refine g_aload_n F (q := 49) (dk dX4_init 26 rfl) rfl rfl 0 rfl ?_
  refine g_lconst F (q := 50) (v := 0) (dk dX4_init 27 rfl) rfl (by decide) ?_
  refine g_putf F (q := 53) (ty := .long) hb rfl inX4 tyX4 tyX4_ok nmX4 (by omega) (j := 7) (by decide) tq_221 rfl rfl (by decide +kernel) rfl rfl (Nat.le_of_ble_eq_true rfl) (dk dX4_init 28 rfl) rfl (fun E50 hE50 hO50 => ?_)
  have hb : E50 229 = .inr (4, [.ref (ad23 230), .ref (ad23 231), .ref (ad23 232), .int 0, .long 0, .int 0, .long 0, .long 0]) := hE50
  have hc1 : E50 230 = .inl (cA 0, 10, .inl (fun _ => 0)) := (hO50 230 (by omega)).trans hc1
  have hc2 : E50 231 = .inl (cA 0, 10, .inl (fun _ => 0)) := (hO50 231 (by omega)).trans hc2
  have hc3 : E50 232 = .inl (cA 1, 10, .inr (.inl (fun _ => 0))) := (hO50 232 (by omega)).trans hc3
  have hF : ∀ k, k < 229 → E50 k = E k := fun k hk => (hO50 k (by omega)).trans (hF k hk)
  exact hret ad23 E50 _ _ (dk dX4_init 29 rfl) ⟨hG, hF, hb, hc1, hc2, hc3⟩
theorem kn_X4_init : KN yX4_init cX4_init 1 := ⟨tq_209, tq_15, tq_210, rfl, by decide +kernel⟩
abbrev rm_X6_init : Room := { frames := 4, cells := 232, slots := 2493, locals := 73 }
set_option maxHeartbeats 4000000 in
set_option maxRecDepth 100000 in
theorem c_X6_init {l : Launch} {D : va_G} {cA : Nat → ClassId} {ad : Nat → Nat} {E : Nat → va_E} (hb : E 0 = .inr (6, [.null, .null, .int 0, .null, .null, .null, .null])) : CtN l D cA yX6_init cX6_init 1 rm_X6_init 1 233 232 2493 ad E [.ref (ad 0)] (fun ad' E' => (∀ k, k < 1 → ad' k = ad k) ∧ (∀ k, k < 0 → E' k = E k) ∧ ThW cA ad' E') := by
  refine CtN.of (by decide +kernel) (Nat.le_of_ble_eq_true rfl) rfl (fun X F hin hNW hret => ?_)
  have F : Fr "ThumpEars" cX6_init 1 D cA X := F
  refine (show GG rm_X6_init 1 l D X 0 0 1 ad E 0 [(0, .ref (ad 0))] [] from ?_)
  have hF : ∀ k, k < 0 → E k = E k := fun k _ => rfl
  have hG : ∀ k, k < 1 → ad k = ad k := fun k _ => rfl
  refine g_aload_n F (q := 1) (dk dX6_init 0 rfl) rfl rfl 0 rfl ?_
  refine g_oinit F (q := 4) tq_23 tq_24 tq_25 (by decide) (Nat.le_of_ble_eq_true rfl) (dk dX6_init 1 rfl) rfl ?_
  refine g_aload_n F (q := 5) (dk dX6_init 2 rfl) rfl rfl 0 rfl ?_
  refine g_new F (q := 8) (ci := 5) (fs := [.null, .null, .null, .null, .null, .null, .null, .int 0, .int 0, .int 0, .int 0]) (C := RX5) (T := TX5) (N := 11) inX5 tyX5 tyX5_ok tq_26 tq_27 tq_10 rfl (fun j hj => by rcases (show j = 0 ∨ j = 1 ∨ j = 2 ∨ j = 3 ∨ j = 4 ∨ j = 5 ∨ j = 6 ∨ j = 7 ∨ j = 8 ∨ j = 9 ∨ j = 10 by omega) with rfl | rfl | rfl | rfl | rfl | rfl | rfl | rfl | rfl | rfl | rfl <;> rfl) (Nat.le_of_ble_eq_true rfl) (Nat.le_of_ble_eq_true rfl) (dk dX6_init 3 rfl) rfl (fun ad5 E5 hA5 hB5 hN5 => ?_)
  have hb : E5 0 = .inr (6, [.null, .null, .int 0, .null, .null, .null, .null]) := (hB5 0 (by omega)).trans (hb)
  have hF : ∀ k, k < 0 → E5 k = E k := fun k hk => (hB5 k (by omega)).trans (hF k hk)
  have hG : ∀ k, k < 1 → ad5 k = ad k := fun k hk => (hA5 k (by omega)).trans (hG k hk)
  rw [← hA5 0 (by omega)]
  have hnew : E5 1 = .inr (5, [.null, .null, .null, .null, .null, .null, .null, .int 0, .int 0, .int 0, .int 0]) := hN5
  refine (show GG rm_X6_init 1 l D X 1 11 2 ad5 E5 8 [(0, .ref (ad5 0))] [.ref (ad5 1), .ref (ad5 0)] from ?_)
  refine g_dup F (q := 9) (dk dX6_init 4 rfl) rfl rfl ?_
  refine g_callN F (q := 12) (n2 := 37) (mc := 35) (ms := 340) (c_X5_init (b := 1) hnew) kn_X5_init hNW hNW.a ⟨rfl, rfl⟩ (by decide) ⟨Nat.le_of_ble_eq_true rfl, Nat.le_of_ble_eq_true rfl⟩ (Nat.le_of_ble_eq_true rfl) (dk dX6_init 5 rfl) rfl (fun ad9 E9 hp9 => ?_)
  obtain ⟨hA9, hB9, hX9⟩ := hp9
  have hb : E9 0 = .inr (6, [.null, .null, .int 0, .null, .null, .null, .null]) := (hB9 0 (by omega)).trans (hb)
  have hF : ∀ k, k < 0 → E9 k = E k := fun k hk => (hB9 k (by omega)).trans (hF k hk)
  have hG : ∀ k, k < 1 → ad9 k = ad k := fun k hk => (hA9 k (by omega)).trans (hG k hk)
  rw [← hA9 0 (by omega)]
  rw [← hA9 1 (by omega)]
  have hs1 : StW cA ad9 E9 1 := hX9
  refine (show GG rm_X6_init 1 l D X 36 351 37 ad9 E9 12 [(0, .ref (ad9 0))] [.ref (ad9 1), .ref (ad9 0)] from ?_)
  refine g_putF F (q := 15) (ty := .object "ThumpEars$State") hb rfl inX6 tyX6 tyX6_ok nmX6 (by omega) (j := 0) (by decide) tq_240 rfl rfl hin rfl (by decide +kernel) rfl rfl (Nat.le_of_ble_eq_true rfl) (dk dX6_init 6 rfl) rfl (fun E12 hE12 hO12 => ?_)
  have hb : E12 0 = .inr (6, [.ref (ad9 1), .null, .int 0, .null, .null, .null, .null]) := hE12
  have hs1 : StW cA ad9 E12 1 := hs1.mv (fun j h1 h2 => hO12 j (by omega)) (fun j h1 h2 => rfl)
  have hF : ∀ k, k < 0 → E12 k = E k := fun k hk => (hO12 k (by omega)).trans (hF k hk)
  refine g_aload_n F (q := 16) (dk dX6_init 7 rfl) rfl rfl 0 rfl ?_
  refine g_new F (q := 19) (ci := 5) (fs := [.null, .null, .null, .null, .null, .null, .null, .int 0, .int 0, .int 0, .int 0]) (C := RX5) (T := TX5) (N := 11) inX5 tyX5 tyX5_ok tq_26 tq_27 tq_10 rfl (fun j hj => by rcases (show j = 0 ∨ j = 1 ∨ j = 2 ∨ j = 3 ∨ j = 4 ∨ j = 5 ∨ j = 6 ∨ j = 7 ∨ j = 8 ∨ j = 9 ∨ j = 10 by omega) with rfl | rfl | rfl | rfl | rfl | rfl | rfl | rfl | rfl | rfl | rfl <;> rfl) (Nat.le_of_ble_eq_true rfl) (Nat.le_of_ble_eq_true rfl) (dk dX6_init 8 rfl) rfl (fun ad16 E16 hA16 hB16 hN16 => ?_)
  have hb : E16 0 = .inr (6, [.ref (ad16 1), .null, .int 0, .null, .null, .null, .null]) := (hB16 0 (by omega)).trans (hb.trans (by rw [hA16 1 (by omega)]))
  have hs1 : StW cA ad16 E16 1 := hs1.mv (fun j h1 h2 => hB16 j (by omega)) (fun j h1 h2 => hA16 j (by omega))
  have hF : ∀ k, k < 0 → E16 k = E k := fun k hk => (hB16 k (by omega)).trans (hF k hk)
  have hG : ∀ k, k < 1 → ad16 k = ad k := fun k hk => (hA16 k (by omega)).trans (hG k hk)
  rw [← hA16 0 (by omega)]
  have hnew : E16 37 = .inr (5, [.null, .null, .null, .null, .null, .null, .null, .int 0, .int 0, .int 0, .int 0]) := hN16
  refine (show GG rm_X6_init 1 l D X 37 362 38 ad16 E16 19 [(0, .ref (ad16 0))] [.ref (ad16 37), .ref (ad16 0)] from ?_)
  refine g_dup F (q := 20) (dk dX6_init 9 rfl) rfl rfl ?_
  refine g_callN F (q := 23) (n2 := 73) (mc := 35) (ms := 340) (c_X5_init (b := 37) hnew) kn_X5_init hNW hNW.a ⟨rfl, rfl⟩ (by decide) ⟨Nat.le_of_ble_eq_true rfl, Nat.le_of_ble_eq_true rfl⟩ (Nat.le_of_ble_eq_true rfl) (dk dX6_init 10 rfl) rfl (fun ad20 E20 hp20 => ?_)
  obtain ⟨hA20, hB20, hX20⟩ := hp20
  have hb : E20 0 = .inr (6, [.ref (ad20 1), .null, .int 0, .null, .null, .null, .null]) := (hB20 0 (by omega)).trans (hb.trans (by rw [hA20 1 (by omega)]))
  have hs1 : StW cA ad20 E20 1 := hs1.mv (fun j h1 h2 => hB20 j (by omega)) (fun j h1 h2 => hA20 j (by omega))
  have hF : ∀ k, k < 0 → E20 k = E k := fun k hk => (hB20 k (by omega)).trans (hF k hk)
  have hG : ∀ k, k < 1 → ad20 k = ad k := fun k hk => (hA20 k (by omega)).trans (hG k hk)
  rw [← hA20 0 (by omega)]
  rw [← hA20 37 (by omega)]
  have hs37 : StW cA ad20 E20 37 := hX20
  refine (show GG rm_X6_init 1 l D X 72 702 73 ad20 E20 23 [(0, .ref (ad20 0))] [.ref (ad20 37), .ref (ad20 0)] from ?_)
  refine g_putF F (q := 26) (ty := .object "ThumpEars$State") hb rfl inX6 tyX6 tyX6_ok nmX6 (by omega) (j := 1) (by decide) tq_241 rfl rfl hin rfl (by decide +kernel) rfl rfl (Nat.le_of_ble_eq_true rfl) (dk dX6_init 11 rfl) rfl (fun E23 hE23 hO23 => ?_)
  have hb : E23 0 = .inr (6, [.ref (ad20 1), .ref (ad20 37), .int 0, .null, .null, .null, .null]) := hE23
  have hs1 : StW cA ad20 E23 1 := hs1.mv (fun j h1 h2 => hO23 j (by omega)) (fun j h1 h2 => rfl)
  have hs37 : StW cA ad20 E23 37 := hs37.mv (fun j h1 h2 => hO23 j (by omega)) (fun j h1 h2 => rfl)
  have hF : ∀ k, k < 0 → E23 k = E k := fun k hk => (hO23 k (by omega)).trans (hF k hk)
  refine g_aload_n F (q := 27) (dk dX6_init 12 rfl) rfl rfl 0 rfl ?_
  refine g_iconst F (q := 28) (v := 0) (dk dX6_init 13 rfl) rfl (by decide) ?_
  refine g_putf F (q := 31) (ty := .boolean) hb rfl inX6 tyX6 tyX6_ok nmX6 (by omega) (j := 2) (by decide) tq_242 rfl rfl (by decide +kernel) rfl rfl (Nat.le_of_ble_eq_true rfl) (dk dX6_init 14 rfl) rfl (fun E28 hE28 hO28 => ?_)
  have hb : E28 0 = .inr (6, [.ref (ad20 1), .ref (ad20 37), .int 0, .null, .null, .null, .null]) := hE28
  have hs1 : StW cA ad20 E28 1 := hs1.mv (fun j h1 h2 => hO28 j (by omega)) (fun j h1 h2 => rfl)
  have hs37 : StW cA ad20 E28 37 := hs37.mv (fun j h1 h2 => hO28 j (by omega)) (fun j h1 h2 => rfl)
  have hF : ∀ k, k < 0 → E28 k = E k := fun k hk => (hO28 k (by omega)).trans (hF k hk)
  refine g_aload_n F (q := 32) (dk dX6_init 15 rfl) rfl rfl 0 rfl ?_
  refine g_new F (q := 35) (ci := 0) (fs := [.null, .int 0]) (C := RX0) (T := TX0) (N := 2) inX0 tyX0 tyX0_ok tq_124 tq_125 tq_12 rfl (fun j hj => by rcases (show j = 0 ∨ j = 1 by omega) with rfl | rfl <;> rfl) (Nat.le_of_ble_eq_true rfl) (Nat.le_of_ble_eq_true rfl) (dk dX6_init 16 rfl) rfl (fun ad32 E32 hA32 hB32 hN32 => ?_)
  have hb : E32 0 = .inr (6, [.ref (ad32 1), .ref (ad32 37), .int 0, .null, .null, .null, .null]) := (hB32 0 (by omega)).trans (hb.trans (by rw [hA32 1 (by omega), hA32 37 (by omega)]))
  have hs1 : StW cA ad32 E32 1 := hs1.mv (fun j h1 h2 => hB32 j (by omega)) (fun j h1 h2 => hA32 j (by omega))
  have hs37 : StW cA ad32 E32 37 := hs37.mv (fun j h1 h2 => hB32 j (by omega)) (fun j h1 h2 => hA32 j (by omega))
  have hF : ∀ k, k < 0 → E32 k = E k := fun k hk => (hB32 k (by omega)).trans (hF k hk)
  have hG : ∀ k, k < 1 → ad32 k = ad k := fun k hk => (hA32 k (by omega)).trans (hG k hk)
  rw [← hA32 0 (by omega)]
  have hnew : E32 73 = .inr (0, [.null, .int 0]) := hN32
  refine (show GG rm_X6_init 1 l D X 73 704 74 ad32 E32 35 [(0, .ref (ad32 0))] [.ref (ad32 73), .ref (ad32 0)] from ?_)
  refine g_dup F (q := 36) (dk dX6_init 17 rfl) rfl rfl ?_
  refine g_callO F (q := 39) (n2 := 219) (mc := 145) (ms := 1408) (c_X0_init hnew) kn_X0_init hNW tq_126 ⟨rfl, rfl⟩ (by decide) ⟨Nat.le_of_ble_eq_true rfl, Nat.le_of_ble_eq_true rfl⟩ (Nat.le_of_ble_eq_true rfl) (dk dX6_init 18 rfl) rfl (fun ad36 E36 hp36 => ?_)
  obtain ⟨hA36, hB36, hX36⟩ := hp36
  have hb : E36 0 = .inr (6, [.ref (ad36 1), .ref (ad36 37), .int 0, .null, .null, .null, .null]) := (hB36 0 (by omega)).trans (hb.trans (by rw [hA36 1 (by omega), hA36 37 (by omega)]))
  have hs1 : StW cA ad36 E36 1 := hs1.mv (fun j h1 h2 => hB36 j (by omega)) (fun j h1 h2 => hA36 j (by omega))
  have hs37 : StW cA ad36 E36 37 := hs37.mv (fun j h1 h2 => hB36 j (by omega)) (fun j h1 h2 => hA36 j (by omega))
  have hF : ∀ k, k < 0 → E36 k = E k := fun k hk => (hB36 k (by omega)).trans (hF k hk)
  have hG : ∀ k, k < 1 → ad36 k = ad k := fun k hk => (hA36 k (by omega)).trans (hG k hk)
  rw [← hA36 0 (by omega)]
  rw [← hA36 73 (by omega)]
  have hs73 : HsW cA ad36 E36 73 := hX36
  refine (show GG rm_X6_init 1 l D X 218 2112 219 ad36 E36 39 [(0, .ref (ad36 0))] [.ref (ad36 73), .ref (ad36 0)] from ?_)
  refine g_putF F (q := 42) (ty := .object "ThumpEars$History") hb rfl inX6 tyX6 tyX6_ok nmX6 (by omega) (j := 3) (by decide) tq_243 rfl rfl hin rfl (by decide +kernel) rfl rfl (Nat.le_of_ble_eq_true rfl) (dk dX6_init 19 rfl) rfl (fun E39 hE39 hO39 => ?_)
  have hb : E39 0 = .inr (6, [.ref (ad36 1), .ref (ad36 37), .int 0, .ref (ad36 73), .null, .null, .null]) := hE39
  have hs1 : StW cA ad36 E39 1 := hs1.mv (fun j h1 h2 => hO39 j (by omega)) (fun j h1 h2 => rfl)
  have hs37 : StW cA ad36 E39 37 := hs37.mv (fun j h1 h2 => hO39 j (by omega)) (fun j h1 h2 => rfl)
  have hs73 : HsW cA ad36 E39 73 := hs73.mv (fun j h1 h2 => hO39 j (by omega)) (fun j h1 h2 => rfl)
  have hF : ∀ k, k < 0 → E39 k = E k := fun k hk => (hO39 k (by omega)).trans (hF k hk)
  refine g_aload_n F (q := 43) (dk dX6_init 20 rfl) rfl rfl 0 rfl ?_
  refine g_new F (q := 46) (ci := 2) (fs := [.null, .int 0, .null, .null, .null, .null, .int 0, .int 0, .int 0]) (C := RX2) (T := TX2) (N := 9) inX2 tyX2 tyX2_ok tq_141 tq_142 tq_13 rfl (fun j hj => by rcases (show j = 0 ∨ j = 1 ∨ j = 2 ∨ j = 3 ∨ j = 4 ∨ j = 5 ∨ j = 6 ∨ j = 7 ∨ j = 8 by omega) with rfl | rfl | rfl | rfl | rfl | rfl | rfl | rfl | rfl <;> rfl) (Nat.le_of_ble_eq_true rfl) (Nat.le_of_ble_eq_true rfl) (dk dX6_init 21 rfl) rfl (fun ad43 E43 hA43 hB43 hN43 => ?_)
  have hb : E43 0 = .inr (6, [.ref (ad43 1), .ref (ad43 37), .int 0, .ref (ad43 73), .null, .null, .null]) := (hB43 0 (by omega)).trans (hb.trans (by rw [hA43 1 (by omega), hA43 37 (by omega), hA43 73 (by omega)]))
  have hs1 : StW cA ad43 E43 1 := hs1.mv (fun j h1 h2 => hB43 j (by omega)) (fun j h1 h2 => hA43 j (by omega))
  have hs37 : StW cA ad43 E43 37 := hs37.mv (fun j h1 h2 => hB43 j (by omega)) (fun j h1 h2 => hA43 j (by omega))
  have hs73 : HsW cA ad43 E43 73 := hs73.mv (fun j h1 h2 => hB43 j (by omega)) (fun j h1 h2 => hA43 j (by omega))
  have hF : ∀ k, k < 0 → E43 k = E k := fun k hk => (hB43 k (by omega)).trans (hF k hk)
  have hG : ∀ k, k < 1 → ad43 k = ad k := fun k hk => (hA43 k (by omega)).trans (hG k hk)
  rw [← hA43 0 (by omega)]
  have hnew : E43 219 = .inr (2, [.null, .int 0, .null, .null, .null, .null, .int 0, .int 0, .int 0]) := hN43
  refine (show GG rm_X6_init 1 l D X 219 2121 220 ad43 E43 46 [(0, .ref (ad43 0))] [.ref (ad43 219), .ref (ad43 0)] from ?_)
  refine g_dup F (q := 47) (dk dX6_init 22 rfl) rfl rfl ?_
  refine g_callN F (q := 50) (n2 := 225) (mc := 5) (ms := 300) (c_X2_init hnew) kn_X2_init hNW hNW.d ⟨rfl, rfl⟩ (by decide) ⟨Nat.le_of_ble_eq_true rfl, Nat.le_of_ble_eq_true rfl⟩ (Nat.le_of_ble_eq_true rfl) (dk dX6_init 23 rfl) rfl (fun ad47 E47 hp47 => ?_)
  obtain ⟨hA47, hB47, hX47⟩ := hp47
  have hb : E47 0 = .inr (6, [.ref (ad47 1), .ref (ad47 37), .int 0, .ref (ad47 73), .null, .null, .null]) := (hB47 0 (by omega)).trans (hb.trans (by rw [hA47 1 (by omega), hA47 37 (by omega), hA47 73 (by omega)]))
  have hs1 : StW cA ad47 E47 1 := hs1.mv (fun j h1 h2 => hB47 j (by omega)) (fun j h1 h2 => hA47 j (by omega))
  have hs37 : StW cA ad47 E47 37 := hs37.mv (fun j h1 h2 => hB47 j (by omega)) (fun j h1 h2 => hA47 j (by omega))
  have hs73 : HsW cA ad47 E47 73 := hs73.mv (fun j h1 h2 => hB47 j (by omega)) (fun j h1 h2 => hA47 j (by omega))
  have hF : ∀ k, k < 0 → E47 k = E k := fun k hk => (hB47 k (by omega)).trans (hF k hk)
  have hG : ∀ k, k < 1 → ad47 k = ad k := fun k hk => (hA47 k (by omega)).trans (hG k hk)
  rw [← hA47 0 (by omega)]
  rw [← hA47 219 (by omega)]
  have hs219 : OtW cA ad47 E47 219 := hX47
  refine (show GG rm_X6_init 1 l D X 224 2421 225 ad47 E47 50 [(0, .ref (ad47 0))] [.ref (ad47 219), .ref (ad47 0)] from ?_)
  refine g_putF F (q := 53) (ty := .object "ThumpEars$OrderText") hb rfl inX6 tyX6 tyX6_ok nmX6 (by omega) (j := 4) (by decide) tq_244 rfl rfl hin rfl (by decide +kernel) rfl rfl (Nat.le_of_ble_eq_true rfl) (dk dX6_init 24 rfl) rfl (fun E50 hE50 hO50 => ?_)
  have hb : E50 0 = .inr (6, [.ref (ad47 1), .ref (ad47 37), .int 0, .ref (ad47 73), .ref (ad47 219), .null, .null]) := hE50
  have hs1 : StW cA ad47 E50 1 := hs1.mv (fun j h1 h2 => hO50 j (by omega)) (fun j h1 h2 => rfl)
  have hs37 : StW cA ad47 E50 37 := hs37.mv (fun j h1 h2 => hO50 j (by omega)) (fun j h1 h2 => rfl)
  have hs73 : HsW cA ad47 E50 73 := hs73.mv (fun j h1 h2 => hO50 j (by omega)) (fun j h1 h2 => rfl)
  have hs219 : OtW cA ad47 E50 219 := hs219.mv (fun j h1 h2 => hO50 j (by omega)) (fun j h1 h2 => rfl)
  have hF : ∀ k, k < 0 → E50 k = E k := fun k hk => (hO50 k (by omega)).trans (hF k hk)
  refine g_aload_n F (q := 54) (dk dX6_init 25 rfl) rfl rfl 0 rfl ?_
  refine g_new F (q := 57) (ci := 1) (fs := [.null, .null, .null, .int 0]) (C := RX1) (T := TX1) (N := 4) inX1 tyX1 tyX1_ok tq_183 tq_184 tq_14 rfl (fun j hj => by rcases (show j = 0 ∨ j = 1 ∨ j = 2 ∨ j = 3 by omega) with rfl | rfl | rfl | rfl <;> rfl) (Nat.le_of_ble_eq_true rfl) (Nat.le_of_ble_eq_true rfl) (dk dX6_init 26 rfl) rfl (fun ad54 E54 hA54 hB54 hN54 => ?_)
  have hb : E54 0 = .inr (6, [.ref (ad54 1), .ref (ad54 37), .int 0, .ref (ad54 73), .ref (ad54 219), .null, .null]) := (hB54 0 (by omega)).trans (hb.trans (by rw [hA54 1 (by omega), hA54 37 (by omega), hA54 73 (by omega), hA54 219 (by omega)]))
  have hs1 : StW cA ad54 E54 1 := hs1.mv (fun j h1 h2 => hB54 j (by omega)) (fun j h1 h2 => hA54 j (by omega))
  have hs37 : StW cA ad54 E54 37 := hs37.mv (fun j h1 h2 => hB54 j (by omega)) (fun j h1 h2 => hA54 j (by omega))
  have hs73 : HsW cA ad54 E54 73 := hs73.mv (fun j h1 h2 => hB54 j (by omega)) (fun j h1 h2 => hA54 j (by omega))
  have hs219 : OtW cA ad54 E54 219 := hs219.mv (fun j h1 h2 => hB54 j (by omega)) (fun j h1 h2 => hA54 j (by omega))
  have hF : ∀ k, k < 0 → E54 k = E k := fun k hk => (hB54 k (by omega)).trans (hF k hk)
  have hG : ∀ k, k < 1 → ad54 k = ad k := fun k hk => (hA54 k (by omega)).trans (hG k hk)
  rw [← hA54 0 (by omega)]
  have hnew : E54 225 = .inr (1, [.null, .null, .null, .int 0]) := hN54
  refine (show GG rm_X6_init 1 l D X 225 2425 226 ad54 E54 57 [(0, .ref (ad54 0))] [.ref (ad54 225), .ref (ad54 0)] from ?_)
  refine g_dup F (q := 58) (dk dX6_init 27 rfl) rfl rfl ?_
  refine g_callN F (q := 61) (n2 := 229) (mc := 3) (ms := 30) (c_X1_init hnew) kn_X1_init hNW hNW.e ⟨rfl, rfl⟩ (by decide) ⟨Nat.le_of_ble_eq_true rfl, Nat.le_of_ble_eq_true rfl⟩ (Nat.le_of_ble_eq_true rfl) (dk dX6_init 28 rfl) rfl (fun ad58 E58 hp58 => ?_)
  obtain ⟨hA58, hB58, hX58⟩ := hp58
  have hb : E58 0 = .inr (6, [.ref (ad58 1), .ref (ad58 37), .int 0, .ref (ad58 73), .ref (ad58 219), .null, .null]) := (hB58 0 (by omega)).trans (hb.trans (by rw [hA58 1 (by omega), hA58 37 (by omega), hA58 73 (by omega), hA58 219 (by omega)]))
  have hs1 : StW cA ad58 E58 1 := hs1.mv (fun j h1 h2 => hB58 j (by omega)) (fun j h1 h2 => hA58 j (by omega))
  have hs37 : StW cA ad58 E58 37 := hs37.mv (fun j h1 h2 => hB58 j (by omega)) (fun j h1 h2 => hA58 j (by omega))
  have hs73 : HsW cA ad58 E58 73 := hs73.mv (fun j h1 h2 => hB58 j (by omega)) (fun j h1 h2 => hA58 j (by omega))
  have hs219 : OtW cA ad58 E58 219 := hs219.mv (fun j h1 h2 => hB58 j (by omega)) (fun j h1 h2 => hA58 j (by omega))
  have hF : ∀ k, k < 0 → E58 k = E k := fun k hk => (hB58 k (by omega)).trans (hF k hk)
  have hG : ∀ k, k < 1 → ad58 k = ad k := fun k hk => (hA58 k (by omega)).trans (hG k hk)
  rw [← hA58 0 (by omega)]
  rw [← hA58 225 (by omega)]
  have hs225 : MkW cA ad58 E58 225 := hX58
  refine (show GG rm_X6_init 1 l D X 228 2455 229 ad58 E58 61 [(0, .ref (ad58 0))] [.ref (ad58 225), .ref (ad58 0)] from ?_)
  refine g_putF F (q := 64) (ty := .object "ThumpEars$Marks") hb rfl inX6 tyX6 tyX6_ok nmX6 (by omega) (j := 5) (by decide) tq_245 rfl rfl hin rfl (by decide +kernel) rfl rfl (Nat.le_of_ble_eq_true rfl) (dk dX6_init 29 rfl) rfl (fun E61 hE61 hO61 => ?_)
  have hb : E61 0 = .inr (6, [.ref (ad58 1), .ref (ad58 37), .int 0, .ref (ad58 73), .ref (ad58 219), .ref (ad58 225), .null]) := hE61
  have hs1 : StW cA ad58 E61 1 := hs1.mv (fun j h1 h2 => hO61 j (by omega)) (fun j h1 h2 => rfl)
  have hs37 : StW cA ad58 E61 37 := hs37.mv (fun j h1 h2 => hO61 j (by omega)) (fun j h1 h2 => rfl)
  have hs73 : HsW cA ad58 E61 73 := hs73.mv (fun j h1 h2 => hO61 j (by omega)) (fun j h1 h2 => rfl)
  have hs219 : OtW cA ad58 E61 219 := hs219.mv (fun j h1 h2 => hO61 j (by omega)) (fun j h1 h2 => rfl)
  have hs225 : MkW cA ad58 E61 225 := hs225.mv (fun j h1 h2 => hO61 j (by omega)) (fun j h1 h2 => rfl)
  have hF : ∀ k, k < 0 → E61 k = E k := fun k hk => (hO61 k (by omega)).trans (hF k hk)
  refine g_aload_n F (q := 65) (dk dX6_init 30 rfl) rfl rfl 0 rfl ?_
  refine g_new F (q := 68) (ci := 4) (fs := [.null, .null, .null, .int 0, .long 0, .int 0, .long 0, .long 0]) (C := RX4) (T := TX4) (N := 8) inX4 tyX4 tyX4_ok tq_206 tq_207 tq_15 rfl (fun j hj => by rcases (show j = 0 ∨ j = 1 ∨ j = 2 ∨ j = 3 ∨ j = 4 ∨ j = 5 ∨ j = 6 ∨ j = 7 by omega) with rfl | rfl | rfl | rfl | rfl | rfl | rfl | rfl <;> rfl) (Nat.le_of_ble_eq_true rfl) (Nat.le_of_ble_eq_true rfl) (dk dX6_init 31 rfl) rfl (fun ad65 E65 hA65 hB65 hN65 => ?_)
  have hb : E65 0 = .inr (6, [.ref (ad65 1), .ref (ad65 37), .int 0, .ref (ad65 73), .ref (ad65 219), .ref (ad65 225), .null]) := (hB65 0 (by omega)).trans (hb.trans (by rw [hA65 1 (by omega), hA65 37 (by omega), hA65 73 (by omega), hA65 219 (by omega), hA65 225 (by omega)]))
  have hs1 : StW cA ad65 E65 1 := hs1.mv (fun j h1 h2 => hB65 j (by omega)) (fun j h1 h2 => hA65 j (by omega))
  have hs37 : StW cA ad65 E65 37 := hs37.mv (fun j h1 h2 => hB65 j (by omega)) (fun j h1 h2 => hA65 j (by omega))
  have hs73 : HsW cA ad65 E65 73 := hs73.mv (fun j h1 h2 => hB65 j (by omega)) (fun j h1 h2 => hA65 j (by omega))
  have hs219 : OtW cA ad65 E65 219 := hs219.mv (fun j h1 h2 => hB65 j (by omega)) (fun j h1 h2 => hA65 j (by omega))
  have hs225 : MkW cA ad65 E65 225 := hs225.mv (fun j h1 h2 => hB65 j (by omega)) (fun j h1 h2 => hA65 j (by omega))
  have hF : ∀ k, k < 0 → E65 k = E k := fun k hk => (hB65 k (by omega)).trans (hF k hk)
  have hG : ∀ k, k < 1 → ad65 k = ad k := fun k hk => (hA65 k (by omega)).trans (hG k hk)
  rw [← hA65 0 (by omega)]
  have hnew : E65 229 = .inr (4, [.null, .null, .null, .int 0, .long 0, .int 0, .long 0, .long 0]) := hN65
  refine (show GG rm_X6_init 1 l D X 229 2463 230 ad65 E65 68 [(0, .ref (ad65 0))] [.ref (ad65 229), .ref (ad65 0)] from ?_)
  refine g_dup F (q := 69) (dk dX6_init 32 rfl) rfl rfl ?_
  refine g_callN F (q := 72) (n2 := 233) (mc := 3) (ms := 30) (c_X4_init hnew) kn_X4_init hNW hNW.f ⟨rfl, rfl⟩ (by decide) ⟨Nat.le_of_ble_eq_true rfl, Nat.le_of_ble_eq_true rfl⟩ (Nat.le_of_ble_eq_true rfl) (dk dX6_init 33 rfl) rfl (fun ad69 E69 hp69 => ?_)
  obtain ⟨hA69, hB69, hX69⟩ := hp69
  have hb : E69 0 = .inr (6, [.ref (ad69 1), .ref (ad69 37), .int 0, .ref (ad69 73), .ref (ad69 219), .ref (ad69 225), .null]) := (hB69 0 (by omega)).trans (hb.trans (by rw [hA69 1 (by omega), hA69 37 (by omega), hA69 73 (by omega), hA69 219 (by omega), hA69 225 (by omega)]))
  have hs1 : StW cA ad69 E69 1 := hs1.mv (fun j h1 h2 => hB69 j (by omega)) (fun j h1 h2 => hA69 j (by omega))
  have hs37 : StW cA ad69 E69 37 := hs37.mv (fun j h1 h2 => hB69 j (by omega)) (fun j h1 h2 => hA69 j (by omega))
  have hs73 : HsW cA ad69 E69 73 := hs73.mv (fun j h1 h2 => hB69 j (by omega)) (fun j h1 h2 => hA69 j (by omega))
  have hs219 : OtW cA ad69 E69 219 := hs219.mv (fun j h1 h2 => hB69 j (by omega)) (fun j h1 h2 => hA69 j (by omega))
  have hs225 : MkW cA ad69 E69 225 := hs225.mv (fun j h1 h2 => hB69 j (by omega)) (fun j h1 h2 => hA69 j (by omega))
  have hF : ∀ k, k < 0 → E69 k = E k := fun k hk => (hB69 k (by omega)).trans (hF k hk)
  have hG : ∀ k, k < 1 → ad69 k = ad k := fun k hk => (hA69 k (by omega)).trans (hG k hk)
  rw [← hA69 0 (by omega)]
  rw [← hA69 229 (by omega)]
  have hs229 : SrW cA ad69 E69 229 := hX69
  refine (show GG rm_X6_init 1 l D X 232 2493 233 ad69 E69 72 [(0, .ref (ad69 0))] [.ref (ad69 229), .ref (ad69 0)] from ?_)
  refine g_putF F (q := 75) (ty := .object "ThumpEars$Source") hb rfl inX6 tyX6 tyX6_ok nmX6 (by omega) (j := 6) (by decide) tq_246 rfl rfl hin rfl (by decide +kernel) rfl rfl (Nat.le_of_ble_eq_true rfl) (dk dX6_init 34 rfl) rfl (fun E72 hE72 hO72 => ?_)
  have hb : E72 0 = .inr (6, [.ref (ad69 1), .ref (ad69 37), .int 0, .ref (ad69 73), .ref (ad69 219), .ref (ad69 225), .ref (ad69 229)]) := hE72
  have hs1 : StW cA ad69 E72 1 := hs1.mv (fun j h1 h2 => hO72 j (by omega)) (fun j h1 h2 => rfl)
  have hs37 : StW cA ad69 E72 37 := hs37.mv (fun j h1 h2 => hO72 j (by omega)) (fun j h1 h2 => rfl)
  have hs73 : HsW cA ad69 E72 73 := hs73.mv (fun j h1 h2 => hO72 j (by omega)) (fun j h1 h2 => rfl)
  have hs219 : OtW cA ad69 E72 219 := hs219.mv (fun j h1 h2 => hO72 j (by omega)) (fun j h1 h2 => rfl)
  have hs225 : MkW cA ad69 E72 225 := hs225.mv (fun j h1 h2 => hO72 j (by omega)) (fun j h1 h2 => rfl)
  have hs229 : SrW cA ad69 E72 229 := hs229.mv (fun j h1 h2 => hO72 j (by omega)) (fun j h1 h2 => rfl)
  have hF : ∀ k, k < 0 → E72 k = E k := fun k hk => (hO72 k (by omega)).trans (hF k hk)
  exact hret ad69 E72 _ _ (dk dX6_init 35 rfl) ⟨hG, hF, hb, hs1, hs37, hs73, hs219, hs225, hs229⟩
theorem kn_X6_init : KN yX6_init cX6_init 1 := ⟨tq_21, tq_9, tq_22, rfl, by decide +kernel⟩
