/-! ===== the model's new object ===== -/
def iRow : Nat → Int32 := fun x => if x = 3 then 3 else if x = 4 then 5 else if 146 ≤ x then MISS else 0
def iRowP (i : Nat) : Nat → Int32 := fun x => if x = 3 then 3 else if x = 4 then 5 else if 146 ≤ x ∧ x < i then MISS else 0
theorem iRowP_l {x : Nat} (hx : x < 346) : iRowP 346 x = iRow x := by
  unfold iRowP iRow
  by_cases h : 146 ≤ x
  · rw [if_pos (show 146 ≤ x ∧ x < 346 from ⟨h, hx⟩), if_pos h]
  · rw [if_neg (show ¬ (146 ≤ x ∧ x < 346) from fun q => h q.1), if_neg h]
theorem iRowP_s {w : Nat → Int32} {i x : Nat} (hi : 146 ≤ i) (h : w x = iRowP i x) : upd w i MISS x = iRowP (i + 1) x := by
  unfold upd
  by_cases e : x = i
  · subst e
    rw [if_pos rfl]
    unfold iRowP
    rw [if_neg (by omega), if_neg (by omega), if_pos (by omega)]
  · rw [if_neg e, h]
    unfold iRowP
    by_cases q : 146 ≤ x ∧ x < i
    · rw [if_pos q, if_pos (show 146 ≤ x ∧ x < i + 1 by omega)]
    · rw [if_neg q, if_neg (show ¬ (146 ≤ x ∧ x < i + 1) by omega)]
theorem iRowP_0 (x : Nat) : upd (upd (fun _ => 0) 3 3) 4 5 x = iRowP 146 x := by
  unfold upd iRowP
  by_cases e4 : x = 4
  · subst e4; rfl
  · by_cases e3 : x = 3
    · subst e3; rfl
    · rw [if_neg e4, if_neg e3, if_neg e3, if_neg e4, if_neg (show ¬ (146 ≤ x ∧ x < 146) by omega)]
def MdW (cA : Nat → ClassId) (ad : Nat → Nat) (E : Nat → va_E) : Prop := ∃ w : Nat → Int32,
  E 233 = .inr (7, [.ref (ad 234), .ref (ad 235), .ref (ad 236), .ref (ad 237), .int 0, .int 0, .ref (ad 238), .int 0, .int 0, .int 0, .int 0, .ref (ad 239), .ref (ad 240), .ref (ad 241), .long 0, .long 0, .ref (ad 242)]) ∧
  E 234 = .inl (cA 0, 346, .inl w) ∧ (∀ x, x < 346 → w x = iRow x) ∧ E 235 = .inl (cA 0, 1384, .inl (fun _ => 0)) ∧ E 236 = .inl (cA 0, 346, .inl (fun _ => 0)) ∧ E 237 = .inl (cA 0, 346, .inl (fun _ => 0)) ∧ E 238 = .inl (cA 3, 60, .inl (fun _ => 0)) ∧
  E 239 = .inl (cA 0, 10, .inl (fun _ => 0)) ∧ E 240 = .inl (cA 0, 10, .inl (fun _ => 0)) ∧ E 241 = .inl (cA 0, 10, .inl (fun _ => 0)) ∧ E 242 = .inl (cA 1, 10, .inr (.inl (fun _ => 0)))
abbrev rm_X7_init : Room := { frames := 1, cells := 9, slots := 2522, locals := 12 }
set_option maxHeartbeats 4000000 in
set_option maxRecDepth 100000 in
theorem c_X7_init {l : Launch} {D : va_G} {cA : Nat → ClassId} {ad : Nat → Nat} {E : Nat → va_E} (hb : E 233 = .inr (7, [.null, .null, .null, .null, .int 0, .int 0, .null, .int 0, .int 0, .int 0, .int 0, .null, .null, .null, .long 0, .long 0, .null])) : CtN l D cA yX7_init cX7_init 2 rm_X7_init 234 243 9 2522 ad E [.ref (ad 233)] (fun ad' E' => (∀ k, k < 234 → ad' k = ad k) ∧ (∀ k, k < 233 → E' k = E k) ∧ MdW cA ad' E') := by
  refine CtN.of (by decide +kernel) (Nat.le_of_ble_eq_true rfl) rfl (fun X F hin hNW hret => ?_)
  have F : Fr "ThumpEarsModel" cX7_init 2 D cA X := F
  refine (show GG rm_X7_init 2 l D X 0 0 234 ad E 0 [(0, .ref (ad 233))] [] from ?_)
  have hF : ∀ k, k < 233 → E k = E k := fun k _ => rfl
  have hG : ∀ k, k < 234 → ad k = ad k := fun k _ => rfl
  refine g_aload_n F (q := 1) (dk dX7_init 0 rfl) rfl rfl 0 rfl ?_
  refine g_oinit F (q := 4) tq_621 tq_56 tq_57 (by decide) (Nat.le_of_ble_eq_true rfl) (dk dX7_init 1 rfl) rfl ?_
  refine g_aload_n F (q := 5) (dk dX7_init 2 rfl) rfl rfl 0 rfl ?_
  refine g_sipush F (q := 8) (v := 346) (dk dX7_init 3 rfl) rfl (by decide) ?_
  refine g_newa F (q := 10) (at' := .int) (i := 0) (N := 346) (ty := .int) (a0 := (346, .inl (fun _ => 0))) tq_104 rfl rfl (fun c => rfl) (by decide) (by decide) (by decide) (Nat.le_of_ble_eq_true rfl) (Nat.le_of_ble_eq_true rfl) (dk dX7_init 4 rfl) rfl (fun ad8 E8 hA8 hB8 hN8 => ?_)
  have hb : E8 233 = .inr (7, [.null, .null, .null, .null, .int 0, .int 0, .null, .int 0, .int 0, .int 0, .int 0, .null, .null, .null, .long 0, .long 0, .null]) := (hB8 233 (by omega)).trans (hb)
  have hF : ∀ k, k < 233 → E8 k = E k := fun k hk => (hB8 k (by omega)).trans (hF k hk)
  have hG : ∀ k, k < 234 → ad8 k = ad k := fun k hk => (hA8 k (by omega)).trans (hG k hk)
  rw [← hA8 233 (by omega)]
  have hc1 : E8 234 = .inl (cA 0, 346, .inl (fun _ => 0)) := hN8
  refine (show GG rm_X7_init 2 l D X 1 346 235 ad8 E8 10 [(0, .ref (ad8 233))] [.ref (ad8 234), .ref (ad8 233)] from ?_)
  refine g_putF F (q := 13) (ty := .array .int) hb rfl inX7 tyX7 tyX7_ok nmX7 (by omega) (j := 0) (by decide) tq_623 rfl rfl hin rfl (by decide +kernel) rfl rfl (Nat.le_of_ble_eq_true rfl) (dk dX7_init 5 rfl) rfl (fun E10 hE10 hO10 => ?_)
  have hb : E10 233 = .inr (7, [.ref (ad8 234), .null, .null, .null, .int 0, .int 0, .null, .int 0, .int 0, .int 0, .int 0, .null, .null, .null, .long 0, .long 0, .null]) := hE10
  have hc1 : E10 234 = .inl (cA 0, 346, .inl (fun _ => 0)) := (hO10 234 (by omega)).trans hc1
  have hF : ∀ k, k < 233 → E10 k = E k := fun k hk => (hO10 k (by omega)).trans (hF k hk)
  refine g_aload_n F (q := 14) (dk dX7_init 6 rfl) rfl rfl 0 rfl ?_
  refine g_sipush F (q := 17) (v := 1384) (dk dX7_init 7 rfl) rfl (by decide) ?_
  refine g_newa F (q := 19) (at' := .int) (i := 0) (N := 1384) (ty := .int) (a0 := (1384, .inl (fun _ => 0))) tq_104 rfl rfl (fun c => rfl) (by decide) (by decide) (by decide) (Nat.le_of_ble_eq_true rfl) (Nat.le_of_ble_eq_true rfl) (dk dX7_init 8 rfl) rfl (fun ad17 E17 hA17 hB17 hN17 => ?_)
  have hb : E17 233 = .inr (7, [.ref (ad17 234), .null, .null, .null, .int 0, .int 0, .null, .int 0, .int 0, .int 0, .int 0, .null, .null, .null, .long 0, .long 0, .null]) := (hB17 233 (by omega)).trans (hb.trans (by rw [hA17 234 (by omega)]))
  have hc1 : E17 234 = .inl (cA 0, 346, .inl (fun _ => 0)) := (hB17 234 (by omega)).trans hc1
  have hF : ∀ k, k < 233 → E17 k = E k := fun k hk => (hB17 k (by omega)).trans (hF k hk)
  have hG : ∀ k, k < 234 → ad17 k = ad k := fun k hk => (hA17 k (by omega)).trans (hG k hk)
  rw [← hA17 233 (by omega)]
  have hc2 : E17 235 = .inl (cA 0, 1384, .inl (fun _ => 0)) := hN17
  refine (show GG rm_X7_init 2 l D X 2 1730 236 ad17 E17 19 [(0, .ref (ad17 233))] [.ref (ad17 235), .ref (ad17 233)] from ?_)
  refine g_putF F (q := 22) (ty := .array .int) hb rfl inX7 tyX7 tyX7_ok nmX7 (by omega) (j := 1) (by decide) tq_624 rfl rfl hin rfl (by decide +kernel) rfl rfl (Nat.le_of_ble_eq_true rfl) (dk dX7_init 9 rfl) rfl (fun E19 hE19 hO19 => ?_)
  have hb : E19 233 = .inr (7, [.ref (ad17 234), .ref (ad17 235), .null, .null, .int 0, .int 0, .null, .int 0, .int 0, .int 0, .int 0, .null, .null, .null, .long 0, .long 0, .null]) := hE19
  have hc1 : E19 234 = .inl (cA 0, 346, .inl (fun _ => 0)) := (hO19 234 (by omega)).trans hc1
  have hc2 : E19 235 = .inl (cA 0, 1384, .inl (fun _ => 0)) := (hO19 235 (by omega)).trans hc2
  have hF : ∀ k, k < 233 → E19 k = E k := fun k hk => (hO19 k (by omega)).trans (hF k hk)
  refine g_aload_n F (q := 23) (dk dX7_init 10 rfl) rfl rfl 0 rfl ?_
  refine g_sipush F (q := 26) (v := 346) (dk dX7_init 11 rfl) rfl (by decide) ?_
  refine g_newa F (q := 28) (at' := .int) (i := 0) (N := 346) (ty := .int) (a0 := (346, .inl (fun _ => 0))) tq_104 rfl rfl (fun c => rfl) (by decide) (by decide) (by decide) (Nat.le_of_ble_eq_true rfl) (Nat.le_of_ble_eq_true rfl) (dk dX7_init 12 rfl) rfl (fun ad26 E26 hA26 hB26 hN26 => ?_)
  have hb : E26 233 = .inr (7, [.ref (ad26 234), .ref (ad26 235), .null, .null, .int 0, .int 0, .null, .int 0, .int 0, .int 0, .int 0, .null, .null, .null, .long 0, .long 0, .null]) := (hB26 233 (by omega)).trans (hb.trans (by rw [hA26 234 (by omega), hA26 235 (by omega)]))
  have hc1 : E26 234 = .inl (cA 0, 346, .inl (fun _ => 0)) := (hB26 234 (by omega)).trans hc1
  have hc2 : E26 235 = .inl (cA 0, 1384, .inl (fun _ => 0)) := (hB26 235 (by omega)).trans hc2
  have hF : ∀ k, k < 233 → E26 k = E k := fun k hk => (hB26 k (by omega)).trans (hF k hk)
  have hG : ∀ k, k < 234 → ad26 k = ad k := fun k hk => (hA26 k (by omega)).trans (hG k hk)
  rw [← hA26 233 (by omega)]
  have hc3 : E26 236 = .inl (cA 0, 346, .inl (fun _ => 0)) := hN26
  refine (show GG rm_X7_init 2 l D X 3 2076 237 ad26 E26 28 [(0, .ref (ad26 233))] [.ref (ad26 236), .ref (ad26 233)] from ?_)
  refine g_putF F (q := 31) (ty := .array .int) hb rfl inX7 tyX7 tyX7_ok nmX7 (by omega) (j := 2) (by decide) tq_625 rfl rfl hin rfl (by decide +kernel) rfl rfl (Nat.le_of_ble_eq_true rfl) (dk dX7_init 13 rfl) rfl (fun E28 hE28 hO28 => ?_)
  have hb : E28 233 = .inr (7, [.ref (ad26 234), .ref (ad26 235), .ref (ad26 236), .null, .int 0, .int 0, .null, .int 0, .int 0, .int 0, .int 0, .null, .null, .null, .long 0, .long 0, .null]) := hE28
  have hc1 : E28 234 = .inl (cA 0, 346, .inl (fun _ => 0)) := (hO28 234 (by omega)).trans hc1
  have hc2 : E28 235 = .inl (cA 0, 1384, .inl (fun _ => 0)) := (hO28 235 (by omega)).trans hc2
  have hc3 : E28 236 = .inl (cA 0, 346, .inl (fun _ => 0)) := (hO28 236 (by omega)).trans hc3
  have hF : ∀ k, k < 233 → E28 k = E k := fun k hk => (hO28 k (by omega)).trans (hF k hk)
  refine g_aload_n F (q := 32) (dk dX7_init 14 rfl) rfl rfl 0 rfl ?_
  refine g_sipush F (q := 35) (v := 346) (dk dX7_init 15 rfl) rfl (by decide) ?_
  refine g_newa F (q := 37) (at' := .int) (i := 0) (N := 346) (ty := .int) (a0 := (346, .inl (fun _ => 0))) tq_104 rfl rfl (fun c => rfl) (by decide) (by decide) (by decide) (Nat.le_of_ble_eq_true rfl) (Nat.le_of_ble_eq_true rfl) (dk dX7_init 16 rfl) rfl (fun ad35 E35 hA35 hB35 hN35 => ?_)
  have hb : E35 233 = .inr (7, [.ref (ad35 234), .ref (ad35 235), .ref (ad35 236), .null, .int 0, .int 0, .null, .int 0, .int 0, .int 0, .int 0, .null, .null, .null, .long 0, .long 0, .null]) := (hB35 233 (by omega)).trans (hb.trans (by rw [hA35 234 (by omega), hA35 235 (by omega), hA35 236 (by omega)]))
  have hc1 : E35 234 = .inl (cA 0, 346, .inl (fun _ => 0)) := (hB35 234 (by omega)).trans hc1
  have hc2 : E35 235 = .inl (cA 0, 1384, .inl (fun _ => 0)) := (hB35 235 (by omega)).trans hc2
  have hc3 : E35 236 = .inl (cA 0, 346, .inl (fun _ => 0)) := (hB35 236 (by omega)).trans hc3
  have hF : ∀ k, k < 233 → E35 k = E k := fun k hk => (hB35 k (by omega)).trans (hF k hk)
  have hG : ∀ k, k < 234 → ad35 k = ad k := fun k hk => (hA35 k (by omega)).trans (hG k hk)
  rw [← hA35 233 (by omega)]
  have hc4 : E35 237 = .inl (cA 0, 346, .inl (fun _ => 0)) := hN35
  refine (show GG rm_X7_init 2 l D X 4 2422 238 ad35 E35 37 [(0, .ref (ad35 233))] [.ref (ad35 237), .ref (ad35 233)] from ?_)
  refine g_putF F (q := 40) (ty := .array .int) hb rfl inX7 tyX7 tyX7_ok nmX7 (by omega) (j := 3) (by decide) tq_626 rfl rfl hin rfl (by decide +kernel) rfl rfl (Nat.le_of_ble_eq_true rfl) (dk dX7_init 17 rfl) rfl (fun E37 hE37 hO37 => ?_)
  have hb : E37 233 = .inr (7, [.ref (ad35 234), .ref (ad35 235), .ref (ad35 236), .ref (ad35 237), .int 0, .int 0, .null, .int 0, .int 0, .int 0, .int 0, .null, .null, .null, .long 0, .long 0, .null]) := hE37
  have hc1 : E37 234 = .inl (cA 0, 346, .inl (fun _ => 0)) := (hO37 234 (by omega)).trans hc1
  have hc2 : E37 235 = .inl (cA 0, 1384, .inl (fun _ => 0)) := (hO37 235 (by omega)).trans hc2
  have hc3 : E37 236 = .inl (cA 0, 346, .inl (fun _ => 0)) := (hO37 236 (by omega)).trans hc3
  have hc4 : E37 237 = .inl (cA 0, 346, .inl (fun _ => 0)) := (hO37 237 (by omega)).trans hc4
  have hF : ∀ k, k < 233 → E37 k = E k := fun k hk => (hO37 k (by omega)).trans (hF k hk)
  refine g_aload_n F (q := 41) (dk dX7_init 18 rfl) rfl rfl 0 rfl ?_
  refine g_bipush F (q := 43) (v := 60) (dk dX7_init 19 rfl) rfl (by decide) ?_
  refine g_newa F (q := 45) (at' := .char) (i := 3) (N := 60) (ty := .char) (a0 := (60, .inl (fun _ => 0))) tq_214 rfl rfl (fun c => rfl) (by decide) (by decide) (by decide) (Nat.le_of_ble_eq_true rfl) (Nat.le_of_ble_eq_true rfl) (dk dX7_init 20 rfl) rfl (fun ad43 E43 hA43 hB43 hN43 => ?_)
  have hb : E43 233 = .inr (7, [.ref (ad43 234), .ref (ad43 235), .ref (ad43 236), .ref (ad43 237), .int 0, .int 0, .null, .int 0, .int 0, .int 0, .int 0, .null, .null, .null, .long 0, .long 0, .null]) := (hB43 233 (by omega)).trans (hb.trans (by rw [hA43 234 (by omega), hA43 235 (by omega), hA43 236 (by omega), hA43 237 (by omega)]))
  have hc1 : E43 234 = .inl (cA 0, 346, .inl (fun _ => 0)) := (hB43 234 (by omega)).trans hc1
  have hc2 : E43 235 = .inl (cA 0, 1384, .inl (fun _ => 0)) := (hB43 235 (by omega)).trans hc2
  have hc3 : E43 236 = .inl (cA 0, 346, .inl (fun _ => 0)) := (hB43 236 (by omega)).trans hc3
  have hc4 : E43 237 = .inl (cA 0, 346, .inl (fun _ => 0)) := (hB43 237 (by omega)).trans hc4
  have hF : ∀ k, k < 233 → E43 k = E k := fun k hk => (hB43 k (by omega)).trans (hF k hk)
  have hG : ∀ k, k < 234 → ad43 k = ad k := fun k hk => (hA43 k (by omega)).trans (hG k hk)
  rw [← hA43 233 (by omega)]
  have hc5 : E43 238 = .inl (cA 3, 60, .inl (fun _ => 0)) := hN43
  refine (show GG rm_X7_init 2 l D X 5 2482 239 ad43 E43 45 [(0, .ref (ad43 233))] [.ref (ad43 238), .ref (ad43 233)] from ?_)
  refine g_putF F (q := 48) (ty := .array .char) hb rfl inX7 tyX7 tyX7_ok nmX7 (by omega) (j := 6) (by decide) tq_629 rfl rfl hin rfl (by decide +kernel) rfl rfl (Nat.le_of_ble_eq_true rfl) (dk dX7_init 21 rfl) rfl (fun E45 hE45 hO45 => ?_)
  have hb : E45 233 = .inr (7, [.ref (ad43 234), .ref (ad43 235), .ref (ad43 236), .ref (ad43 237), .int 0, .int 0, .ref (ad43 238), .int 0, .int 0, .int 0, .int 0, .null, .null, .null, .long 0, .long 0, .null]) := hE45
  have hc1 : E45 234 = .inl (cA 0, 346, .inl (fun _ => 0)) := (hO45 234 (by omega)).trans hc1
  have hc2 : E45 235 = .inl (cA 0, 1384, .inl (fun _ => 0)) := (hO45 235 (by omega)).trans hc2
  have hc3 : E45 236 = .inl (cA 0, 346, .inl (fun _ => 0)) := (hO45 236 (by omega)).trans hc3
  have hc4 : E45 237 = .inl (cA 0, 346, .inl (fun _ => 0)) := (hO45 237 (by omega)).trans hc4
  have hc5 : E45 238 = .inl (cA 3, 60, .inl (fun _ => 0)) := (hO45 238 (by omega)).trans hc5
  have hF : ∀ k, k < 233 → E45 k = E k := fun k hk => (hO45 k (by omega)).trans (hF k hk)
  refine g_aload_n F (q := 49) (dk dX7_init 22 rfl) rfl rfl 0 rfl ?_
  refine g_bipush F (q := 51) (v := 10) (dk dX7_init 23 rfl) rfl (by decide) ?_
  refine g_newa F (q := 53) (at' := .int) (i := 0) (N := 10) (ty := .int) (a0 := (10, .inl (fun _ => 0))) tq_104 rfl rfl (fun c => rfl) (by decide) (by decide) (by decide) (Nat.le_of_ble_eq_true rfl) (Nat.le_of_ble_eq_true rfl) (dk dX7_init 24 rfl) rfl (fun ad51 E51 hA51 hB51 hN51 => ?_)
  have hb : E51 233 = .inr (7, [.ref (ad51 234), .ref (ad51 235), .ref (ad51 236), .ref (ad51 237), .int 0, .int 0, .ref (ad51 238), .int 0, .int 0, .int 0, .int 0, .null, .null, .null, .long 0, .long 0, .null]) := (hB51 233 (by omega)).trans (hb.trans (by rw [hA51 234 (by omega), hA51 235 (by omega), hA51 236 (by omega), hA51 237 (by omega), hA51 238 (by omega)]))
  have hc1 : E51 234 = .inl (cA 0, 346, .inl (fun _ => 0)) := (hB51 234 (by omega)).trans hc1
  have hc2 : E51 235 = .inl (cA 0, 1384, .inl (fun _ => 0)) := (hB51 235 (by omega)).trans hc2
  have hc3 : E51 236 = .inl (cA 0, 346, .inl (fun _ => 0)) := (hB51 236 (by omega)).trans hc3
  have hc4 : E51 237 = .inl (cA 0, 346, .inl (fun _ => 0)) := (hB51 237 (by omega)).trans hc4
  have hc5 : E51 238 = .inl (cA 3, 60, .inl (fun _ => 0)) := (hB51 238 (by omega)).trans hc5
  have hF : ∀ k, k < 233 → E51 k = E k := fun k hk => (hB51 k (by omega)).trans (hF k hk)
  have hG : ∀ k, k < 234 → ad51 k = ad k := fun k hk => (hA51 k (by omega)).trans (hG k hk)
  rw [← hA51 233 (by omega)]
  have hc6 : E51 239 = .inl (cA 0, 10, .inl (fun _ => 0)) := hN51
  refine (show GG rm_X7_init 2 l D X 6 2492 240 ad51 E51 53 [(0, .ref (ad51 233))] [.ref (ad51 239), .ref (ad51 233)] from ?_)
  refine g_putF F (q := 56) (ty := .array .int) hb rfl inX7 tyX7 tyX7_ok nmX7 (by omega) (j := 11) (by decide) tq_634 rfl rfl hin rfl (by decide +kernel) rfl rfl (Nat.le_of_ble_eq_true rfl) (dk dX7_init 25 rfl) rfl (fun E53 hE53 hO53 => ?_)
  have hb : E53 233 = .inr (7, [.ref (ad51 234), .ref (ad51 235), .ref (ad51 236), .ref (ad51 237), .int 0, .int 0, .ref (ad51 238), .int 0, .int 0, .int 0, .int 0, .ref (ad51 239), .null, .null, .long 0, .long 0, .null]) := hE53
  have hc1 : E53 234 = .inl (cA 0, 346, .inl (fun _ => 0)) := (hO53 234 (by omega)).trans hc1
  have hc2 : E53 235 = .inl (cA 0, 1384, .inl (fun _ => 0)) := (hO53 235 (by omega)).trans hc2
  have hc3 : E53 236 = .inl (cA 0, 346, .inl (fun _ => 0)) := (hO53 236 (by omega)).trans hc3
  have hc4 : E53 237 = .inl (cA 0, 346, .inl (fun _ => 0)) := (hO53 237 (by omega)).trans hc4
  have hc5 : E53 238 = .inl (cA 3, 60, .inl (fun _ => 0)) := (hO53 238 (by omega)).trans hc5
  have hc6 : E53 239 = .inl (cA 0, 10, .inl (fun _ => 0)) := (hO53 239 (by omega)).trans hc6
  have hF : ∀ k, k < 233 → E53 k = E k := fun k hk => (hO53 k (by omega)).trans (hF k hk)
  refine g_aload_n F (q := 57) (dk dX7_init 26 rfl) rfl rfl 0 rfl ?_
  refine g_bipush F (q := 59) (v := 10) (dk dX7_init 27 rfl) rfl (by decide) ?_
  refine g_newa F (q := 61) (at' := .int) (i := 0) (N := 10) (ty := .int) (a0 := (10, .inl (fun _ => 0))) tq_104 rfl rfl (fun c => rfl) (by decide) (by decide) (by decide) (Nat.le_of_ble_eq_true rfl) (Nat.le_of_ble_eq_true rfl) (dk dX7_init 28 rfl) rfl (fun ad59 E59 hA59 hB59 hN59 => ?_)
  have hb : E59 233 = .inr (7, [.ref (ad59 234), .ref (ad59 235), .ref (ad59 236), .ref (ad59 237), .int 0, .int 0, .ref (ad59 238), .int 0, .int 0, .int 0, .int 0, .ref (ad59 239), .null, .null, .long 0, .long 0, .null]) := (hB59 233 (by omega)).trans (hb.trans (by rw [hA59 234 (by omega), hA59 235 (by omega), hA59 236 (by omega), hA59 237 (by omega), hA59 238 (by omega), hA59 239 (by omega)]))
  have hc1 : E59 234 = .inl (cA 0, 346, .inl (fun _ => 0)) := (hB59 234 (by omega)).trans hc1
  have hc2 : E59 235 = .inl (cA 0, 1384, .inl (fun _ => 0)) := (hB59 235 (by omega)).trans hc2
  have hc3 : E59 236 = .inl (cA 0, 346, .inl (fun _ => 0)) := (hB59 236 (by omega)).trans hc3
  have hc4 : E59 237 = .inl (cA 0, 346, .inl (fun _ => 0)) := (hB59 237 (by omega)).trans hc4
  have hc5 : E59 238 = .inl (cA 3, 60, .inl (fun _ => 0)) := (hB59 238 (by omega)).trans hc5
  have hc6 : E59 239 = .inl (cA 0, 10, .inl (fun _ => 0)) := (hB59 239 (by omega)).trans hc6
  have hF : ∀ k, k < 233 → E59 k = E k := fun k hk => (hB59 k (by omega)).trans (hF k hk)
  have hG : ∀ k, k < 234 → ad59 k = ad k := fun k hk => (hA59 k (by omega)).trans (hG k hk)
  rw [← hA59 233 (by omega)]
  have hc7 : E59 240 = .inl (cA 0, 10, .inl (fun _ => 0)) := hN59
  refine (show GG rm_X7_init 2 l D X 7 2502 241 ad59 E59 61 [(0, .ref (ad59 233))] [.ref (ad59 240), .ref (ad59 233)] from ?_)
  refine g_putF F (q := 64) (ty := .array .int) hb rfl inX7 tyX7 tyX7_ok nmX7 (by omega) (j := 12) (by decide) tq_635 rfl rfl hin rfl (by decide +kernel) rfl rfl (Nat.le_of_ble_eq_true rfl) (dk dX7_init 29 rfl) rfl (fun E61 hE61 hO61 => ?_)
  have hb : E61 233 = .inr (7, [.ref (ad59 234), .ref (ad59 235), .ref (ad59 236), .ref (ad59 237), .int 0, .int 0, .ref (ad59 238), .int 0, .int 0, .int 0, .int 0, .ref (ad59 239), .ref (ad59 240), .null, .long 0, .long 0, .null]) := hE61
  have hc1 : E61 234 = .inl (cA 0, 346, .inl (fun _ => 0)) := (hO61 234 (by omega)).trans hc1
  have hc2 : E61 235 = .inl (cA 0, 1384, .inl (fun _ => 0)) := (hO61 235 (by omega)).trans hc2
  have hc3 : E61 236 = .inl (cA 0, 346, .inl (fun _ => 0)) := (hO61 236 (by omega)).trans hc3
  have hc4 : E61 237 = .inl (cA 0, 346, .inl (fun _ => 0)) := (hO61 237 (by omega)).trans hc4
  have hc5 : E61 238 = .inl (cA 3, 60, .inl (fun _ => 0)) := (hO61 238 (by omega)).trans hc5
  have hc6 : E61 239 = .inl (cA 0, 10, .inl (fun _ => 0)) := (hO61 239 (by omega)).trans hc6
  have hc7 : E61 240 = .inl (cA 0, 10, .inl (fun _ => 0)) := (hO61 240 (by omega)).trans hc7
  have hF : ∀ k, k < 233 → E61 k = E k := fun k hk => (hO61 k (by omega)).trans (hF k hk)
  refine g_aload_n F (q := 65) (dk dX7_init 30 rfl) rfl rfl 0 rfl ?_
  refine g_bipush F (q := 67) (v := 10) (dk dX7_init 31 rfl) rfl (by decide) ?_
  refine g_newa F (q := 69) (at' := .int) (i := 0) (N := 10) (ty := .int) (a0 := (10, .inl (fun _ => 0))) tq_104 rfl rfl (fun c => rfl) (by decide) (by decide) (by decide) (Nat.le_of_ble_eq_true rfl) (Nat.le_of_ble_eq_true rfl) (dk dX7_init 32 rfl) rfl (fun ad67 E67 hA67 hB67 hN67 => ?_)
  have hb : E67 233 = .inr (7, [.ref (ad67 234), .ref (ad67 235), .ref (ad67 236), .ref (ad67 237), .int 0, .int 0, .ref (ad67 238), .int 0, .int 0, .int 0, .int 0, .ref (ad67 239), .ref (ad67 240), .null, .long 0, .long 0, .null]) := (hB67 233 (by omega)).trans (hb.trans (by rw [hA67 234 (by omega), hA67 235 (by omega), hA67 236 (by omega), hA67 237 (by omega), hA67 238 (by omega), hA67 239 (by omega), hA67 240 (by omega)]))
  have hc1 : E67 234 = .inl (cA 0, 346, .inl (fun _ => 0)) := (hB67 234 (by omega)).trans hc1
  have hc2 : E67 235 = .inl (cA 0, 1384, .inl (fun _ => 0)) := (hB67 235 (by omega)).trans hc2
  have hc3 : E67 236 = .inl (cA 0, 346, .inl (fun _ => 0)) := (hB67 236 (by omega)).trans hc3
  have hc4 : E67 237 = .inl (cA 0, 346, .inl (fun _ => 0)) := (hB67 237 (by omega)).trans hc4
  have hc5 : E67 238 = .inl (cA 3, 60, .inl (fun _ => 0)) := (hB67 238 (by omega)).trans hc5
  have hc6 : E67 239 = .inl (cA 0, 10, .inl (fun _ => 0)) := (hB67 239 (by omega)).trans hc6
  have hc7 : E67 240 = .inl (cA 0, 10, .inl (fun _ => 0)) := (hB67 240 (by omega)).trans hc7
  have hF : ∀ k, k < 233 → E67 k = E k := fun k hk => (hB67 k (by omega)).trans (hF k hk)
  have hG : ∀ k, k < 234 → ad67 k = ad k := fun k hk => (hA67 k (by omega)).trans (hG k hk)
  rw [← hA67 233 (by omega)]
  have hc8 : E67 241 = .inl (cA 0, 10, .inl (fun _ => 0)) := hN67
  refine (show GG rm_X7_init 2 l D X 8 2512 242 ad67 E67 69 [(0, .ref (ad67 233))] [.ref (ad67 241), .ref (ad67 233)] from ?_)
  refine g_putF F (q := 72) (ty := .array .int) hb rfl inX7 tyX7 tyX7_ok nmX7 (by omega) (j := 13) (by decide) tq_636 rfl rfl hin rfl (by decide +kernel) rfl rfl (Nat.le_of_ble_eq_true rfl) (dk dX7_init 33 rfl) rfl (fun E69 hE69 hO69 => ?_)
  have hb : E69 233 = .inr (7, [.ref (ad67 234), .ref (ad67 235), .ref (ad67 236), .ref (ad67 237), .int 0, .int 0, .ref (ad67 238), .int 0, .int 0, .int 0, .int 0, .ref (ad67 239), .ref (ad67 240), .ref (ad67 241), .long 0, .long 0, .null]) := hE69
  have hc1 : E69 234 = .inl (cA 0, 346, .inl (fun _ => 0)) := (hO69 234 (by omega)).trans hc1
  have hc2 : E69 235 = .inl (cA 0, 1384, .inl (fun _ => 0)) := (hO69 235 (by omega)).trans hc2
  have hc3 : E69 236 = .inl (cA 0, 346, .inl (fun _ => 0)) := (hO69 236 (by omega)).trans hc3
  have hc4 : E69 237 = .inl (cA 0, 346, .inl (fun _ => 0)) := (hO69 237 (by omega)).trans hc4
  have hc5 : E69 238 = .inl (cA 3, 60, .inl (fun _ => 0)) := (hO69 238 (by omega)).trans hc5
  have hc6 : E69 239 = .inl (cA 0, 10, .inl (fun _ => 0)) := (hO69 239 (by omega)).trans hc6
  have hc7 : E69 240 = .inl (cA 0, 10, .inl (fun _ => 0)) := (hO69 240 (by omega)).trans hc7
  have hc8 : E69 241 = .inl (cA 0, 10, .inl (fun _ => 0)) := (hO69 241 (by omega)).trans hc8
  have hF : ∀ k, k < 233 → E69 k = E k := fun k hk => (hO69 k (by omega)).trans (hF k hk)
  refine g_aload_n F (q := 73) (dk dX7_init 34 rfl) rfl rfl 0 rfl ?_
  refine g_bipush F (q := 75) (v := 10) (dk dX7_init 35 rfl) rfl (by decide) ?_
  refine g_newa F (q := 77) (at' := .long) (i := 1) (N := 10) (ty := .long) (a0 := (10, .inr (.inl (fun _ => 0)))) tq_271 rfl rfl (fun c => rfl) (by decide) (by decide) (by decide) (Nat.le_of_ble_eq_true rfl) (Nat.le_of_ble_eq_true rfl) (dk dX7_init 36 rfl) rfl (fun ad75 E75 hA75 hB75 hN75 => ?_)
  have hb : E75 233 = .inr (7, [.ref (ad75 234), .ref (ad75 235), .ref (ad75 236), .ref (ad75 237), .int 0, .int 0, .ref (ad75 238), .int 0, .int 0, .int 0, .int 0, .ref (ad75 239), .ref (ad75 240), .ref (ad75 241), .long 0, .long 0, .null]) := (hB75 233 (by omega)).trans (hb.trans (by rw [hA75 234 (by omega), hA75 235 (by omega), hA75 236 (by omega), hA75 237 (by omega), hA75 238 (by omega), hA75 239 (by omega), hA75 240 (by omega), hA75 241 (by omega)]))
  have hc1 : E75 234 = .inl (cA 0, 346, .inl (fun _ => 0)) := (hB75 234 (by omega)).trans hc1
  have hc2 : E75 235 = .inl (cA 0, 1384, .inl (fun _ => 0)) := (hB75 235 (by omega)).trans hc2
  have hc3 : E75 236 = .inl (cA 0, 346, .inl (fun _ => 0)) := (hB75 236 (by omega)).trans hc3
  have hc4 : E75 237 = .inl (cA 0, 346, .inl (fun _ => 0)) := (hB75 237 (by omega)).trans hc4
  have hc5 : E75 238 = .inl (cA 3, 60, .inl (fun _ => 0)) := (hB75 238 (by omega)).trans hc5
  have hc6 : E75 239 = .inl (cA 0, 10, .inl (fun _ => 0)) := (hB75 239 (by omega)).trans hc6
  have hc7 : E75 240 = .inl (cA 0, 10, .inl (fun _ => 0)) := (hB75 240 (by omega)).trans hc7
  have hc8 : E75 241 = .inl (cA 0, 10, .inl (fun _ => 0)) := (hB75 241 (by omega)).trans hc8
  have hF : ∀ k, k < 233 → E75 k = E k := fun k hk => (hB75 k (by omega)).trans (hF k hk)
  have hG : ∀ k, k < 234 → ad75 k = ad k := fun k hk => (hA75 k (by omega)).trans (hG k hk)
  rw [← hA75 233 (by omega)]
  have hc9 : E75 242 = .inl (cA 1, 10, .inr (.inl (fun _ => 0))) := hN75
  refine (show GG rm_X7_init 2 l D X 9 2522 243 ad75 E75 77 [(0, .ref (ad75 233))] [.ref (ad75 242), .ref (ad75 233)] from ?_)
  refine g_putF F (q := 80) (ty := .array .long) hb rfl inX7 tyX7 tyX7_ok nmX7 (by omega) (j := 16) (by decide) tq_639 rfl rfl hin rfl (by decide +kernel) rfl rfl (Nat.le_of_ble_eq_true rfl) (dk dX7_init 37 rfl) rfl (fun E77 hE77 hO77 => ?_)
  have hb : E77 233 = .inr (7, [.ref (ad75 234), .ref (ad75 235), .ref (ad75 236), .ref (ad75 237), .int 0, .int 0, .ref (ad75 238), .int 0, .int 0, .int 0, .int 0, .ref (ad75 239), .ref (ad75 240), .ref (ad75 241), .long 0, .long 0, .ref (ad75 242)]) := hE77
  have hc1 : E77 234 = .inl (cA 0, 346, .inl (fun _ => 0)) := (hO77 234 (by omega)).trans hc1
  have hc2 : E77 235 = .inl (cA 0, 1384, .inl (fun _ => 0)) := (hO77 235 (by omega)).trans hc2
  have hc3 : E77 236 = .inl (cA 0, 346, .inl (fun _ => 0)) := (hO77 236 (by omega)).trans hc3
  have hc4 : E77 237 = .inl (cA 0, 346, .inl (fun _ => 0)) := (hO77 237 (by omega)).trans hc4
  have hc5 : E77 238 = .inl (cA 3, 60, .inl (fun _ => 0)) := (hO77 238 (by omega)).trans hc5
  have hc6 : E77 239 = .inl (cA 0, 10, .inl (fun _ => 0)) := (hO77 239 (by omega)).trans hc6
  have hc7 : E77 240 = .inl (cA 0, 10, .inl (fun _ => 0)) := (hO77 240 (by omega)).trans hc7
  have hc8 : E77 241 = .inl (cA 0, 10, .inl (fun _ => 0)) := (hO77 241 (by omega)).trans hc8
  have hc9 : E77 242 = .inl (cA 1, 10, .inr (.inl (fun _ => 0))) := (hO77 242 (by omega)).trans hc9
  have hF : ∀ k, k < 233 → E77 k = E k := fun k hk => (hO77 k (by omega)).trans (hF k hk)
  refine g_aload_n F (q := 81) (dk dX7_init 38 rfl) rfl rfl 0 rfl ?_
  refine g_getf F (q := 84) hb rfl inX7 (by omega) (j := 0) (by decide) tq_623 rfl rfl (dk dX7_init 39 rfl) rfl ?_
  refine g_iconst F (q := 85) (v := 3) (dk dX7_init 40 rfl) rfl (by decide) ?_
  refine g_iconst F (q := 86) (v := 3) (dk dX7_init 41 rfl) rfl (by decide) ?_
  refine g_iast F (q := 87) 3 hc1 (by omega) rfl (by decide) (by decide) (dk dX7_init 42 rfl) rfl (fun E86 hE80 hO80 => ?_)
  have hb : E86 233 = .inr (7, [.ref (ad75 234), .ref (ad75 235), .ref (ad75 236), .ref (ad75 237), .int 0, .int 0, .ref (ad75 238), .int 0, .int 0, .int 0, .int 0, .ref (ad75 239), .ref (ad75 240), .ref (ad75 241), .long 0, .long 0, .ref (ad75 242)]) := (hO80 233 (by omega)).trans hb
  have hc2 : E86 235 = .inl (cA 0, 1384, .inl (fun _ => 0)) := (hO80 235 (by omega)).trans hc2
  have hc3 : E86 236 = .inl (cA 0, 346, .inl (fun _ => 0)) := (hO80 236 (by omega)).trans hc3
  have hc4 : E86 237 = .inl (cA 0, 346, .inl (fun _ => 0)) := (hO80 237 (by omega)).trans hc4
  have hc5 : E86 238 = .inl (cA 3, 60, .inl (fun _ => 0)) := (hO80 238 (by omega)).trans hc5
  have hc6 : E86 239 = .inl (cA 0, 10, .inl (fun _ => 0)) := (hO80 239 (by omega)).trans hc6
  have hc7 : E86 240 = .inl (cA 0, 10, .inl (fun _ => 0)) := (hO80 240 (by omega)).trans hc7
  have hc8 : E86 241 = .inl (cA 0, 10, .inl (fun _ => 0)) := (hO80 241 (by omega)).trans hc8
  have hc9 : E86 242 = .inl (cA 1, 10, .inr (.inl (fun _ => 0))) := (hO80 242 (by omega)).trans hc9
  have hF : ∀ k, k < 233 → E86 k = E k := fun k hk => (hO80 k (by omega)).trans (hF k hk)
  have hc1 := hE80
  refine g_aload_n F (q := 88) (dk dX7_init 43 rfl) rfl rfl 0 rfl ?_
  refine g_getf F (q := 91) hb rfl inX7 (by omega) (j := 0) (by decide) tq_623 rfl rfl (dk dX7_init 44 rfl) rfl ?_
  refine g_iconst F (q := 92) (v := 4) (dk dX7_init 45 rfl) rfl (by decide) ?_
  refine g_iconst F (q := 93) (v := 5) (dk dX7_init 46 rfl) rfl (by decide) ?_
  refine g_iast F (q := 94) 4 hc1 (by omega) rfl (by decide) (by decide) (dk dX7_init 47 rfl) rfl (fun E93 hE87 hO87 => ?_)
  have hb : E93 233 = .inr (7, [.ref (ad75 234), .ref (ad75 235), .ref (ad75 236), .ref (ad75 237), .int 0, .int 0, .ref (ad75 238), .int 0, .int 0, .int 0, .int 0, .ref (ad75 239), .ref (ad75 240), .ref (ad75 241), .long 0, .long 0, .ref (ad75 242)]) := (hO87 233 (by omega)).trans hb
  have hc2 : E93 235 = .inl (cA 0, 1384, .inl (fun _ => 0)) := (hO87 235 (by omega)).trans hc2
  have hc3 : E93 236 = .inl (cA 0, 346, .inl (fun _ => 0)) := (hO87 236 (by omega)).trans hc3
  have hc4 : E93 237 = .inl (cA 0, 346, .inl (fun _ => 0)) := (hO87 237 (by omega)).trans hc4
  have hc5 : E93 238 = .inl (cA 3, 60, .inl (fun _ => 0)) := (hO87 238 (by omega)).trans hc5
  have hc6 : E93 239 = .inl (cA 0, 10, .inl (fun _ => 0)) := (hO87 239 (by omega)).trans hc6
  have hc7 : E93 240 = .inl (cA 0, 10, .inl (fun _ => 0)) := (hO87 240 (by omega)).trans hc7
  have hc8 : E93 241 = .inl (cA 0, 10, .inl (fun _ => 0)) := (hO87 241 (by omega)).trans hc8
  have hc9 : E93 242 = .inl (cA 1, 10, .inr (.inl (fun _ => 0))) := (hO87 242 (by omega)).trans hc9
  have hF : ∀ k, k < 233 → E93 k = E k := fun k hk => (hO87 k (by omega)).trans (hF k hk)
  have hc1 := hE87
  refine g_sipush F (q := 97) (v := 146) (dk dX7_init 48 rfl) rfl (by decide) ?_
  refine g_istore_n F (q := 98) (lv' := [(1, .int 146), (0, .ref (ad75 233))]) (dk dX7_init 49 rfl) rfl rfl (Nat.le_of_ble_eq_true rfl) rfl ?_
  have K98 : ∀ (fu i : Nat) (w : Nat → Int32) (E1 : Nat → va_E), 346 - i < fu → 146 ≤ i → i ≤ 346 → E1 234 = .inl (cA 0, 346, .inl w) → (∀ j, j ≠ 234 → E1 j = E93 j) → (∀ x, x < 346 → w x = iRowP i x) → GG rm_X7_init 2 l D X 9 2522 243 ad75 E1 98 [(1, .int (nI i)), (0, .ref (ad75 233))] [] := by
    intro fu
    induction fu with
    | zero => intro i w E1 h; exact absurd h (Nat.not_lt_zero _)
    | succ fu ih =>
      intro i w E1 hfu h1 h2 hw hfr hww
      refine g_iload_n F (q := 99) (dk dX7_init 50 rfl) rfl rfl 0 rfl ?_
      refine g_sipush F (q := 102) (v := 346) (dk dX7_init 51 rfl) rfl (by decide) ?_
      refine g_icmp_ge F (q := 105) (tgt := 119) (dk dX7_init 52 rfl) (by decide) rfl (fun c1 => ?_) (fun c1 => ?_)
      · have c2 : 346 ≤ i := (nI_leI (a := 346) (b := i) (by omega) (by omega)).mp c1
        obtain rfl : i = 346 := by omega
        exact hret ad75 E1 _ _ (dk dX7_init 60 rfl) ⟨hG, fun k hk => (hfr k (by omega)).trans (hF k hk), w, (hfr 233 (by omega)).trans hb, hw, fun x hx => (hww x hx).trans (iRowP_l hx), (hfr 235 (by omega)).trans hc2, (hfr 236 (by omega)).trans hc3, (hfr 237 (by omega)).trans hc4, (hfr 238 (by omega)).trans hc5, (hfr 239 (by omega)).trans hc6, (hfr 240 (by omega)).trans hc7, (hfr 241 (by omega)).trans hc8, (hfr 242 (by omega)).trans hc9⟩
      · have c2 : ¬ 346 ≤ i := fun h => c1 ((nI_leI (a := 346) (b := i) (by omega) (by omega)).mpr h)
        have hb1 := (hfr 233 (by omega)).trans hb
        refine g_aload_n F (q := 106) (dk dX7_init 53 rfl) rfl rfl 1 rfl ?_
        refine g_getf F (q := 109) hb1 rfl inX7 (by omega) (j := 0) (by decide) tq_623 rfl rfl (dk dX7_init 54 rfl) rfl ?_
        refine g_iload_n F (q := 110) (dk dX7_init 55 rfl) rfl rfl 0 rfl ?_
        refine g_ldc F (q := 112) (v := (-1000000000)) (dk dX7_init 56 rfl) rfl tq_622 ?_
        refine g_sti (y := MISS) rfl ?_
        refine g_iast F (q := 113) i hw (by omega) rfl (by omega) (by decide) (dk dX7_init 57 rfl) rfl (fun E2 hE2 hO2 => ?_)
        refine g_iinc F (q := 116) (v := nI (i + 1)) (lv' := [(1, .int (nI (i + 1))), (0, .ref (ad75 233))]) (dk dX7_init 58 rfl) rfl 0 rfl (nI_1 _) (Nat.le_of_ble_eq_true rfl) rfl ?_
        refine g_goto F (tgt := 98) (dk dX7_init 59 rfl) (by decide) ?_
        exact ih (i + 1) _ E2 (by omega) (by omega) (by omega) hE2 (fun j hj => (hO2 j hj).trans (hfr j hj)) (fun x hx => iRowP_s (by omega) (hww x hx))
  exact K98 _ 146 _ E93 (Nat.lt_succ_self _) (by omega) (by omega) hc1 (fun j _ => rfl) (fun x _ => iRowP_0 x)
theorem kn_X7_init : KN yX7_init cX7_init 2 := ⟨tq_619, tq_47, tq_620, rfl, by decide +kernel⟩
