/-! ===== the making of objects: a world that grows ===== -/
section GGN
variable {R : Room} {nL : Nat} {l : Launch} {D : va_G} {X : GX} {cl sl n : Nat} {ad : Nat → Nat} {E : Nat → va_E} {pc q : Nat} {lv : List (Nat × Value)} {st : List Value} {own : String} {cc : ByteArray} {cA : Nat → ClassId}
theorem g_oinit (F : Fr own cc nL D cA X) {ix a : Nat} (hw1 : Cond.methodLink own ix Lib.objectInit ∈ TT) (hw2 : Cond.instanceMethod Lib.objectInit ∈ TT) (hw3 : Cond.code Lib.objectInit ⟨#[0xb1]⟩ 1 none ∈ TT) (hfr : 1 ≤ R.frames) (hlo : (st.map fun v => v.category).sum + 12 ≤ R.locals) (hd : decode cc pc = .ok (.invokespecial ix, 3)) (hq : pc + 3 = q) (kk : GG R nL l D X cl sl n ad E q lv st) : GG R nL l D X cl sl n ad E pc lv (.ref a :: st) := by
  subst hq
  exact fun H locs ls hP hD hS hl => W.objInit F.x F.b F.o (F.t _ hw1) (F.t _ hw2) (F.t _ hw3) rfl (hl.1.trans F.m.symm) rfl hd hfr (by show 2 * 0 + _ + 12 ≤ _; omega) (kk H locs ls hP hD hS hl)
theorem g_new (F : Fr own cc nL D cA X) {C : String} {T : u_T} {N ci ix : Nat} {fs : List Value} (hin : ∀ w ∈ u_ws C T N, w ∈ TT) (ty : Nat → FieldType) (hty : ∀ k, k < N → parseFieldDescriptor (T k).2.2.1 = some (ty k)) (hw1 : Cond.classLink own ix C ∈ TT) (hw2 : Cond.instantiable C N ∈ TT) (hw3 : Cond.initialized C ∈ TT) (hc : vwCl[ci]? = some (C, T, N)) (hfs : ∀ j, j < N → defaultValue (ty j) = vp_V fs j) (hcells : cl + 1 ≤ R.cells) (hslots : sl + N ≤ R.slots) (hd : decode cc pc = .ok (.new ix, 3)) (hq : pc + 3 = q)
    (kk : ∀ (ad' : Nat → Nat) (E' : Nat → va_E), (∀ k, k < n → ad' k = ad k) → (∀ k, k < n → E' k = E k) → E' n = .inr (ci, fs) → GG R nL l D X (cl + 1) (sl + N) (n + 1) ad' E' q lv (.ref (ad' n) :: st)) : GG R nL l D X cl sl n ad E pc lv st := by
  subst hq
  refine fun H locs ls hP hD hS hl => va_new F.x F.b F.t hin ty hty F.o (F.t _ hw1) (F.t _ hw2) (F.t _ hw3) F.k hP hD hS F.a hc hfs hcells hslots hd (fun q H1 hP1 hD1 hS1 => ?_)
  have := kk (va_up ad n q) (va_up E n (.inr (ci, fs))) (fun k hk => if_neg (by omega)) (fun k hk => if_neg (by omega)) (if_pos rfl) H1 locs ls (by rw [← wl_push]; exact hP1) (by rw [← wl_push]; exact hD1) hS1 hl
  rw [show va_up ad n q n = q from if_pos rfl] at this
  exact this
theorem g_newa (F : Fr own cc nL D cA X) {at' : ArrayType} {i N : Nat} {ty : FieldType} {a0 : vp_A} {m : Int32} (hw : Cond.arrayClass (newarray.typeOf at') ∈ TT) (hty : newarray.typeOf at' = ty) (hi : (tyl cA)[i]? = some (cA i, ty)) (ha : ∀ c : ClassId, vp_cell c a0 = arrV c N (fun _ => defaultValue ty)) (hn : ¬ m < 0) (hN : m.toNatClampNeg = N) (hb : N * componentBytes ty ≤ 536870912) (hcells : cl + 1 ≤ R.cells) (hslots : sl + N ≤ R.slots) (hd : decode cc pc = .ok (.newarray at', 2)) (hq : pc + 2 = q)
    (kk : ∀ (ad' : Nat → Nat) (E' : Nat → va_E), (∀ k, k < n → ad' k = ad k) → (∀ k, k < n → E' k = E k) → E' n = .inl (cA i, a0) → GG R nL l D X (cl + 1) (sl + N) (n + 1) ad' E' q lv (.ref (ad' n) :: st)) : GG R nL l D X cl sl n ad E pc lv (.int m :: st) := by
  subst hq
  refine fun H locs ls hP hD hS hl => va_newa F.x F.b (F.t _ hw) hty F.k hP hD hS F.a ha hn hN hb hcells hslots hd (fun q c H1 hK1 hP1 hD1 hS1 => ?_)
  have hc : c = cA i := by
    have h1 := (hK1.2 6 (c, ty) (by rfl)).2
    have h2 := (F.k.2 i _ hi).2
    subst hty
    cases at' <;> exact Option.some.inj (h1.symm.trans h2)
  subst hc
  have := kk (va_up ad n q) (va_up E n (.inl (cA i, a0))) (fun k hk => if_neg (by omega)) (fun k hk => if_neg (by omega)) (if_pos rfl) H1 locs ls (by rw [← wl_push]; exact hP1) (by rw [← wl_push]; exact hD1) hS1 hl
  rw [show va_up ad n q n = q from if_pos rfl] at this
  exact this
theorem g_newq (F : Fr own cc nL D cA X) {ix N : Nat} {m : Int32} (hw : Cond.classLink own ix "ThumpEars$State" ∈ TT) (ho : va_AO "ThumpEars$State" X.2.2.1) (hn : ¬ m < 0) (hN : m.toNatClampNeg = N) (hb : N * 4 ≤ 536870912) (hcells : cl + 1 ≤ R.cells) (hslots : sl + N ≤ R.slots) (hd : decode cc pc = .ok (.anewarray ix, 3)) (hq : pc + 3 = q)
    (kk : ∀ (ad' : Nat → Nat) (E' : Nat → va_E), (∀ k, k < n → ad' k = ad k) → (∀ k, k < n → E' k = E k) → E' n = .inl (cA 4, N, .inr (.inr (.inr (.inr (fun _ => none))))) → GG R nL l D X (cl + 1) (sl + N) (n + 1) ad' E' q lv (.ref (ad' n) :: st)) : GG R nL l D X cl sl n ad E pc lv (.int m :: st) := by
  subst hq
  refine fun H locs ls hP hD hS hl => va_newq F.x F.b F.o (F.t _ hw) ho F.k hP hD hS F.a hn hN hb hcells hslots hd (fun q c H1 hK1 hP1 hD1 hS1 => ?_)
  have hc : c = cA 4 := by
    have h1 := (hK1.2 6 (c, .object "ThumpEars$State") (by rfl)).2
    have h2 := (F.k.2 4 (cA 4, .object "ThumpEars$State") (by rfl)).2
    obtain ⟨_, _, _, _, _, h1⟩ := h1
    obtain ⟨_, _, _, _, _, h2⟩ := h2
    exact Option.some.inj (h1.symm.trans h2)
  subst hc
  have := kk (va_up ad n q) (va_up E n (.inl (cA 4, N, .inr (.inr (.inr (.inr (fun _ => none))))))) (fun k hk => if_neg (by omega)) (fun k hk => if_neg (by omega)) (if_pos rfl) H1 locs ls (by rw [← wl_push]; exact hP1) (by rw [← wl_push]; exact hD1) hS1 hl
  rw [show va_up ad n q n = q from if_pos rfl] at this
  exact this
end GGN
