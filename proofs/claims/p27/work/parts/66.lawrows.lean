/-! ===== the law's rows ===== -/
def Sc (X : GX) (b L : Nat) (xs : Nat → Int32) : Prop := va_X b L xs X.2.2.1 X.2.2.1.heap ∧ b < X.2.2.1.heap.size ∧ ¬ X.2.2.2.2.2.2.2.2.1 b
/-- a call's answer v, and what holds behind it -/
def CQ (l : Launch) (D : va_G) (cA : Nat → ClassId) (y : MethodName) (bytes : ByteArray) (maxL : Nat) (ret : FieldType) (rm : Room) (ad : Nat → Nat) (E : Nat → va_E) (av : List Value) (v : Int32) (P : (Nat → va_E) → Prop) : Prop :=
  ∃ post : Int32 → (Nat → va_E) → Prop, CtI l D cA y bytes maxL ret rm 235 ad E av post ∧ ∀ x E', post x E' → v = x ∧ P E'
def CQL (l : Launch) (D : va_G) (cA : Nat → ClassId) (y : MethodName) (bytes : ByteArray) (maxL : Nat) (rm : Room) (ad : Nat → Nat) (E : Nat → va_E) (av : List Value) (v : Int64) (P : (Nat → va_E) → Prop) : Prop :=
  ∃ post : Int64 → (Nat → va_E) → Prop, CtL l D cA y bytes maxL rm 235 ad E av post ∧ ∀ x E', post x E' → v = x ∧ P E'
section GGL
variable {R : Room} {nL : Nat} {l : Launch} {D : va_G} {X : GX} {cl sl n : Nat} {ad : Nat → Nat} {E : Nat → va_E} {pc q : Nat} {lv : List (Nat × Value)} {st stk : List Value} {own : String} {cc : ByteArray} {cA : Nat → ClassId} {b L : Nat} {xs : Nat → Int32} {y : MethodName} {bytes : ByteArray} {maxL na ix : Nat} {rm : Room} {av : List Value} {P : (Nat → va_E) → Prop}
theorem g_sld (F : Fr own cc nL D cA X) (S : Sc X b L xs) {k : Nat} (hk : k < L) (hL : L ≤ 2048) {i : Int32} (hi : i = nI k) (hd : decode cc pc = .ok (.iaload, 1)) (hq : pc + 1 = q) (kk : GG R nL l D X cl sl n ad E q lv (.int (xs k) :: st)) : GG R nL l D X cl sl n ad E pc lv (.int i :: .ref b :: st) := by
  subst hq
  subst hi
  exact fun H locs ls hP hD hS hl => va_sld F.x F.b S.1 S.2.1 S.2.2 hS (vp_in_nI hk (by omega)) hd (by rw [nI_clamp (by omega)]; exact kk H locs ls hP hD hS hl)
theorem g_slen (F : Fr own cc nL D cA X) (S : Sc X b L xs) (hd : decode cc pc = .ok (.arraylength, 1)) (hq : pc + 1 = q) (kk : GG R nL l D X cl sl n ad E q lv (.int (Int32.ofNat L) :: st)) : GG R nL l D X cl sl n ad E pc lv (.ref b :: st) := by
  subst hq
  exact fun H locs ls hP hD hS hl => va_slen F.x F.b S.1 S.2.1 S.2.2 hS hd (kk H locs ls hP hD hS hl)
theorem g_irem (F : Fr own cc nL D cA X) {x y : Int32} (hd : decode cc pc = .ok (.irem, 1)) (hq : pc + 1 = q) (hz : ¬ y = 0) (kk : GG R nL l D X cl sl n ad E q lv (.int (x - x / y * y) :: st)) : GG R nL l D X cl sl n ad E pc lv (.int y :: .int x :: st) := by
  subst hq
  exact fun H locs ls hP hD hS hl => lv_irem F.x F.b hd hz (kk H locs ls hP hD hS hl)
theorem g_ishr (F : Fr own cc nL D cA X) {x y : Int32} (hd : decode cc pc = .ok (.ishr, 1)) (hq : pc + 1 = q) (kk : GG R nL l D X cl sl n ad E q lv (.int (x >>> (y &&& 31)) :: st)) : GG R nL l D X cl sl n ad E pc lv (.int y :: .int x :: st) := by
  subst hq
  exact fun H locs ls hP hD hS hl => lv_ishr F.x F.b hd (kk H locs ls hP hD hS hl)
theorem h_VI (F : Fr own cc nL D cA X) {ret : FieldType} {v : Int32} (hM : CQ l D cA y bytes maxL ret rm ad E (.ref (ad 0) :: av) v P) (kv : KV y "ThumpEars" bytes maxL (some ret) na) (hw : Cond.methodLink own ix y ∈ TT) (hE : ∃ fs, E 0 = .inr (6, fs)) (hrm : rm.cells = 0 ∧ rm.slots = 0) (hR : rm.frames + 1 ≤ R.frames ∧ 8 + (maxL + 11) + rm.locals ≤ R.locals) (hcs : cl ≤ R.cells ∧ sl ≤ R.slots) (hn : av.length = na) (hst : stk = av.reverse ++ .ref (ad 0) :: st) (hsum : (st.map fun v => v.category).sum ≤ 8) (hd : decode cc pc = .ok (.invokevirtual ix, 3)) (hq : pc + 3 = q)
    (kk : ∀ E' : Nat → va_E, P E' → GG R nL l D X cl sl 235 ad E' q lv (.int v :: st)) : GG R nL l D X cl sl 235 ad E pc lv stk := by
  obtain ⟨post, hM, hp⟩ := hM
  obtain ⟨fs, hE⟩ := hE
  refine g_callVI F hM kv hw hE rfl (by omega) hrm hR hcs hn hst hsum hd hq (fun x E' h => ?_)
  obtain ⟨rfl, h2⟩ := hp x E' h
  exact kk E' h2
theorem h_VL (F : Fr own cc nL D cA X) {v : Int64} (hM : CQL l D cA y bytes maxL rm ad E (.ref (ad 0) :: av) v P) (kv : KV y "ThumpEars" bytes maxL (some .long) na) (hw : Cond.methodLink own ix y ∈ TT) (hE : ∃ fs, E 0 = .inr (6, fs)) (hrm : rm.cells = 0 ∧ rm.slots = 0) (hR : rm.frames + 1 ≤ R.frames ∧ 8 + (maxL + 11) + rm.locals ≤ R.locals) (hcs : cl ≤ R.cells ∧ sl ≤ R.slots) (hn : av.length = na) (hst : stk = av.reverse ++ .ref (ad 0) :: st) (hsum : (st.map fun v => v.category).sum ≤ 8) (hd : decode cc pc = .ok (.invokevirtual ix, 3)) (hq : pc + 3 = q)
    (kk : ∀ E' : Nat → va_E, P E' → GG R nL l D X cl sl 235 ad E' q lv (.long v :: st)) : GG R nL l D X cl sl 235 ad E pc lv stk := by
  obtain ⟨post, hM, hp⟩ := hM
  obtain ⟨fs, hE⟩ := hE
  refine g_callVL F hM kv hw hE rfl (by omega) hrm hR hcs hn hst hsum hd hq (fun x E' h => ?_)
  obtain ⟨rfl, h2⟩ := hp x E' h
  exact kk E' h2
theorem h_SI (F : Fr own cc nL D cA X) {ret : FieldType} {C : String} {v : Int32} (hM : CQ l D cA y bytes maxL ret rm ad E av v P) (kv : KS y C bytes maxL (some ret) na) (hw : Cond.methodLink own ix y ∈ TT) (hrm : rm.cells = 0 ∧ rm.slots = 0) (hR : rm.frames + 1 ≤ R.frames ∧ 8 + (maxL + 11) + rm.locals ≤ R.locals) (hcs : cl ≤ R.cells ∧ sl ≤ R.slots) (hn : av.length = na) (hst : stk = av.reverse ++ st) (hsum : (st.map fun v => v.category).sum ≤ 8) (hd : decode cc pc = .ok (.invokestatic ix, 3)) (hq : pc + 3 = q)
    (kk : ∀ E' : Nat → va_E, P E' → GG R nL l D X cl sl 235 ad E' q lv (.int v :: st)) : GG R nL l D X cl sl 235 ad E pc lv stk := by
  obtain ⟨post, hM, hp⟩ := hM
  refine g_callSI F hM kv hw hrm hR hcs hn hst hsum hd hq (fun x E' h => ?_)
  obtain ⟨rfl, h2⟩ := hp x E' h
  exact kk E' h2
theorem h_SL (F : Fr own cc nL D cA X) {C : String} {v : Int64} (hM : CQL l D cA y bytes maxL rm ad E av v P) (kv : KS y C bytes maxL (some .long) na) (hw : Cond.methodLink own ix y ∈ TT) (hrm : rm.cells = 0 ∧ rm.slots = 0) (hR : rm.frames + 1 ≤ R.frames ∧ 8 + (maxL + 11) + rm.locals ≤ R.locals) (hcs : cl ≤ R.cells ∧ sl ≤ R.slots) (hn : av.length = na) (hst : stk = av.reverse ++ st) (hsum : (st.map fun v => v.category).sum ≤ 8) (hd : decode cc pc = .ok (.invokestatic ix, 3)) (hq : pc + 3 = q)
    (kk : ∀ E' : Nat → va_E, P E' → GG R nL l D X cl sl 235 ad E' q lv (.long v :: st)) : GG R nL l D X cl sl 235 ad E pc lv stk := by
  obtain ⟨post, hM, hp⟩ := hM
  refine g_callSL F hM kv hw hrm hR hcs hn hst hsum hd hq (fun x E' h => ?_)
  obtain ⟨rfl, h2⟩ := hp x E' h
  exact kk E' h2
/-- the contract of a method that only reads the script -/
def CtX (l : Launch) (D : va_G) (cA : Nat → ClassId) (y : MethodName) (bytes : ByteArray) (maxL : Nat) (rm : Room) (b L : Nat) (xs : Nat → Int32) (av : List Value) (v : Int32) : Prop :=
  ∀ sz : Nat, Met l y (.code y bytes maxL (some .int) :: TT) rm (va_Pc av (fun U => U.heap.size = sz ∧ CWp D cA 0 (fun _ => 0) (fun _ => .inl (0, 0, .inl (fun _ => 0))) U ∧ va_X b L xs U U.heap ∧ b < U.heap.size)) (va_Qi (fun x (_ : Unit) => x = v) (fun _ _ => True) (AA 0 (fun _ => 0) sz)) 0 0 (AA 0 (fun _ => 0) sz)
theorem CtX.of {v : Int32} {cc : ByteArray} (hy : plainFor y = true) (hlen : (lg_sl av).length ≤ nL)
    (body : ∀ X : GX, Fr y.cls cc nL D cA X → Sc X b L xs → (∀ (pc : Nat) (lv : List (Nat × Value)), decode cc pc = .ok (.ireturn, 1) → GG rm nL l D X 0 0 0 (fun _ => 0) (fun _ => .inl (0, 0, .inl (fun _ => 0))) pc lv [.int v]) → GG rm nL l D X 0 0 0 (fun _ => 0) (fun _ => .inl (0, 0, .inl (fun _ => 0))) 0 (lv_args 0 av) []) : CtX l D cA y cc nL rm b L xs av v := by
  intro sz
  refine va_MetF (cc := cc) (maxL := nL) (ret := some .int) hy rfl ?_
  intro p e s m args below meth c s₁ B hml hv
  obtain ⟨rfl, hsz, ⟨hP, hK, hD0⟩, hX, hbs⟩ := hv
  subst hsz
  have F : Fr y.cls cc nL D cA (p, e, s, m, av.toArray, below, meth, c, AA 0 (fun _ => 0) s.heap.size, MQ below (va_Qi (fun x (_ : Unit) => x = v) (fun _ _ => True) (AA 0 (fun _ => 0) s.heap.size)) av.toArray s 0 0 (AA 0 (fun _ => 0) s.heap.size)) := ⟨B.exec, B.bytes, hml, findClass_of_methodNamed B.named, hts_of B.pre, hK, fun q h => Or.inr h⟩
  have S : Sc (p, e, s, m, av.toArray, below, meth, c, AA 0 (fun _ => 0) s.heap.size, MQ below (va_Qi (fun x (_ : Unit) => x = v) (fun _ _ => True) (AA 0 (fun _ => 0) s.heap.size)) av.toArray s 0 0 (AA 0 (fun _ => 0) s.heap.size)) b L xs := ⟨hX, hbs, fun h => by
    rcases h with ⟨k, hk, _⟩ | h
    · exact absurd hk (Nat.not_lt_zero _)
    · exact absurd hbs (Nat.not_lt.mpr h)⟩
  have hlocks := B.notSynchronized
  rw [lg_entry_eq]
  refine body _ F S ?_ s.heap [] _ hP (wl_AA hD0) va_S.rf (lv_entry av hlen)
  intro pc lv hd H locs ls hP hD hS hl
  exact W.zret F.x F.b B.returns rfl (fun t ht hW => ⟨⟨v, (), rfl, rfl, trivial⟩, hS.F ht⟩) hS.2.2 hd hlocks
theorem CtX_blind {sz : Nat} : FrameBlind (va_Pc av (fun U => U.heap.size = sz ∧ CWp D cA 0 (fun _ => 0) (fun _ => .inl (0, 0, .inl (fun _ => 0))) U ∧ va_X b L xs U U.heap ∧ b < U.heap.size)) := fun a U g mk q => by
  obtain ⟨q0, q1, ⟨qP, qK, qD⟩, qX, qb⟩ := q
  exact ⟨q0, q1, ⟨qP, va_K.moved (u := U) (U := U.calling g mk a) (Vm.Alike.refl U.vm) qK, qD⟩, va_X.moved (u := U) (U := U.calling g mk a) (Vm.Alike.refl U.vm) qX, qb⟩
theorem h_X (F : Fr own cc nL D cA X) (S : Sc X b L xs) {C : String} {v : Int32} (hM : CtX l D cA y bytes maxL rm b L xs av v) (kv : KS y C bytes maxL (some .int) na) (hw : Cond.methodLink own ix y ∈ TT) (hrm : rm.cells = 0 ∧ rm.slots = 0) (hR : rm.frames + 1 ≤ R.frames ∧ 8 + (maxL + 11) + rm.locals ≤ R.locals) (hcs : cl ≤ R.cells ∧ sl ≤ R.slots) (hn : av.length = na) (hst : stk = av.reverse ++ st) (hsum : (st.map fun v => v.category).sum ≤ 8) (hd : decode cc pc = .ok (.invokestatic ix, 3)) (hq : pc + 3 = q)
    (kk : GG R nL l D X cl sl n ad E q lv (.int v :: st)) : GG R nL l D X cl sl n ad E pc lv stk := by
  subst hq
  subst hst
  intro H locs ls hP hD hS hl
  have hI : ∀ q, AA 0 (fun _ => 0) H.size q → X.2.2.2.2.2.2.2.2.1 q := fun q h => by
    rcases h with ⟨k, hk, _⟩ | h
    · exact absurd hk (Nat.not_lt_zero _)
    · exact F.a q (Nat.le_trans hS.1 h)
  have cw := cwST (R := R) F.t kv hw hR
  rw [hrm.1, hrm.2] at cw
  have hbH : H[b]? = X.2.2.1.heap[b]? := hS.2.1 b S.2.1 S.2.2
  refine va_calli (va_runS ⟨F.x, F.b, F.m, F.o, F.t⟩ (hM H.size) cw ⟨CtX_blind, fun U hU hW => ⟨rfl, by rw [hU], ⟨fun k q h => by simp [wl] at h, va_K.moved hW.alike F.k, ⟨fun i j x y h => by simp [wl] at h, fun k q h => by simp [wl] at h⟩⟩, va_X.moved hW.alike (by rw [hU]; exact va_X.kept S.1 hbH), by rw [hU]; exact Nat.lt_of_lt_of_le S.2.1 hS.1⟩⟩ rfl hn hl.1 rfl (lv_room hsum) hd hcs) hS (fun q _ h => hI q h) hI (fun r u t H1 locs1 ht hvm hw hB hz1 hk1 hS1 => ?_)
  subst hw
  refine kk H1 locs1 ls (fun k q hk => ?_) (wl_D hD) hS1 hl
  have hat := hP k q hk
  exact va_at.kept hat (hk1 q.1 (va_at.lt hat) (fun h => by
    rcases h with ⟨k, hk, _⟩ | h
    · exact absurd hk (Nat.not_lt_zero _)
    · exact absurd (va_at.lt hat) (Nat.not_lt.mpr h)))
theorem CQ.of {ret : FieldType} {v : Int32} (h : CtI l D cA y bytes maxL ret rm 235 ad E av (fun x E' => v = x ∧ P E')) : CQ l D cA y bytes maxL ret rm ad E av v P := ⟨_, h, fun _ _ h => h⟩
theorem CQL.of {v : Int64} (h : CtL l D cA y bytes maxL rm 235 ad E av (fun x E' => v = x ∧ P E')) : CQL l D cA y bytes maxL rm ad E av v P := ⟨_, h, fun _ _ h => h⟩
end GGL
