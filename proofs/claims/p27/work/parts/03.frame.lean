/-! the world: cells 0 .. n-1, ad k the address of cell k, E k what it holds -/
def wl (n : Nat) (ad : Nat → Nat) (E : Nat → va_E) : va_W := (List.range n).map (fun k => (ad k, E k))
theorem wl_get {n : Nat} {ad : Nat → Nat} {E : Nat → va_E} {k : Nat} (h : k < n) : (wl n ad E)[k]? = some (ad k, E k) := by
  simp [wl, h]
theorem wl_is {n : Nat} {ad : Nat → Nat} {E : Nat → va_E} {k : Nat} {q : Nat × va_E} (h : (wl n ad E)[k]? = some q) : k < n ∧ q = (ad k, E k) := by
  by_cases hk : k < n
  · rw [wl_get hk] at h
    exact ⟨hk, (Option.some.inj h).symm⟩
  · rw [List.getElem?_eq_none (by simp [wl]; omega)] at h
    cases h
theorem wl_len {n : Nat} {ad : Nat → Nat} {E : Nat → va_E} : (wl n ad E).length = n := by simp [wl]
theorem wl_set {n : Nat} {ad : Nat → Nat} {E : Nat → va_E} {k : Nat} {e : va_E} (hk : k < n) : (wl n ad E).set k (ad k, e) = wl n ad (va_up E k e) := by
  apply List.ext_getElem?
  intro j
  by_cases hj : j = k
  · subst hj
    rw [List.getElem?_set_self (by rw [wl_len]; exact hk), wl_get hk]
    simp [va_up]
  · rw [List.getElem?_set_ne (Ne.symm hj)]
    by_cases hn : j < n
    · rw [wl_get hn, wl_get hn]
      simp [va_up, hj]
    · rw [List.getElem?_eq_none (by rw [wl_len]; omega), List.getElem?_eq_none (by rw [wl_len]; omega)]
theorem wl_push {n : Nat} {ad : Nat → Nat} {E : Nat → va_E} {q : Nat} {e : va_E} : wl n ad E ++ [(q, e)] = wl (n + 1) (va_up ad n q) (va_up E n e) := by
  apply List.ext_getElem?
  intro j
  by_cases hj : j < n
  · rw [List.getElem?_append_left (by rw [wl_len]; exact hj), wl_get hj, wl_get (by omega)]
    have : j ≠ n := by omega
    simp [va_up, this]
  · rw [List.getElem?_append_right (by rw [wl_len]; omega), wl_len]
    by_cases he : j = n
    · subst he
      rw [wl_get (by omega)]
      simp [va_up]
    · rw [List.getElem?_eq_none (by simp; omega), List.getElem?_eq_none (by rw [wl_len]; omega)]
theorem wl_D {A : Nat → Prop} {n : Nat} {ad : Nat → Nat} {E E' : Nat → va_E} (h : va_D A (wl n ad E)) : va_D A (wl n ad E') := by
  refine ⟨fun i j p q hi hj hpq => ?_, fun k q hk => ?_⟩
  · obtain ⟨h1, rfl⟩ := wl_is hi
    obtain ⟨h2, rfl⟩ := wl_is hj
    exact h.1 i j _ _ (wl_get h1) (wl_get h2) hpq
  · obtain ⟨h1, rfl⟩ := wl_is hk
    exact h.2 k (ad k, E k) (wl_get h1)
/-- what a method may change: its world's cells, and what it makes -/
def AA (n : Nat) (ad : Nat → Nat) (sz : Nat) : Nat → Prop := fun q => (∃ k, k < n ∧ q = ad k) ∨ sz ≤ q
theorem wl_AA {n : Nat} {ad : Nat → Nat} {E : Nat → va_E} {sz : Nat} {A : Nat → Prop} (h : va_D A (wl n ad E)) : va_D (AA n ad sz) (wl n ad E) := by
  refine ⟨h.1, fun k q hk => ?_⟩
  obtain ⟨h1, rfl⟩ := wl_is hk
  exact Or.inl ⟨k, h1, rfl⟩
theorem AA_in {n : Nat} {ad : Nat → Nat} {E : Nat → va_E} {A : Nat → Prop} {H0 H : Heap} {locs : List Loc} (hD : va_D A (wl n ad E)) (hS : va_S A H0 H locs) (hA : ∀ q, H0.size ≤ q → A q) : ∀ q, AA n ad H.size q → A q := by
  intro q h
  rcases h with ⟨k, hk, rfl⟩ | h
  · exact hD.2 k _ (wl_get hk)
  · exact hA q (Nat.le_trans hS.1 h)
/-- the classes of arrays -/
def tyl (cA : Nat → ClassId) : List (ClassId × FieldType) := [(cA 0, .int), (cA 1, .long), (cA 2, .boolean), (cA 3, .char), (cA 4, .object "ThumpEars$State"), (cA 5, .array .int)]
abbrev GX : Type := Program × Env × State × MethodId × Array Value × List Frame × Method × Code × (Nat → Prop) × (State → Prop)
/-- the judgement at a place of a method's code: over any heap that holds the world -/
def GG (R : Room) (nL : Nat) (l : Launch) (D : va_G) (X : GX) (cells slots n : Nat) (ad : Nat → Nat) (E : Nat → va_E) (pc : Nat) (lv : List (Nat × Value)) (st : List Value) : Prop :=
  ∀ (H : Heap) (locs : List Loc) (ls : Array Slot), va_P D vwCl (wl n ad E) H → va_D X.2.2.2.2.2.2.2.2.1 (wl n ad E) → va_S X.2.2.2.2.2.2.2.2.1 X.2.2.1.heap H locs → lv_has ls nL lv →
    W X.1 l X.2.1 R X.2.2.1 X.2.2.2.1 X.2.2.2.2.1 X.2.2.2.2.2.1 X.2.2.2.2.2.2.1 X.2.2.2.2.2.2.2.1 H locs cells slots X.2.2.2.2.2.2.2.2.2 (F0 X.2.2.2.1 pc ls st)
/-- what holds in a whole method: the machine, its code, the tables' words, the classes -/
def Fr (own : String) (cc : ByteArray) (nL : Nat) (D : va_G) (cA : Nat → ClassId) (X : GX) : Prop :=
  X.1.tables.exec = Jvm.exec ∧ X.2.2.2.2.2.2.2.1.code = cc ∧ X.2.2.2.2.2.2.2.1.maxLocals = nL ∧ X.2.2.1.vm.findClass own = some X.2.2.2.1.cls ∧ (∀ w ∈ TT, w.before X.2.2.2.2.1 X.2.2.1 = true) ∧ va_K D vwCl (tyl cA) X.2.2.1 ∧ (∀ q, X.2.2.1.heap.size ≤ q → X.2.2.2.2.2.2.2.2.1 q)
theorem Fr.x {own : String} {cc : ByteArray} {nL : Nat} {D : va_G} {cA : Nat → ClassId} {X : GX} (F : Fr own cc nL D cA X) : X.1.tables.exec = Jvm.exec := F.1
theorem Fr.b {own : String} {cc : ByteArray} {nL : Nat} {D : va_G} {cA : Nat → ClassId} {X : GX} (F : Fr own cc nL D cA X) : X.2.2.2.2.2.2.2.1.code = cc := F.2.1
theorem Fr.m {own : String} {cc : ByteArray} {nL : Nat} {D : va_G} {cA : Nat → ClassId} {X : GX} (F : Fr own cc nL D cA X) : X.2.2.2.2.2.2.2.1.maxLocals = nL := F.2.2.1
theorem Fr.o {own : String} {cc : ByteArray} {nL : Nat} {D : va_G} {cA : Nat → ClassId} {X : GX} (F : Fr own cc nL D cA X) : X.2.2.1.vm.findClass own = some X.2.2.2.1.cls := F.2.2.2.1
theorem Fr.t {own : String} {cc : ByteArray} {nL : Nat} {D : va_G} {cA : Nat → ClassId} {X : GX} (F : Fr own cc nL D cA X) : ∀ w ∈ TT, w.before X.2.2.2.2.1 X.2.2.1 = true := F.2.2.2.2.1
theorem Fr.k {own : String} {cc : ByteArray} {nL : Nat} {D : va_G} {cA : Nat → ClassId} {X : GX} (F : Fr own cc nL D cA X) : va_K D vwCl (tyl cA) X.2.2.1 := F.2.2.2.2.2.1
theorem Fr.a {own : String} {cc : ByteArray} {nL : Nat} {D : va_G} {cA : Nat → ClassId} {X : GX} (F : Fr own cc nL D cA X) : ∀ q, X.2.2.1.heap.size ≤ q → X.2.2.2.2.2.2.2.2.1 q := F.2.2.2.2.2.2
theorem nI_c {j : Nat} (h : j < 2 ^ 31) : (nI j).toNatClampNeg = j := nI_clamp h
section GGR
variable {R : Room} {nL : Nat} {l : Launch} {D : va_G} {X : GX} {cl sl n : Nat} {ad : Nat → Nat} {E : Nat → va_E} {pc q : Nat} {lv : List (Nat × Value)} {st : List Value} {own : String} {cc : ByteArray} {cA : Nat → ClassId}
theorem g_lv {lv' : List (Nat × Value)} (ks : List Nat) (h : lv_pick lv ks = lv') (kk : GG R nL l D X cl sl n ad E pc lv' st) : GG R nL l D X cl sl n ad E pc lv st :=
  fun H locs ls hP hD hS hl => kk H locs ls hP hD hS (lv_sub hl ks h)
theorem g_topi {x : Int32} (kk : ∀ y : Int32, y = x → GG R nL l D X cl sl n ad E pc lv (.int y :: st)) : GG R nL l D X cl sl n ad E pc lv (.int x :: st) := kk x rfl
theorem g_topl {x : Int64} (kk : ∀ y : Int64, y = x → GG R nL l D X cl sl n ad E pc lv (.long y :: st)) : GG R nL l D X cl sl n ad E pc lv (.long x :: st) := kk x rfl
theorem g_sti {x y : Int32} (h : x = y) (kk : GG R nL l D X cl sl n ad E pc lv (.int y :: st)) : GG R nL l D X cl sl n ad E pc lv (.int x :: st) := by rw [h]; exact kk
theorem g_stl {x y : Int64} (h : x = y) (kk : GG R nL l D X cl sl n ad E pc lv (.long y :: st)) : GG R nL l D X cl sl n ad E pc lv (.long x :: st) := by rw [h]; exact kk
theorem g_wid {a b : Nat} (h1 : cl ≤ a) (h2 : sl ≤ b) (kk : GG R nL l D X a b n ad E pc lv st) : GG R nL l D X cl sl n ad E pc lv st := fun H locs ls hP hD hS hl => W.widen h1 h2 (kk H locs ls hP hD hS hl)
theorem g_iload_n (F : Fr own cc nL D cA X) {k0 : Fin 4} {i : Nat} {x : Int32} (hd : decode cc pc = .ok (.iload_n k0, 1)) (hq : pc + 1 = q) (hi : (k0 : Nat) = i) (k : Nat) (hk : lv[k]? = some (i, .int x)) (kk : GG R nL l D X cl sl n ad E q lv (.int x :: st)) : GG R nL l D X cl sl n ad E pc lv (st) := by
  subst hq
  exact fun H locs ls hP hD hS hl => lv_iload_n F.x F.b hd hi (lv_at hl k hk) (kk H locs ls hP hD hS hl)
theorem g_iload (F : Fr own cc nL D cA X) {i : Nat} {x : Int32} (hd : decode cc pc = .ok (.iload i, 2)) (hq : pc + 2 = q) (k : Nat) (hk : lv[k]? = some (i, .int x)) (kk : GG R nL l D X cl sl n ad E q lv (.int x :: st)) : GG R nL l D X cl sl n ad E pc lv (st) := by
  subst hq
  exact fun H locs ls hP hD hS hl => lv_iload F.x F.b hd (lv_at hl k hk) (kk H locs ls hP hD hS hl)
theorem g_istore_n (F : Fr own cc nL D cA X) {k0 : Fin 4} {i : Nat} {x : Int32} {lv' : List (Nat × Value)} (hd : decode cc pc = .ok (.istore_n k0, 1)) (hq : pc + 1 = q) (hi : (k0 : Nat) = i) (hn : i < nL) (hv : (i, Value.int x) :: lv.filter (fun q => !(q.1 == i) && !(q.1 + 1 == i && q.2.category == 2)) = lv') (kk : GG R nL l D X cl sl n ad E q lv' st) : GG R nL l D X cl sl n ad E pc lv (.int x :: st) := by
  subst hq
  exact fun H locs ls hP hD hS hl => lv_istore_n F.x F.b hd hi hl hn hv (fun ls' hl' => kk H locs ls' hP hD hS hl')
theorem g_istore (F : Fr own cc nL D cA X) {i : Nat} {x : Int32} {lv' : List (Nat × Value)} (hd : decode cc pc = .ok (.istore i, 2)) (hq : pc + 2 = q) (hn : i < nL) (hv : (i, Value.int x) :: lv.filter (fun q => !(q.1 == i) && !(q.1 + 1 == i && q.2.category == 2)) = lv') (kk : GG R nL l D X cl sl n ad E q lv' st) : GG R nL l D X cl sl n ad E pc lv (.int x :: st) := by
  subst hq
  exact fun H locs ls hP hD hS hl => lv_istore F.x F.b hd hl hn hv (fun ls' hl' => kk H locs ls' hP hD hS hl')
theorem g_lload_n (F : Fr own cc nL D cA X) {k0 : Fin 4} {i : Nat} {x : Int64} (hd : decode cc pc = .ok (.lload_n k0, 1)) (hq : pc + 1 = q) (hi : (k0 : Nat) = i) (k : Nat) (hk : lv[k]? = some (i, .long x)) (kk : GG R nL l D X cl sl n ad E q lv (.long x :: st)) : GG R nL l D X cl sl n ad E pc lv (st) := by
  subst hq
  exact fun H locs ls hP hD hS hl => lv_lload_n F.x F.b hd hi (lv_at hl k hk) (kk H locs ls hP hD hS hl)
theorem g_lload (F : Fr own cc nL D cA X) {i : Nat} {x : Int64} (hd : decode cc pc = .ok (.lload i, 2)) (hq : pc + 2 = q) (k : Nat) (hk : lv[k]? = some (i, .long x)) (kk : GG R nL l D X cl sl n ad E q lv (.long x :: st)) : GG R nL l D X cl sl n ad E pc lv (st) := by
  subst hq
  exact fun H locs ls hP hD hS hl => lv_lload F.x F.b hd (lv_at hl k hk) (kk H locs ls hP hD hS hl)
theorem g_lstore_n (F : Fr own cc nL D cA X) {k0 : Fin 4} {i : Nat} {x : Int64} {lv' : List (Nat × Value)} (hd : decode cc pc = .ok (.lstore_n k0, 1)) (hq : pc + 1 = q) (hi : (k0 : Nat) = i) (hn : i + 1 < nL) (hv : (i, Value.long x) :: lv.filter (fun q => !(q.1 == i) && (!(q.1 == i + 1) && !(q.1 + 1 == i && q.2.category == 2))) = lv') (kk : GG R nL l D X cl sl n ad E q lv' st) : GG R nL l D X cl sl n ad E pc lv (.long x :: st) := by
  subst hq
  exact fun H locs ls hP hD hS hl => lv_lstore_n F.x F.b hd hi hl hn hv (fun ls' hl' => kk H locs ls' hP hD hS hl')
theorem g_lstore (F : Fr own cc nL D cA X) {i : Nat} {x : Int64} {lv' : List (Nat × Value)} (hd : decode cc pc = .ok (.lstore i, 2)) (hq : pc + 2 = q) (hn : i + 1 < nL) (hv : (i, Value.long x) :: lv.filter (fun q => !(q.1 == i) && (!(q.1 == i + 1) && !(q.1 + 1 == i && q.2.category == 2))) = lv') (kk : GG R nL l D X cl sl n ad E q lv' st) : GG R nL l D X cl sl n ad E pc lv (.long x :: st) := by
  subst hq
  exact fun H locs ls hP hD hS hl => lv_lstore F.x F.b hd hl hn hv (fun ls' hl' => kk H locs ls' hP hD hS hl')
theorem g_aload_n (F : Fr own cc nL D cA X) {k0 : Fin 4} {i : Nat} {x : Nat} (hd : decode cc pc = .ok (.aload_n k0, 1)) (hq : pc + 1 = q) (hi : (k0 : Nat) = i) (k : Nat) (hk : lv[k]? = some (i, .ref x)) (kk : GG R nL l D X cl sl n ad E q lv (.ref x :: st)) : GG R nL l D X cl sl n ad E pc lv (st) := by
  subst hq
  exact fun H locs ls hP hD hS hl => lv_aload_n F.x F.b hd hi (lv_at hl k hk) (kk H locs ls hP hD hS hl)
theorem g_aload (F : Fr own cc nL D cA X) {i : Nat} {x : Nat} (hd : decode cc pc = .ok (.aload i, 2)) (hq : pc + 2 = q) (k : Nat) (hk : lv[k]? = some (i, .ref x)) (kk : GG R nL l D X cl sl n ad E q lv (.ref x :: st)) : GG R nL l D X cl sl n ad E pc lv (st) := by
  subst hq
  exact fun H locs ls hP hD hS hl => lv_aload F.x F.b hd (lv_at hl k hk) (kk H locs ls hP hD hS hl)
theorem g_astore_n (F : Fr own cc nL D cA X) {k0 : Fin 4} {i : Nat} {x : Nat} {lv' : List (Nat × Value)} (hd : decode cc pc = .ok (.astore_n k0, 1)) (hq : pc + 1 = q) (hi : (k0 : Nat) = i) (hn : i < nL) (hv : (i, Value.ref x) :: lv.filter (fun q => !(q.1 == i) && !(q.1 + 1 == i && q.2.category == 2)) = lv') (kk : GG R nL l D X cl sl n ad E q lv' st) : GG R nL l D X cl sl n ad E pc lv (.ref x :: st) := by
  subst hq
  exact fun H locs ls hP hD hS hl => lv_astore_n F.x F.b hd hi hl hn hv (fun ls' hl' => kk H locs ls' hP hD hS hl')
theorem g_astore (F : Fr own cc nL D cA X) {i : Nat} {x : Nat} {lv' : List (Nat × Value)} (hd : decode cc pc = .ok (.astore i, 2)) (hq : pc + 2 = q) (hn : i < nL) (hv : (i, Value.ref x) :: lv.filter (fun q => !(q.1 == i) && !(q.1 + 1 == i && q.2.category == 2)) = lv') (kk : GG R nL l D X cl sl n ad E q lv' st) : GG R nL l D X cl sl n ad E pc lv (.ref x :: st) := by
  subst hq
  exact fun H locs ls hP hD hS hl => lv_astore F.x F.b hd hl hn hv (fun ls' hl' => kk H locs ls' hP hD hS hl')
theorem g_iinc (F : Fr own cc nL D cA X) {i : Nat} {d : Int} {x v : Int32} {lv' : List (Nat × Value)} (hd : decode cc pc = .ok (.iinc i d, 3)) (hq : pc + 3 = q) (k : Nat) (hk : lv[k]? = some (i, .int x)) (hx : x + Int32.ofInt d = v) (hn : i < nL) (hv : (i, Value.int v) :: lv.filter (fun q => !(q.1 == i) && !(q.1 + 1 == i && q.2.category == 2)) = lv') (kk : GG R nL l D X cl sl n ad E q lv' st) : GG R nL l D X cl sl n ad E pc lv st := by
  subst hq
  exact fun H locs ls hP hD hS hl => lv_iinc F.x F.b hd hl hk hx hn hv (fun ls' hl' => kk H locs ls' hP hD hS hl')
theorem g_iconst (F : Fr own cc nL D cA X) {i : Int} {v : Int32} (hd : decode cc pc = .ok (.iconst i, 1)) (hq : pc + 1 = q) (hv : Int32.ofInt i = v) (kk : GG R nL l D X cl sl n ad E q lv (.int v :: st)) : GG R nL l D X cl sl n ad E pc lv (st) := by
  subst hq
  exact fun H locs ls hP hD hS hl => lv_iconst F.x F.b hd hv (kk H locs ls hP hD hS hl)
theorem g_bipush (F : Fr own cc nL D cA X) {i : Int} {v : Int32} (hd : decode cc pc = .ok (.bipush i, 2)) (hq : pc + 2 = q) (hv : (Int8.ofInt i).toInt32 = v) (kk : GG R nL l D X cl sl n ad E q lv (.int v :: st)) : GG R nL l D X cl sl n ad E pc lv (st) := by
  subst hq
  exact fun H locs ls hP hD hS hl => lv_bipush F.x F.b hd hv (kk H locs ls hP hD hS hl)
theorem g_sipush (F : Fr own cc nL D cA X) {i : Int} {v : Int32} (hd : decode cc pc = .ok (.sipush i, 3)) (hq : pc + 3 = q) (hv : (Int16.ofInt i).toInt32 = v) (kk : GG R nL l D X cl sl n ad E q lv (.int v :: st)) : GG R nL l D X cl sl n ad E pc lv (st) := by
  subst hq
  exact fun H locs ls hP hD hS hl => lv_sipush F.x F.b hd hv (kk H locs ls hP hD hS hl)
theorem g_lconst (F : Fr own cc nL D cA X) {i : Fin 2} {v : Int64} (hd : decode cc pc = .ok (.lconst i, 1)) (hq : pc + 1 = q) (hv : Int64.ofNat (i : Nat) = v) (kk : GG R nL l D X cl sl n ad E q lv (.long v :: st)) : GG R nL l D X cl sl n ad E pc lv (st) := by
  subst hq
  exact fun H locs ls hP hD hS hl => lv_lconst F.x F.b hd hv (kk H locs ls hP hD hS hl)
theorem g_ldc (F : Fr own cc nL D cA X) {ix : Nat} {v : Int32} (hd : decode cc pc = .ok (.ldc ix, 2)) (hq : pc + 2 = q) (hw : Jvm.Cond.constant own ix v ∈ TT) (kk : GG R nL l D X cl sl n ad E q lv (.int v :: st)) : GG R nL l D X cl sl n ad E pc lv (st) := by
  subst hq
  exact fun H locs ls hP hD hS hl => lv_ldc F.x F.b F.o (F.t _ hw) hd (kk H locs ls hP hD hS hl)
theorem g_ldc2 (F : Fr own cc nL D cA X) {ix : Nat} {v : Int64} (hd : decode cc pc = .ok (.ldc2_w ix, 3)) (hq : pc + 3 = q) (hw : Jvm.Cond.constantLong own ix v ∈ TT) (kk : GG R nL l D X cl sl n ad E q lv (.long v :: st)) : GG R nL l D X cl sl n ad E pc lv (st) := by
  subst hq
  exact fun H locs ls hP hD hS hl => lv_ldc2 F.x F.b F.o (F.t _ hw) hd (kk H locs ls hP hD hS hl)
theorem g_iadd (F : Fr own cc nL D cA X) {x y : Int32} (hd : decode cc pc = .ok (.iadd, 1)) (hq : pc + 1 = q) (kk : GG R nL l D X cl sl n ad E q lv (.int (x + y) :: st)) : GG R nL l D X cl sl n ad E pc lv (.int y :: .int x :: st) := by
  subst hq
  exact fun H locs ls hP hD hS hl => lv_iadd F.x F.b hd (kk H locs ls hP hD hS hl)
theorem g_isub (F : Fr own cc nL D cA X) {x y : Int32} (hd : decode cc pc = .ok (.isub, 1)) (hq : pc + 1 = q) (kk : GG R nL l D X cl sl n ad E q lv (.int (x - y) :: st)) : GG R nL l D X cl sl n ad E pc lv (.int y :: .int x :: st) := by
  subst hq
  exact fun H locs ls hP hD hS hl => lv_isub F.x F.b hd (kk H locs ls hP hD hS hl)
theorem g_imul (F : Fr own cc nL D cA X) {x y : Int32} (hd : decode cc pc = .ok (.imul, 1)) (hq : pc + 1 = q) (kk : GG R nL l D X cl sl n ad E q lv (.int (x * y) :: st)) : GG R nL l D X cl sl n ad E pc lv (.int y :: .int x :: st) := by
  subst hq
  exact fun H locs ls hP hD hS hl => lv_imul F.x F.b hd (kk H locs ls hP hD hS hl)
theorem g_iand (F : Fr own cc nL D cA X) {x y : Int32} (hd : decode cc pc = .ok (.iand, 1)) (hq : pc + 1 = q) (kk : GG R nL l D X cl sl n ad E q lv (.int (x &&& y) :: st)) : GG R nL l D X cl sl n ad E pc lv (.int y :: .int x :: st) := by
  subst hq
  exact fun H locs ls hP hD hS hl => lv_iand F.x F.b hd (kk H locs ls hP hD hS hl)
theorem g_ixor (F : Fr own cc nL D cA X) {x y : Int32} (hd : decode cc pc = .ok (.ixor, 1)) (hq : pc + 1 = q) (kk : GG R nL l D X cl sl n ad E q lv (.int (x ^^^ y) :: st)) : GG R nL l D X cl sl n ad E pc lv (.int y :: .int x :: st) := by
  subst hq
  exact fun H locs ls hP hD hS hl => lv_ixor F.x F.b hd (kk H locs ls hP hD hS hl)
theorem g_ladd (F : Fr own cc nL D cA X) {x y : Int64} (hd : decode cc pc = .ok (.ladd, 1)) (hq : pc + 1 = q) (kk : GG R nL l D X cl sl n ad E q lv (.long (x + y) :: st)) : GG R nL l D X cl sl n ad E pc lv (.long y :: .long x :: st) := by
  subst hq
  exact fun H locs ls hP hD hS hl => lv_ladd F.x F.b hd (kk H locs ls hP hD hS hl)
theorem g_lsub (F : Fr own cc nL D cA X) {x y : Int64} (hd : decode cc pc = .ok (.lsub, 1)) (hq : pc + 1 = q) (kk : GG R nL l D X cl sl n ad E q lv (.long (x - y) :: st)) : GG R nL l D X cl sl n ad E pc lv (.long y :: .long x :: st) := by
  subst hq
  exact fun H locs ls hP hD hS hl => lv_lsub F.x F.b hd (kk H locs ls hP hD hS hl)
theorem g_lmul (F : Fr own cc nL D cA X) {x y : Int64} (hd : decode cc pc = .ok (.lmul, 1)) (hq : pc + 1 = q) (kk : GG R nL l D X cl sl n ad E q lv (.long (x * y) :: st)) : GG R nL l D X cl sl n ad E pc lv (.long y :: .long x :: st) := by
  subst hq
  exact fun H locs ls hP hD hS hl => lv_lmul F.x F.b hd (kk H locs ls hP hD hS hl)
theorem g_lxor (F : Fr own cc nL D cA X) {x y : Int64} (hd : decode cc pc = .ok (.lxor, 1)) (hq : pc + 1 = q) (kk : GG R nL l D X cl sl n ad E q lv (.long (x ^^^ y) :: st)) : GG R nL l D X cl sl n ad E pc lv (.long y :: .long x :: st) := by
  subst hq
  exact fun H locs ls hP hD hS hl => lv_lxor F.x F.b hd (kk H locs ls hP hD hS hl)
theorem g_idiv (F : Fr own cc nL D cA X) {x y : Int32} (hd : decode cc pc = .ok (.idiv, 1)) (hq : pc + 1 = q) (hz : ¬ y = 0) (kk : GG R nL l D X cl sl n ad E q lv (.int (x / y) :: st)) : GG R nL l D X cl sl n ad E pc lv (.int y :: .int x :: st) := by
  subst hq
  exact fun H locs ls hP hD hS hl => lv_idiv F.x F.b hd hz (kk H locs ls hP hD hS hl)
theorem g_ldiv (F : Fr own cc nL D cA X) {x y : Int64} (hd : decode cc pc = .ok (.ldiv, 1)) (hq : pc + 1 = q) (hz : ¬ y = 0) (kk : GG R nL l D X cl sl n ad E q lv (.long (x / y) :: st)) : GG R nL l D X cl sl n ad E pc lv (.long y :: .long x :: st) := by
  subst hq
  exact fun H locs ls hP hD hS hl => lv_ldiv F.x F.b hd hz (kk H locs ls hP hD hS hl)
theorem g_ineg (F : Fr own cc nL D cA X) {x : Int32} (hd : decode cc pc = .ok (.ineg, 1)) (hq : pc + 1 = q) (kk : GG R nL l D X cl sl n ad E q lv (.int (-x) :: st)) : GG R nL l D X cl sl n ad E pc lv (.int x :: st) := by
  subst hq
  exact fun H locs ls hP hD hS hl => lv_ineg F.x F.b hd (kk H locs ls hP hD hS hl)
theorem g_lneg (F : Fr own cc nL D cA X) {x : Int64} (hd : decode cc pc = .ok (.lneg, 1)) (hq : pc + 1 = q) (kk : GG R nL l D X cl sl n ad E q lv (.long (-x) :: st)) : GG R nL l D X cl sl n ad E pc lv (.long x :: st) := by
  subst hq
  exact fun H locs ls hP hD hS hl => lv_lneg F.x F.b hd (kk H locs ls hP hD hS hl)
theorem g_i2l (F : Fr own cc nL D cA X) {x : Int32} (hd : decode cc pc = .ok (.i2l, 1)) (hq : pc + 1 = q) (kk : GG R nL l D X cl sl n ad E q lv (.long x.toInt64 :: st)) : GG R nL l D X cl sl n ad E pc lv (.int x :: st) := by
  subst hq
  exact fun H locs ls hP hD hS hl => lv_i2l F.x F.b hd rfl (kk H locs ls hP hD hS hl)
theorem g_l2i (F : Fr own cc nL D cA X) {x : Int64} (hd : decode cc pc = .ok (.l2i, 1)) (hq : pc + 1 = q) (kk : GG R nL l D X cl sl n ad E q lv (.int x.toInt32 :: st)) : GG R nL l D X cl sl n ad E pc lv (.long x :: st) := by
  subst hq
  exact fun H locs ls hP hD hS hl => lv_l2i F.x F.b hd rfl (kk H locs ls hP hD hS hl)
theorem g_i2c (F : Fr own cc nL D cA X) {x : Int32} (hd : decode cc pc = .ok (.i2c, 1)) (hq : pc + 1 = q) (kk : GG R nL l D X cl sl n ad E q lv (.int (x.toUInt32 % 65536).toInt32 :: st)) : GG R nL l D X cl sl n ad E pc lv (.int x :: st) := by
  subst hq
  exact fun H locs ls hP hD hS hl => lv_i2c F.x F.b hd rfl (kk H locs ls hP hD hS hl)
theorem g_dup (F : Fr own cc nL D cA X) {va : Value} (hd : decode cc pc = .ok (.dup, 1)) (hq : pc + 1 = q) (hva : va.category = 1) (kk : GG R nL l D X cl sl n ad E q lv (va :: va :: st)) : GG R nL l D X cl sl n ad E pc lv (va :: st) := by
  subst hq
  exact fun H locs ls hP hD hS hl => lv_dup F.x F.b hd hva (kk H locs ls hP hD hS hl)
theorem g_pop (F : Fr own cc nL D cA X) {va : Value} (hd : decode cc pc = .ok (.pop, 1)) (hq : pc + 1 = q) (hva : va.category = 1) (kk : GG R nL l D X cl sl n ad E q lv (st)) : GG R nL l D X cl sl n ad E pc lv (va :: st) := by
  subst hq
  exact fun H locs ls hP hD hS hl => lv_pop F.x F.b hd hva (kk H locs ls hP hD hS hl)
theorem g_dup2 (F : Fr own cc nL D cA X) {va vb : Value} (hd : decode cc pc = .ok (.dup2, 1)) (hq : pc + 1 = q) (hva : va.category = 1) (hvb : vb.category = 1) (kk : GG R nL l D X cl sl n ad E q lv (va :: vb :: va :: vb :: st)) : GG R nL l D X cl sl n ad E pc lv (va :: vb :: st) := by
  subst hq
  exact fun H locs ls hP hD hS hl => lv_dup2_11 F.x F.b hd hva hvb (kk H locs ls hP hD hS hl)
theorem g_if_eq (F : Fr own cc nL D cA X) {x : Int32} {off : Int} {tgt : Nat} (hd : decode cc pc = .ok (.ifCond .eq off, 3)) (ht : (pc : Int) + off = (tgt : Int)) (hq : pc + 3 = q) (kt : x = 0 → GG R nL l D X cl sl n ad E tgt lv st) (kf : ¬ x = 0 → GG R nL l D X cl sl n ad E q lv st) : GG R nL l D X cl sl n ad E pc lv (.int x :: st) := by
  subst hq
  exact fun H locs ls hP hD hS hl => lv_if_eq F.x F.b hd ht (fun h => kt h H locs ls hP hD hS hl) (fun h => kf h H locs ls hP hD hS hl)
theorem g_icmp_eq (F : Fr own cc nL D cA X) {x y : Int32} {off : Int} {tgt : Nat} (hd : decode cc pc = .ok (.if_icmp .eq off, 3)) (ht : (pc : Int) + off = (tgt : Int)) (hq : pc + 3 = q) (kt : x = y → GG R nL l D X cl sl n ad E tgt lv st) (kf : ¬ x = y → GG R nL l D X cl sl n ad E q lv st) : GG R nL l D X cl sl n ad E pc lv (.int y :: .int x :: st) := by
  subst hq
  exact fun H locs ls hP hD hS hl => lv_icmp_eq F.x F.b hd ht (fun h => kt h H locs ls hP hD hS hl) (fun h => kf h H locs ls hP hD hS hl)
theorem g_lcmp_eq (F : Fr own cc nL D cA X) {x y : Int64} {off : Int} {tgt : Nat} (hd0 : decode cc pc = .ok (.lcmp, 1)) (hd : decode cc (pc + 1) = .ok (.ifCond .eq off, 3)) (ht : ((pc + 1 : Nat) : Int) + off = (tgt : Int)) (hq : pc + 4 = q) (kt : x = y → GG R nL l D X cl sl n ad E tgt lv st) (kf : ¬ x = y → GG R nL l D X cl sl n ad E q lv st) : GG R nL l D X cl sl n ad E pc lv (.long y :: .long x :: st) := by
  subst hq
  exact fun H locs ls hP hD hS hl => W.lcmp F.x F.b hd0 (lv_if_eq F.x F.b hd ht (fun h => kt ((lg_cmp_eq x y).mp h) H locs ls hP hD hS hl) (fun h => kf (fun e => h ((lg_cmp_eq x y).mpr e)) H locs ls hP hD hS hl))
theorem g_if_ne (F : Fr own cc nL D cA X) {x : Int32} {off : Int} {tgt : Nat} (hd : decode cc pc = .ok (.ifCond .ne off, 3)) (ht : (pc : Int) + off = (tgt : Int)) (hq : pc + 3 = q) (kt : ¬ x = 0 → GG R nL l D X cl sl n ad E tgt lv st) (kf : x = 0 → GG R nL l D X cl sl n ad E q lv st) : GG R nL l D X cl sl n ad E pc lv (.int x :: st) := by
  subst hq
  exact fun H locs ls hP hD hS hl => lv_if_ne F.x F.b hd ht (fun h => kt h H locs ls hP hD hS hl) (fun h => kf h H locs ls hP hD hS hl)
theorem g_icmp_ne (F : Fr own cc nL D cA X) {x y : Int32} {off : Int} {tgt : Nat} (hd : decode cc pc = .ok (.if_icmp .ne off, 3)) (ht : (pc : Int) + off = (tgt : Int)) (hq : pc + 3 = q) (kt : ¬ x = y → GG R nL l D X cl sl n ad E tgt lv st) (kf : x = y → GG R nL l D X cl sl n ad E q lv st) : GG R nL l D X cl sl n ad E pc lv (.int y :: .int x :: st) := by
  subst hq
  exact fun H locs ls hP hD hS hl => lv_icmp_ne F.x F.b hd ht (fun h => kt h H locs ls hP hD hS hl) (fun h => kf h H locs ls hP hD hS hl)
theorem g_lcmp_ne (F : Fr own cc nL D cA X) {x y : Int64} {off : Int} {tgt : Nat} (hd0 : decode cc pc = .ok (.lcmp, 1)) (hd : decode cc (pc + 1) = .ok (.ifCond .ne off, 3)) (ht : ((pc + 1 : Nat) : Int) + off = (tgt : Int)) (hq : pc + 4 = q) (kt : ¬ x = y → GG R nL l D X cl sl n ad E tgt lv st) (kf : x = y → GG R nL l D X cl sl n ad E q lv st) : GG R nL l D X cl sl n ad E pc lv (.long y :: .long x :: st) := by
  subst hq
  exact fun H locs ls hP hD hS hl => W.lcmp F.x F.b hd0 (lv_if_ne F.x F.b hd ht (fun h => kt (fun e => h ((lg_cmp_eq x y).mpr e)) H locs ls hP hD hS hl) (fun h => kf ((lg_cmp_eq x y).mp h) H locs ls hP hD hS hl))
theorem g_if_lt (F : Fr own cc nL D cA X) {x : Int32} {off : Int} {tgt : Nat} (hd : decode cc pc = .ok (.ifCond .lt off, 3)) (ht : (pc : Int) + off = (tgt : Int)) (hq : pc + 3 = q) (kt : x < 0 → GG R nL l D X cl sl n ad E tgt lv st) (kf : ¬ x < 0 → GG R nL l D X cl sl n ad E q lv st) : GG R nL l D X cl sl n ad E pc lv (.int x :: st) := by
  subst hq
  exact fun H locs ls hP hD hS hl => lv_if_lt F.x F.b hd ht (fun h => kt h H locs ls hP hD hS hl) (fun h => kf h H locs ls hP hD hS hl)
theorem g_icmp_lt (F : Fr own cc nL D cA X) {x y : Int32} {off : Int} {tgt : Nat} (hd : decode cc pc = .ok (.if_icmp .lt off, 3)) (ht : (pc : Int) + off = (tgt : Int)) (hq : pc + 3 = q) (kt : x < y → GG R nL l D X cl sl n ad E tgt lv st) (kf : ¬ x < y → GG R nL l D X cl sl n ad E q lv st) : GG R nL l D X cl sl n ad E pc lv (.int y :: .int x :: st) := by
  subst hq
  exact fun H locs ls hP hD hS hl => lv_icmp_lt F.x F.b hd ht (fun h => kt h H locs ls hP hD hS hl) (fun h => kf h H locs ls hP hD hS hl)
theorem g_lcmp_lt (F : Fr own cc nL D cA X) {x y : Int64} {off : Int} {tgt : Nat} (hd0 : decode cc pc = .ok (.lcmp, 1)) (hd : decode cc (pc + 1) = .ok (.ifCond .lt off, 3)) (ht : ((pc + 1 : Nat) : Int) + off = (tgt : Int)) (hq : pc + 4 = q) (kt : x < y → GG R nL l D X cl sl n ad E tgt lv st) (kf : ¬ x < y → GG R nL l D X cl sl n ad E q lv st) : GG R nL l D X cl sl n ad E pc lv (.long y :: .long x :: st) := by
  subst hq
  exact fun H locs ls hP hD hS hl => W.lcmp F.x F.b hd0 (lv_if_lt F.x F.b hd ht (fun h => kt ((lg_cmp_lt x y).mp h) H locs ls hP hD hS hl) (fun h => kf (fun e => h ((lg_cmp_lt x y).mpr e)) H locs ls hP hD hS hl))
theorem g_if_ge (F : Fr own cc nL D cA X) {x : Int32} {off : Int} {tgt : Nat} (hd : decode cc pc = .ok (.ifCond .ge off, 3)) (ht : (pc : Int) + off = (tgt : Int)) (hq : pc + 3 = q) (kt : 0 ≤ x → GG R nL l D X cl sl n ad E tgt lv st) (kf : ¬ 0 ≤ x → GG R nL l D X cl sl n ad E q lv st) : GG R nL l D X cl sl n ad E pc lv (.int x :: st) := by
  subst hq
  exact fun H locs ls hP hD hS hl => lv_if_ge F.x F.b hd ht (fun h => kt h H locs ls hP hD hS hl) (fun h => kf h H locs ls hP hD hS hl)
theorem g_icmp_ge (F : Fr own cc nL D cA X) {x y : Int32} {off : Int} {tgt : Nat} (hd : decode cc pc = .ok (.if_icmp .ge off, 3)) (ht : (pc : Int) + off = (tgt : Int)) (hq : pc + 3 = q) (kt : y ≤ x → GG R nL l D X cl sl n ad E tgt lv st) (kf : ¬ y ≤ x → GG R nL l D X cl sl n ad E q lv st) : GG R nL l D X cl sl n ad E pc lv (.int y :: .int x :: st) := by
  subst hq
  exact fun H locs ls hP hD hS hl => lv_icmp_ge F.x F.b hd ht (fun h => kt h H locs ls hP hD hS hl) (fun h => kf h H locs ls hP hD hS hl)
theorem g_lcmp_ge (F : Fr own cc nL D cA X) {x y : Int64} {off : Int} {tgt : Nat} (hd0 : decode cc pc = .ok (.lcmp, 1)) (hd : decode cc (pc + 1) = .ok (.ifCond .ge off, 3)) (ht : ((pc + 1 : Nat) : Int) + off = (tgt : Int)) (hq : pc + 4 = q) (kt : y ≤ x → GG R nL l D X cl sl n ad E tgt lv st) (kf : ¬ y ≤ x → GG R nL l D X cl sl n ad E q lv st) : GG R nL l D X cl sl n ad E pc lv (.long y :: .long x :: st) := by
  subst hq
  exact fun H locs ls hP hD hS hl => W.lcmp F.x F.b hd0 (lv_if_ge F.x F.b hd ht (fun h => kt ((lg_cmp_ge x y).mp h) H locs ls hP hD hS hl) (fun h => kf (fun e => h ((lg_cmp_ge x y).mpr e)) H locs ls hP hD hS hl))
theorem g_if_gt (F : Fr own cc nL D cA X) {x : Int32} {off : Int} {tgt : Nat} (hd : decode cc pc = .ok (.ifCond .gt off, 3)) (ht : (pc : Int) + off = (tgt : Int)) (hq : pc + 3 = q) (kt : 0 < x → GG R nL l D X cl sl n ad E tgt lv st) (kf : ¬ 0 < x → GG R nL l D X cl sl n ad E q lv st) : GG R nL l D X cl sl n ad E pc lv (.int x :: st) := by
  subst hq
  exact fun H locs ls hP hD hS hl => lv_if_gt F.x F.b hd ht (fun h => kt h H locs ls hP hD hS hl) (fun h => kf h H locs ls hP hD hS hl)
theorem g_icmp_gt (F : Fr own cc nL D cA X) {x y : Int32} {off : Int} {tgt : Nat} (hd : decode cc pc = .ok (.if_icmp .gt off, 3)) (ht : (pc : Int) + off = (tgt : Int)) (hq : pc + 3 = q) (kt : y < x → GG R nL l D X cl sl n ad E tgt lv st) (kf : ¬ y < x → GG R nL l D X cl sl n ad E q lv st) : GG R nL l D X cl sl n ad E pc lv (.int y :: .int x :: st) := by
  subst hq
  exact fun H locs ls hP hD hS hl => lv_icmp_gt F.x F.b hd ht (fun h => kt h H locs ls hP hD hS hl) (fun h => kf h H locs ls hP hD hS hl)
theorem g_lcmp_gt (F : Fr own cc nL D cA X) {x y : Int64} {off : Int} {tgt : Nat} (hd0 : decode cc pc = .ok (.lcmp, 1)) (hd : decode cc (pc + 1) = .ok (.ifCond .gt off, 3)) (ht : ((pc + 1 : Nat) : Int) + off = (tgt : Int)) (hq : pc + 4 = q) (kt : y < x → GG R nL l D X cl sl n ad E tgt lv st) (kf : ¬ y < x → GG R nL l D X cl sl n ad E q lv st) : GG R nL l D X cl sl n ad E pc lv (.long y :: .long x :: st) := by
  subst hq
  exact fun H locs ls hP hD hS hl => W.lcmp F.x F.b hd0 (lv_if_gt F.x F.b hd ht (fun h => kt ((lg_cmp_gt x y).mp h) H locs ls hP hD hS hl) (fun h => kf (fun e => h ((lg_cmp_gt x y).mpr e)) H locs ls hP hD hS hl))
theorem g_if_le (F : Fr own cc nL D cA X) {x : Int32} {off : Int} {tgt : Nat} (hd : decode cc pc = .ok (.ifCond .le off, 3)) (ht : (pc : Int) + off = (tgt : Int)) (hq : pc + 3 = q) (kt : x ≤ 0 → GG R nL l D X cl sl n ad E tgt lv st) (kf : ¬ x ≤ 0 → GG R nL l D X cl sl n ad E q lv st) : GG R nL l D X cl sl n ad E pc lv (.int x :: st) := by
  subst hq
  exact fun H locs ls hP hD hS hl => lv_if_le F.x F.b hd ht (fun h => kt h H locs ls hP hD hS hl) (fun h => kf h H locs ls hP hD hS hl)
theorem g_icmp_le (F : Fr own cc nL D cA X) {x y : Int32} {off : Int} {tgt : Nat} (hd : decode cc pc = .ok (.if_icmp .le off, 3)) (ht : (pc : Int) + off = (tgt : Int)) (hq : pc + 3 = q) (kt : x ≤ y → GG R nL l D X cl sl n ad E tgt lv st) (kf : ¬ x ≤ y → GG R nL l D X cl sl n ad E q lv st) : GG R nL l D X cl sl n ad E pc lv (.int y :: .int x :: st) := by
  subst hq
  exact fun H locs ls hP hD hS hl => lv_icmp_le F.x F.b hd ht (fun h => kt h H locs ls hP hD hS hl) (fun h => kf h H locs ls hP hD hS hl)
theorem g_lcmp_le (F : Fr own cc nL D cA X) {x y : Int64} {off : Int} {tgt : Nat} (hd0 : decode cc pc = .ok (.lcmp, 1)) (hd : decode cc (pc + 1) = .ok (.ifCond .le off, 3)) (ht : ((pc + 1 : Nat) : Int) + off = (tgt : Int)) (hq : pc + 4 = q) (kt : x ≤ y → GG R nL l D X cl sl n ad E tgt lv st) (kf : ¬ x ≤ y → GG R nL l D X cl sl n ad E q lv st) : GG R nL l D X cl sl n ad E pc lv (.long y :: .long x :: st) := by
  subst hq
  exact fun H locs ls hP hD hS hl => W.lcmp F.x F.b hd0 (lv_if_le F.x F.b hd ht (fun h => kt ((lg_cmp_le x y).mp h) H locs ls hP hD hS hl) (fun h => kf (fun e => h ((lg_cmp_le x y).mpr e)) H locs ls hP hD hS hl))
theorem g_goto (F : Fr own cc nL D cA X) {off : Int} {tgt : Nat} (hd : decode cc pc = .ok (.goto off, 3)) (ht : (pc : Int) + off = (tgt : Int)) (kk : GG R nL l D X cl sl n ad E tgt lv st) : GG R nL l D X cl sl n ad E pc lv st := fun H locs ls hP hD hS hl => lv_goto F.x F.b hd ht (kk H locs ls hP hD hS hl)
theorem g_tabIn (F : Fr own cc nL D cA X) {dflt lo hi : Int} {offs : Array Int} {len : Nat} {x : Int32} {off : Int} {tgt : Nat} (hd : decode cc pc = .ok (.tableswitch dflt lo hi offs, len)) (h1 : ¬ x.toInt < lo) (h2 : ¬ hi < x.toInt) (ho : offs[(x.toInt - lo).toNat]? = some off) (ht : (pc : Int) + off = (tgt : Int)) (kk : GG R nL l D X cl sl n ad E tgt lv st) : GG R nL l D X cl sl n ad E pc lv (.int x :: st) := fun H locs ls hP hD hS hl => lv_tableIn F.x F.b hd h1 h2 ho ht (kk H locs ls hP hD hS hl)
theorem g_tabOut (F : Fr own cc nL D cA X) {dflt lo hi : Int} {offs : Array Int} {len : Nat} {x : Int32} {tgt : Nat} (hd : decode cc pc = .ok (.tableswitch dflt lo hi offs, len)) (h : x.toInt < lo ∨ hi < x.toInt) (ht : (pc : Int) + dflt = (tgt : Int)) (kk : GG R nL l D X cl sl n ad E tgt lv st) : GG R nL l D X cl sl n ad E pc lv (.int x :: st) := fun H locs ls hP hD hS hl => lv_tableOut F.x F.b hd h ht (kk H locs ls hP hD hS hl)
theorem g_getf (F : Fr own cc nL D cA X) {C : String} {T : u_T} {N ci ix k j : Nat} {fs : List Value} {v : Value} (hE : E k = .inr (ci, fs)) (hc : vwCl[ci]? = some (C, T, N)) (hin : ∀ w ∈ u_ws C T N, w ∈ TT) (hkn : k < n) (hj : j < N) (hw : Cond.fieldLink own ix C (T j).2.1 (T j).2.2.1 ∈ TT) (hr : (T j).1 = C) (hv : fs[j]? = some v) (hd : decode cc pc = .ok (.getfield ix, 3)) (hq : pc + 3 = q) (kk : GG R nL l D X cl sl n ad E q lv (v :: st)) : GG R nL l D X cl sl n ad E pc lv (.ref (ad k) :: st) := by
  subst hq
  exact fun H locs ls hP hD hS hl => va_get (ref := C) F.x F.b F.t hin F.o F.k hP k (by rw [wl_get hkn, hE]) hc j hj (F.t _ hw) (fun x h => by rw [hr] at h; exact h) hv hd (kk H locs ls hP hD hS hl)
theorem g_putf (F : Fr own cc nL D cA X) {C : String} {T : u_T} {N ci ix k j : Nat} {fs : List Value} {v : Value} {ty : FieldType} (hE : E k = .inr (ci, fs)) (hc : vwCl[ci]? = some (C, T, N)) (hin : ∀ w ∈ u_ws C T N, w ∈ TT) (ty0 : Nat → FieldType) (hty : ∀ k, k < N → parseFieldDescriptor (T k).2.2.1 = some (ty0 k)) (hnm : ∀ a, a < N → ∀ b, b < N → a ≠ b → (T a).2.1 ≠ (T b).2.1) (hkn : k < n) (hj : j < N) (hw : Cond.fieldLink own ix C (T j).2.1 (T j).2.2.1 ∈ TT) (hr : (T j).1 = C) (hfin : (T j).2.2.2 = false) (hp : parseFieldDescriptor (T j).2.2.1 = some ty) (hnr : narrow ty v = v) (hft : fits ty v = true) (hlen : j < fs.length) (hd : decode cc pc = .ok (.putfield ix, 3)) (hq : pc + 3 = q)
    (kk : ∀ E' : Nat → va_E, E' k = .inr (ci, fs.set j v) → (∀ j', j' ≠ k → E' j' = E j') → GG R nL l D X cl sl n ad E' q lv st) : GG R nL l D X cl sl n ad E pc lv (v :: .ref (ad k) :: st) := by
  subst hq
  exact fun H locs ls hP hD hS hl => va_put (ref := C) F.x F.b F.t hin ty0 hty hnm F.o F.k hP hD hS k (by rw [wl_get hkn, hE]) hc j hj (F.t _ hw) (fun x h => by rw [hr] at h; exact h) hfin hp hnr hft hlen hd (fun H1 locs1 hP1 hD1 hS1 => kk (va_up E k (.inr (ci, fs.set j v))) (by simp [va_up]) (fun j' h => by simp [va_up, h]) H1 locs1 ls (by rw [← wl_set hkn]; exact hP1) (wl_D hD) hS1 hl)
theorem g_putF (F : Fr own cc nL D cA X) {C : String} {T : u_T} {N ci ix k j : Nat} {fs : List Value} {v : Value} {ty : FieldType} (hE : E k = .inr (ci, fs)) (hc : vwCl[ci]? = some (C, T, N)) (hin : ∀ w ∈ u_ws C T N, w ∈ TT) (ty0 : Nat → FieldType) (hty : ∀ k, k < N → parseFieldDescriptor (T k).2.2.1 = some (ty0 k)) (hnm : ∀ a, a < N → ∀ b, b < N → a ≠ b → (T a).2.1 ≠ (T b).2.1) (hkn : k < n) (hj : j < N) (hw : Cond.fieldLink own ix C (T j).2.1 (T j).2.2.1 ∈ TT) (hr : (T j).1 = C) (hfin : (T j).2.2.2 = true) (hin2 : X.2.2.2.2.2.2.1.name = "<init>") (hown : C = own) (hp : parseFieldDescriptor (T j).2.2.1 = some ty) (hnr : narrow ty v = v) (hft : fits ty v = true) (hlen : j < fs.length) (hd : decode cc pc = .ok (.putfield ix, 3)) (hq : pc + 3 = q)
    (kk : ∀ E' : Nat → va_E, E' k = .inr (ci, fs.set j v) → (∀ j', j' ≠ k → E' j' = E j') → GG R nL l D X cl sl n ad E' q lv st) : GG R nL l D X cl sl n ad E pc lv (v :: .ref (ad k) :: st) := by
  subst hq
  exact fun H locs ls hP hD hS hl => va_putF (ref := C) F.x F.b F.t hin ty0 hty hnm F.o F.k hP hD hS k (by rw [wl_get hkn, hE]) hc j hj (F.t _ hw) (fun x h => by rw [hr] at h; exact h) hfin hin2 (by rw [hr]; exact hown) hp hnr hft hlen hd (fun H1 locs1 hP1 hD1 hS1 => kk (va_up E k (.inr (ci, fs.set j v))) (by simp [va_up]) (fun j' h => by simp [va_up, h]) H1 locs1 ls (by rw [← wl_set hkn]; exact hP1) (wl_D hD) hS1 hl)
theorem g_iald (F : Fr own cc nL D cA X) {k N : Nat} {f : Nat → Int32} {i : Int32} (j : Nat) (hE : E k = .inl (cA 0, N, .inl f)) (hkn : k < n) (hi : i = nI j) (hj : j < N) (hN : N < 2 ^ 31) (hd : decode cc pc = .ok (.iaload, 1)) (hq : pc + 1 = q) (kk : GG R nL l D X cl sl n ad E q lv (.int (f j) :: st)) : GG R nL l D X cl sl n ad E pc lv (.int i :: .ref (ad k) :: st) := by
  subst hq
  subst hi
  exact fun H locs ls hP hD hS hl => va_iald F.x F.b F.k hP k 0 (cA := cA 0) (n := N) (f := f) (by rw [wl_get hkn, hE]) rfl (vp_in_nI hj hN) hd (by rw [nI_clamp (Nat.lt_trans hj hN)]; exact kk H locs ls hP hD hS hl)
theorem g_zald (F : Fr own cc nL D cA X) {k N : Nat} {f : Nat → Int32} {i : Int32} (j : Nat) (hE : E k = .inl (cA 2, N, .inl f)) (hkn : k < n) (hi : i = nI j) (hj : j < N) (hN : N < 2 ^ 31) (hd : decode cc pc = .ok (.baload, 1)) (hq : pc + 1 = q) (kk : GG R nL l D X cl sl n ad E q lv (.int (f j) :: st)) : GG R nL l D X cl sl n ad E pc lv (.int i :: .ref (ad k) :: st) := by
  subst hq
  subst hi
  exact fun H locs ls hP hD hS hl => va_zald F.x F.b F.k hP k 2 (cA := cA 2) (n := N) (f := f) (by rw [wl_get hkn, hE]) rfl (vp_in_nI hj hN) hd (by rw [nI_clamp (Nat.lt_trans hj hN)]; exact kk H locs ls hP hD hS hl)
theorem g_cald (F : Fr own cc nL D cA X) {k N : Nat} {f : Nat → Int32} {i : Int32} (j : Nat) (hE : E k = .inl (cA 3, N, .inl f)) (hkn : k < n) (hi : i = nI j) (hj : j < N) (hN : N < 2 ^ 31) (hd : decode cc pc = .ok (.caload, 1)) (hq : pc + 1 = q) (kk : GG R nL l D X cl sl n ad E q lv (.int (f j) :: st)) : GG R nL l D X cl sl n ad E pc lv (.int i :: .ref (ad k) :: st) := by
  subst hq
  subst hi
  exact fun H locs ls hP hD hS hl => va_cald F.x F.b F.k hP k 3 (cA := cA 3) (n := N) (f := f) (by rw [wl_get hkn, hE]) rfl (vp_in_nI hj hN) hd (by rw [nI_clamp (Nat.lt_trans hj hN)]; exact kk H locs ls hP hD hS hl)
theorem g_lald (F : Fr own cc nL D cA X) {k N : Nat} {f : Nat → Int64} {i : Int32} (j : Nat) (hE : E k = .inl (cA 1, N, .inr (.inl f))) (hkn : k < n) (hi : i = nI j) (hj : j < N) (hN : N < 2 ^ 31) (hd : decode cc pc = .ok (.laload, 1)) (hq : pc + 1 = q) (kk : GG R nL l D X cl sl n ad E q lv (.long (f j) :: st)) : GG R nL l D X cl sl n ad E pc lv (.int i :: .ref (ad k) :: st) := by
  subst hq
  subst hi
  exact fun H locs ls hP hD hS hl => va_lald F.x F.b F.k hP k 1 (cA := cA 1) (n := N) (f := f) (by rw [wl_get hkn, hE]) rfl (vp_in_nI hj hN) hd (by rw [nI_clamp (Nat.lt_trans hj hN)]; exact kk H locs ls hP hD hS hl)
theorem g_iast (F : Fr own cc nL D cA X) {k N : Nat} {f : Nat → Int32} {i : Int32} {x : Int32} (j : Nat) (hE : E k = .inl (cA 0, N, .inl f)) (hkn : k < n) (hi : i = nI j) (hj : j < N) (hN : N < 2 ^ 31) (hd : decode cc pc = .ok (.iastore, 1)) (hq : pc + 1 = q)
    (kk : ∀ E' : Nat → va_E, E' k = .inl (cA 0, N, .inl (upd f j x)) → (∀ j', j' ≠ k → E' j' = E j') → GG R nL l D X cl sl n ad E' q lv st) : GG R nL l D X cl sl n ad E pc lv (.int x :: .int i :: .ref (ad k) :: st) := by
  subst hq
  subst hi
  exact fun H locs ls hP hD hS hl => va_iast F.x F.b F.k hP hD hS k 0 (cA := cA 0) (n := N) (f := f) (by rw [wl_get hkn, hE]) rfl (vp_in_nI hj hN) hd (fun H1 locs1 hP1 hD1 hS1 => kk (va_up E k (.inl (cA 0, N, .inl (upd f j x)))) (by simp [va_up]) (fun j' h => by simp [va_up, h]) H1 locs1 ls (by rw [← wl_set hkn]; rw [nI_clamp (Nat.lt_trans hj hN)] at hP1; exact hP1) (wl_D hD) hS1 hl)
theorem g_zast (F : Fr own cc nL D cA X) {k N : Nat} {f : Nat → Int32} {i : Int32} {x : Int32} (j : Nat) (hE : E k = .inl (cA 2, N, .inl f)) (hkn : k < n) (hi : i = nI j) (hj : j < N) (hN : N < 2 ^ 31) (hnr : vp_nar .boolean x = x) (hd : decode cc pc = .ok (.bastore, 1)) (hq : pc + 1 = q)
    (kk : ∀ E' : Nat → va_E, E' k = .inl (cA 2, N, .inl (upd f j x)) → (∀ j', j' ≠ k → E' j' = E j') → GG R nL l D X cl sl n ad E' q lv st) : GG R nL l D X cl sl n ad E pc lv (.int x :: .int i :: .ref (ad k) :: st) := by
  subst hq
  subst hi
  exact fun H locs ls hP hD hS hl => va_zast F.x F.b F.k hP hD hS k 2 (cA := cA 2) (n := N) (f := f) (by rw [wl_get hkn, hE]) rfl (vp_in_nI hj hN) hd (fun H1 locs1 hP1 hD1 hS1 => kk (va_up E k (.inl (cA 2, N, .inl (upd f j x)))) (by simp [va_up]) (fun j' h => by simp [va_up, h]) H1 locs1 ls (by rw [← wl_set hkn]; rw [hnr, nI_clamp (Nat.lt_trans hj hN)] at hP1; exact hP1) (wl_D hD) hS1 hl)
theorem g_cast (F : Fr own cc nL D cA X) {k N : Nat} {f : Nat → Int32} {i : Int32} {x : Int32} (j : Nat) (hE : E k = .inl (cA 3, N, .inl f)) (hkn : k < n) (hi : i = nI j) (hj : j < N) (hN : N < 2 ^ 31) (hnr : vp_nar .char x = x) (hd : decode cc pc = .ok (.castore, 1)) (hq : pc + 1 = q)
    (kk : ∀ E' : Nat → va_E, E' k = .inl (cA 3, N, .inl (upd f j x)) → (∀ j', j' ≠ k → E' j' = E j') → GG R nL l D X cl sl n ad E' q lv st) : GG R nL l D X cl sl n ad E pc lv (.int x :: .int i :: .ref (ad k) :: st) := by
  subst hq
  subst hi
  exact fun H locs ls hP hD hS hl => va_cast F.x F.b F.k hP hD hS k 3 (cA := cA 3) (n := N) (f := f) (by rw [wl_get hkn, hE]) rfl (vp_in_nI hj hN) hd (fun H1 locs1 hP1 hD1 hS1 => kk (va_up E k (.inl (cA 3, N, .inl (upd f j x)))) (by simp [va_up]) (fun j' h => by simp [va_up, h]) H1 locs1 ls (by rw [← wl_set hkn]; rw [hnr, nI_clamp (Nat.lt_trans hj hN)] at hP1; exact hP1) (wl_D hD) hS1 hl)
theorem g_last (F : Fr own cc nL D cA X) {k N : Nat} {f : Nat → Int64} {i : Int32} {x : Int64} (j : Nat) (hE : E k = .inl (cA 1, N, .inr (.inl f))) (hkn : k < n) (hi : i = nI j) (hj : j < N) (hN : N < 2 ^ 31) (hd : decode cc pc = .ok (.lastore, 1)) (hq : pc + 1 = q)
    (kk : ∀ E' : Nat → va_E, E' k = .inl (cA 1, N, .inr (.inl (vp_updL f j x))) → (∀ j', j' ≠ k → E' j' = E j') → GG R nL l D X cl sl n ad E' q lv st) : GG R nL l D X cl sl n ad E pc lv (.long x :: .int i :: .ref (ad k) :: st) := by
  subst hq
  subst hi
  exact fun H locs ls hP hD hS hl => va_last F.x F.b F.k hP hD hS k 1 (cA := cA 1) (n := N) (f := f) (by rw [wl_get hkn, hE]) rfl (vp_in_nI hj hN) hd (fun H1 locs1 hP1 hD1 hS1 => kk (va_up E k (.inl (cA 1, N, .inr (.inl (vp_updL f j x))))) (by simp [va_up]) (fun j' h => by simp [va_up, h]) H1 locs1 ls (by rw [← wl_set hkn]; rw [nI_clamp (Nat.lt_trans hj hN)] at hP1; exact hP1) (wl_D hD) hS1 hl)
theorem g_aald4 (F : Fr own cc nL D cA X) {k N a : Nat} {f : Nat → Option Nat} {i : Int32} (j : Nat) (hE : E k = .inl (cA 4, N, .inr (.inr (.inr (.inr f))))) (hkn : k < n) (hi : i = nI j) (hj : j < N) (hN : N < 2 ^ 31) (hf : f j = some a) (hd : decode cc pc = .ok (.aaload, 1)) (hq : pc + 1 = q) (kk : GG R nL l D X cl sl n ad E q lv (.ref a :: st)) : GG R nL l D X cl sl n ad E pc lv (.int i :: .ref (ad k) :: st) := by
  subst hq
  subst hi
  exact fun H locs ls hP hD hS hl => va_aldq F.x F.b F.k hP k 4 (cA := cA 4) (n := N) (f := f) (by rw [wl_get hkn, hE]) rfl (vp_in_nI hj hN) hd (by rw [nI_clamp (Nat.lt_trans hj hN), hf]; exact kk H locs ls hP hD hS hl)
theorem g_aald5 (F : Fr own cc nL D cA X) {k N a : Nat} {f : Nat → Option Nat} {i : Int32} (j : Nat) (hE : E k = .inl (cA 5, N, .inr (.inr (.inr (.inr f))))) (hkn : k < n) (hi : i = nI j) (hj : j < N) (hN : N < 2 ^ 31) (hf : f j = some a) (hd : decode cc pc = .ok (.aaload, 1)) (hq : pc + 1 = q) (kk : GG R nL l D X cl sl n ad E q lv (.ref a :: st)) : GG R nL l D X cl sl n ad E pc lv (.int i :: .ref (ad k) :: st) := by
  subst hq
  subst hi
  intro H locs ls hP hD hS hl
  have hin := vp_in_nI hj hN
  have hlt : (nI j).toNatClampNeg < N := by rw [nI_clamp (Nat.lt_trans hj hN)]; exact hj
  have h1 := hP k _ (wl_get hkn)
  rw [hE] at h1
  refine W.aald (v := va_rf (f (nI j).toNatClampNeg)) (ty := .array .int) F.x F.b h1 ((F.k.2 5 (cA 5, .array .int) rfl).1 N (fun j => va_rf (f j))) rfl (fun q => by cases q) (by show ¬ (nI j < 0 ∨ (arrV _ _ _).slots.size ≤ _); rw [arrV_size]; exact hin) (by show (arrV _ _ _).slots[_]? = _; rw [arrV_read _ _ hlt]) rfl rfl hd ?_
  rw [nI_clamp (Nat.lt_trans hj hN), hf]
  exact kk H locs ls hP hD hS hl
theorem g_aast4 (F : Fr own cc nL D cA X) {k N k2 : Nat} {f : Nat → Option Nat} {fs : List Value} {i : Int32} (j : Nat) (hE : E k = .inl (cA 4, N, .inr (.inr (.inr (.inr f))))) (hE2 : E k2 = .inr (5, fs)) (hkn : k < n) (hkn2 : k2 < n) (hi : i = nI j) (hj : j < N) (hN : N < 2 ^ 31) (hd : decode cc pc = .ok (.aastore, 1)) (hq : pc + 1 = q)
    (kk : ∀ E' : Nat → va_E, E' k = .inl (cA 4, N, .inr (.inr (.inr (.inr (va_up f j (some (ad k2))))))) → (∀ j', j' ≠ k → E' j' = E j') → GG R nL l D X cl sl n ad E' q lv st) : GG R nL l D X cl sl n ad E pc lv (.ref (ad k2) :: .int i :: .ref (ad k) :: st) := by
  subst hq
  subst hi
  exact fun H locs ls hP hD hS hl => va_astq F.x F.b F.k hP hD hS k 4 k2 5 (cA := cA 4) (r := (RX5, TX5, 11)) (n := N) (f := f) (by rw [wl_get hkn, hE]) rfl (by rw [wl_get hkn2, hE2]) rfl (vp_in_nI hj hN) hd (fun H1 locs1 hP1 hD1 hS1 => kk (va_up E k (.inl (cA 4, N, .inr (.inr (.inr (.inr (va_up f j (some (ad k2))))))))) (by simp [va_up]) (fun j' h => by simp [va_up, h]) H1 locs1 ls (by rw [← wl_set hkn]; rw [nI_clamp (Nat.lt_trans hj hN)] at hP1; exact hP1) (wl_D hD) hS1 hl)
theorem g_copyi (F : Fr own cc nL D cA X) {k0 k1 ix : Nat} {f g : Nat → Int32} (hE0 : E k0 = .inl (cA 0, 10, .inl f)) (hE1 : E k1 = .inl (cA 0, 10, .inl g)) (hk0 : k0 < n) (hk1 : k1 < n) (hw1 : Cond.methodLink own ix arraycopyName ∈ TT) (hw2 : Cond.native arraycopyName ∈ TT) (hw3 : Cond.static arraycopyName ∈ TT) (hw4 : Cond.initialized "java/lang/System" ∈ TT) (hfr : 1 ≤ R.frames) (hlo : (st.map fun v => v.category).sum + (nativeFrameWords "java/lang/System" "arraycopy" 5 + 11) ≤ R.locals) (hd : decode cc pc = .ok (.invokestatic ix, 3)) (hq : pc + 3 = q)
    (kk : ∀ (E' : Nat → va_E) (g' : Nat → Int32), E' k1 = .inl (cA 0, 10, .inl g') → (∀ i, i < 10 → g' i = f i) → (∀ j', j' ≠ k1 → E' j' = E j') → GG R nL l D X cl sl n ad E' q lv st) : GG R nL l D X cl sl n ad E pc lv (.int 10 :: .int 0 :: .ref (ad k1) :: .int 0 :: .ref (ad k0) :: st) := by
  subst hq
  have c10 : (10 : Int32).toNatClampNeg = 10 := by decide
  have c0 : (0 : Int32).toNatClampNeg = 0 := by decide
  exact fun H locs ls hP hD hS hl => va_copyi F.x F.b (F.m.trans hl.1.symm) F.o (F.t _ hw1) (F.t _ hw2) (F.t _ hw3) (F.t _ hw4) F.k hP hD hS k0 k1 0 0 (c0 := cA 0) (c1 := cA 0) (n0 := 10) (n1 := 10) (f := f) (g := g) (ty := .int) (by rw [wl_get hk0, hE0]) (by rw [wl_get hk1, hE1]) rfl rfl rfl (by decide) (by decide) (by decide) (by decide) (by decide) (fun i _ => by rfl) hfr hlo hd (fun H1 locs1 hP1 hD1 hS1 => kk (va_up E k1 (.inl (cA 0, 10, .inl (va_cpy f g 0 0 10)))) (va_cpy f g 0 0 10) (by simp [va_up]) (fun i hi => by simp [va_cpy, hi]) (fun j' h => by simp [va_up, h]) H1 locs1 ls (by rw [← wl_set hk1]; rw [c0, c10] at hP1; exact hP1) (wl_D hD) hS1 hl)
theorem g_copyz (F : Fr own cc nL D cA X) {k0 k1 ix : Nat} {f g : Nat → Int32} (hE0 : E k0 = .inl (cA 2, 10, .inl f)) (hE1 : E k1 = .inl (cA 2, 10, .inl g)) (hk0 : k0 < n) (hk1 : k1 < n) (hft : ∀ i, i < 10 → fits .boolean (.int (f i)) = true) (hw1 : Cond.methodLink own ix arraycopyName ∈ TT) (hw2 : Cond.native arraycopyName ∈ TT) (hw3 : Cond.static arraycopyName ∈ TT) (hw4 : Cond.initialized "java/lang/System" ∈ TT) (hfr : 1 ≤ R.frames) (hlo : (st.map fun v => v.category).sum + (nativeFrameWords "java/lang/System" "arraycopy" 5 + 11) ≤ R.locals) (hd : decode cc pc = .ok (.invokestatic ix, 3)) (hq : pc + 3 = q)
    (kk : ∀ (E' : Nat → va_E) (g' : Nat → Int32), E' k1 = .inl (cA 2, 10, .inl g') → (∀ i, i < 10 → g' i = f i) → (∀ j', j' ≠ k1 → E' j' = E j') → GG R nL l D X cl sl n ad E' q lv st) : GG R nL l D X cl sl n ad E pc lv (.int 10 :: .int 0 :: .ref (ad k1) :: .int 0 :: .ref (ad k0) :: st) := by
  subst hq
  have c10 : (10 : Int32).toNatClampNeg = 10 := by decide
  have c0 : (0 : Int32).toNatClampNeg = 0 := by decide
  exact fun H locs ls hP hD hS hl => va_copyi F.x F.b (F.m.trans hl.1.symm) F.o (F.t _ hw1) (F.t _ hw2) (F.t _ hw3) (F.t _ hw4) F.k hP hD hS k0 k1 2 2 (c0 := cA 2) (c1 := cA 2) (n0 := 10) (n1 := 10) (f := f) (g := g) (ty := .boolean) (by rw [wl_get hk0, hE0]) (by rw [wl_get hk1, hE1]) rfl rfl rfl (by decide) (by decide) (by decide) (by decide) (by decide) (fun i hi => by simpa using hft (0 + i) (by simpa using hi)) hfr hlo hd (fun H1 locs1 hP1 hD1 hS1 => kk (va_up E k1 (.inl (cA 2, 10, .inl (va_cpy f g 0 0 10)))) (va_cpy f g 0 0 10) (by simp [va_up]) (fun i hi => by simp [va_cpy, hi]) (fun j' h => by simp [va_up, h]) H1 locs1 ls (by rw [← wl_set hk1]; rw [c0, c10] at hP1; exact hP1) (wl_D hD) hS1 hl)
theorem g_mmin (F : Fr own cc nL D cA X) {ix : Nat} {x y : Int32} (hw1 : Cond.methodLink own ix Lib.Math.min.name ∈ TT) (hw2 : Cond.static Lib.Math.min.name ∈ TT) (hw3 : Cond.initialized "java/lang/Math" ∈ TT) (hw4 : Cond.code Lib.Math.min.name Lib.Math.min.code 2 (some .int) ∈ TT) (hfr : 1 ≤ R.frames) (hlo : (st.map fun v => v.category).sum + 13 ≤ R.locals) (hc : cl ≤ R.cells ∧ sl ≤ R.slots) (hd : decode cc pc = .ok (.invokestatic ix, 3)) (hq : pc + 3 = q) (kk : GG R nL l D X cl sl n ad E q lv (.int (if y < x then y else x) :: st)) : GG R nL l D X cl sl n ad E pc lv (.int y :: .int x :: st) := by
  subst hq
  exact fun H locs ls hP hD hS hl => va_mmin F.x F.b (F.m.trans hl.1.symm) F.o (F.t _ hw1) (F.t _ hw2) (F.t _ hw3) (F.t _ hw4) hfr hlo hc.1 hc.2 hd (kk H locs ls hP hD hS hl)
theorem g_mabs (F : Fr own cc nL D cA X) {ix : Nat} {x : Int32} (hw1 : Cond.methodLink own ix Lib.Math.abs.name ∈ TT) (hw2 : Cond.static Lib.Math.abs.name ∈ TT) (hw3 : Cond.initialized "java/lang/Math" ∈ TT) (hw4 : Cond.code Lib.Math.abs.name Lib.Math.abs.code 1 (some .int) ∈ TT) (hfr : 1 ≤ R.frames) (hlo : (st.map fun v => v.category).sum + 13 ≤ R.locals) (hc : cl ≤ R.cells ∧ sl ≤ R.slots) (hd : decode cc pc = .ok (.invokestatic ix, 3)) (hq : pc + 3 = q) (kk : GG R nL l D X cl sl n ad E q lv (.int (if 0 ≤ x then x else 0 - x) :: st)) : GG R nL l D X cl sl n ad E pc lv (.int x :: st) := by
  subst hq
  exact fun H locs ls hP hD hS hl => va_mabs F.x F.b (F.m.trans hl.1.symm) F.o (F.t _ hw1) (F.t _ hw2) (F.t _ hw3) (F.t _ hw4) hfr hlo hc.1 hc.2 hd (kk H locs ls hP hD hS hl)
theorem g_mminl (F : Fr own cc nL D cA X) {ix : Nat} {x y : Int64} (hw1 : Cond.methodLink own ix Lib.MathLoose.min_long.x ∈ TT) (hw2 : Cond.static Lib.MathLoose.min_long.x ∈ TT) (hw3 : Cond.initialized "java/lang/Math" ∈ TT) (hw4 : Cond.code Lib.MathLoose.min_long.x Lib.MathLoose.min_long.code 4 (some .long) ∈ TT) (hfr : 1 ≤ R.frames) (hlo : (st.map fun v => v.category).sum + 15 ≤ R.locals) (hc : cl ≤ R.cells ∧ sl ≤ R.slots) (hd : decode cc pc = .ok (.invokestatic ix, 3)) (hq : pc + 3 = q) (kk : GG R nL l D X cl sl n ad E q lv (.long (if y < x then y else x) :: st)) : GG R nL l D X cl sl n ad E pc lv (.long y :: .long x :: st) := by
  subst hq
  exact fun H locs ls hP hD hS hl => va_mmin_long F.x F.b (F.m.trans hl.1.symm) F.o (F.t _ hw1) (F.t _ hw2) (F.t _ hw3) (F.t _ hw4) hfr hlo hc.1 hc.2 hd (kk H locs ls hP hD hS hl)
theorem g_mmaxl (F : Fr own cc nL D cA X) {ix : Nat} {x y : Int64} (hw1 : Cond.methodLink own ix Lib.MathLoose.max_long.x ∈ TT) (hw2 : Cond.static Lib.MathLoose.max_long.x ∈ TT) (hw3 : Cond.initialized "java/lang/Math" ∈ TT) (hw4 : Cond.code Lib.MathLoose.max_long.x Lib.MathLoose.max_long.code 4 (some .long) ∈ TT) (hfr : 1 ≤ R.frames) (hlo : (st.map fun v => v.category).sum + 15 ≤ R.locals) (hc : cl ≤ R.cells ∧ sl ≤ R.slots) (hd : decode cc pc = .ok (.invokestatic ix, 3)) (hq : pc + 3 = q) (kk : GG R nL l D X cl sl n ad E q lv (.long (if y < x then x else y) :: st)) : GG R nL l D X cl sl n ad E pc lv (.long y :: .long x :: st) := by
  subst hq
  exact fun H locs ls hP hD hS hl => va_mmax_long F.x F.b (F.m.trans hl.1.symm) F.o (F.t _ hw1) (F.t _ hw2) (F.t _ hw3) (F.t _ hw4) hfr hlo hc.1 hc.2 hd (kk H locs ls hP hD hS hl)
theorem g_mabsl (F : Fr own cc nL D cA X) {ix : Nat} {x : Int64} (hw1 : Cond.methodLink own ix Lib.MathLoose.abs_long.x ∈ TT) (hw2 : Cond.static Lib.MathLoose.abs_long.x ∈ TT) (hw3 : Cond.initialized "java/lang/Math" ∈ TT) (hw4 : Cond.code Lib.MathLoose.abs_long.x Lib.MathLoose.abs_long.code 2 (some .long) ∈ TT) (hfr : 1 ≤ R.frames) (hlo : (st.map fun v => v.category).sum + 13 ≤ R.locals) (hc : cl ≤ R.cells ∧ sl ≤ R.slots) (hd : decode cc pc = .ok (.invokestatic ix, 3)) (hq : pc + 3 = q) (kk : GG R nL l D X cl sl n ad E q lv (.long (if 0 < x then x else -x) :: st)) : GG R nL l D X cl sl n ad E pc lv (.long x :: st) := by
  subst hq
  exact fun H locs ls hP hD hS hl => va_mabs_long F.x F.b (F.m.trans hl.1.symm) F.o (F.t _ hw1) (F.t _ hw2) (F.t _ hw3) (F.t _ hw4) hfr hlo hc.1 hc.2 hd (kk H locs ls hP hD hS hl)
end GGR
/-! contracts over a world of n cells -/
def CWp (D : va_G) (cA : Nat → ClassId) (n : Nat) (ad : Nat → Nat) (E : Nat → va_E) (U : State) : Prop := va_P D vwCl (wl n ad E) U.heap ∧ va_K D vwCl (tyl cA) U ∧ va_D (fun _ => True) (wl n ad E)
def CtI (l : Launch) (D : va_G) (cA : Nat → ClassId) (y : MethodName) (bytes : ByteArray) (maxL : Nat) (ret : FieldType) (rm : Room) (n : Nat) (ad : Nat → Nat) (E : Nat → va_E) (av : List Value) (post : Int32 → (Nat → va_E) → Prop) : Prop :=
  ∀ sz : Nat, Met l y (.code y bytes maxL (some ret) :: TT) rm (va_Pc av (fun U => U.heap.size = sz ∧ CWp D cA n ad E U)) (va_Qi post (fun E' t => va_P D vwCl (wl n ad E') t.heap) (AA n ad sz)) 0 0 (AA n ad sz)
def CtL (l : Launch) (D : va_G) (cA : Nat → ClassId) (y : MethodName) (bytes : ByteArray) (maxL : Nat) (rm : Room) (n : Nat) (ad : Nat → Nat) (E : Nat → va_E) (av : List Value) (post : Int64 → (Nat → va_E) → Prop) : Prop :=
  ∀ sz : Nat, Met l y (.code y bytes maxL (some .long) :: TT) rm (va_Pc av (fun U => U.heap.size = sz ∧ CWp D cA n ad E U)) (va_Ql post (fun E' t => va_P D vwCl (wl n ad E') t.heap) (AA n ad sz)) 0 0 (AA n ad sz)
def CtV (l : Launch) (D : va_G) (cA : Nat → ClassId) (y : MethodName) (bytes : ByteArray) (maxL : Nat) (rm : Room) (n : Nat) (ad : Nat → Nat) (E : Nat → va_E) (av : List Value) (post : (Nat → va_E) → Prop) : Prop :=
  ∀ sz : Nat, Met l y (.code y bytes maxL none :: TT) rm (va_Pc av (fun U => U.heap.size = sz ∧ CWp D cA n ad E U)) (va_Qv post (fun E' t => va_P D vwCl (wl n ad E') t.heap) (AA n ad sz)) 0 0 (AA n ad sz)
theorem CWp_blind {D : va_G} {cA : Nat → ClassId} {n sz : Nat} {ad : Nat → Nat} {E : Nat → va_E} {av : List Value} : FrameBlind (va_Pc av (fun U => U.heap.size = sz ∧ CWp D cA n ad E U)) := fun a U g mk q => by
  obtain ⟨q0, q1, qP, qK, qD⟩ := q
  exact ⟨q0, q1, qP, va_K.moved (u := U) (U := U.calling g mk a) (Vm.Alike.refl U.vm) qK, qD⟩
/-- what a callee's name gives -/
def KV (y : MethodName) (C : String) (bytes : ByteArray) (maxL : Nat) (ret : Option FieldType) (na : Nat) : Prop := Cond.instanceMethod y ∈ TT ∧ Cond.selects C y y ∈ TT ∧ Cond.initialized C ∈ TT ∧ Cond.code y bytes maxL ret ∈ TT ∧ (y.cls = C ∧ y.cls ≠ "java/lang/invoke/MethodHandle" ∧ y.cls ≠ "java/lang/invoke/VarHandle" ∧ (parseMethodDescriptor y.desc).map (fun d => d.parameters.length) = some na)
def KS (y : MethodName) (C : String) (bytes : ByteArray) (maxL : Nat) (ret : Option FieldType) (na : Nat) : Prop := Cond.static y ∈ TT ∧ Cond.initialized C ∈ TT ∧ Cond.code y bytes maxL ret ∈ TT ∧ (y.cls = C ∧ y.cls ≠ "java/lang/invoke/MethodHandle" ∧ y.cls ≠ "java/lang/invoke/VarHandle" ∧ (parseMethodDescriptor y.desc).map (fun d => d.parameters.length) = some na)
theorem goodTT {ws : List Cond} (h : ∀ w ∈ ws, w ∈ TT) : GoodIn TT ws := fun w hw => ⟨h w hw, good_of_word (TT_good w (h w hw))⟩
theorem hts_of {y : MethodName} {bytes : ByteArray} {maxL : Nat} {ret : Option FieldType} {rm : Room} {args : Array Value} {s : State} (h : (headSpec (.code y bytes maxL ret :: TT) rm).pre.before args s = true) : ∀ w ∈ TT, w.before args s = true := fun w hw => atoms_spec h w (List.mem_cons_of_mem _ hw)
theorem cwVT {R : Room} {s : State} {args : Array Value} {own C : String} {ix maxL na : Nat} {y : MethodName} {bytes : ByteArray} {ret : Option FieldType} {rm : Room} (ht : ∀ w ∈ TT, w.before args s = true) (kv : KV y C bytes maxL ret na) (hl : Cond.methodLink own ix y ∈ TT) (hR : rm.frames + 1 ≤ R.frames ∧ 8 + (maxL + 11) + rm.locals ≤ R.locals) : CallW R s args own C ix y bytes maxL ret (.code y bytes maxL ret :: TT) rm rm.cells rm.slots na := by
  obtain ⟨k1, k2, k3, k4, k5⟩ := kv
  obtain ⟨k5, k6, k7, k8⟩ := k5
  refine ⟨callB_of na ht (goodTT (fun w h => ?_)) rfl rfl rfl (by rw [k5]; exact ht _ k3) (ht _ hl) ⟨k6, k7, k8⟩ hR, ht _ k1, ht _ k2⟩
  rcases List.mem_cons.mp h with rfl | h
  · exact k4
  · exact h
theorem cwST {R : Room} {s : State} {args : Array Value} {own C : String} {ix maxL na : Nat} {y : MethodName} {bytes : ByteArray} {ret : Option FieldType} {rm : Room} (ht : ∀ w ∈ TT, w.before args s = true) (kv : KS y C bytes maxL ret na) (hl : Cond.methodLink own ix y ∈ TT) (hR : rm.frames + 1 ≤ R.frames ∧ 8 + (maxL + 11) + rm.locals ≤ R.locals) : CallB R s args own ix y bytes maxL ret (.code y bytes maxL ret :: TT) rm rm.cells rm.slots na ∧ (Cond.static y).before args s = true := by
  obtain ⟨k2, k3, k4, k5⟩ := kv
  obtain ⟨k5, k6, k7, k8⟩ := k5
  refine ⟨callB_of na ht (goodTT (fun w h => ?_)) rfl rfl rfl (by rw [k5]; exact ht _ k3) (ht _ hl) ⟨k6, k7, k8⟩ hR, ht _ k2⟩
  rcases List.mem_cons.mp h with rfl | h
  · exact k4
  · exact h
section GGC
variable {R : Room} {nL : Nat} {l : Launch} {D : va_G} {X : GX} {cl sl n : Nat} {ad : Nat → Nat} {E : Nat → va_E} {pc q : Nat} {lv : List (Nat × Value)} {st stk : List Value} {own : String} {cc : ByteArray} {cA : Nat → ClassId} {y : MethodName} {C : String} {bytes : ByteArray} {maxL na ix k ci : Nat} {rm : Room} {av : List Value} {fs : List Value} {T : u_T} {N : Nat}
theorem g_callVI (F : Fr own cc nL D cA X) {ret : FieldType} {post : Int32 → (Nat → va_E) → Prop} (hM : CtI l D cA y bytes maxL ret rm n ad E (.ref (ad k) :: av) post) (kv : KV y C bytes maxL (some ret) na) (hw : Cond.methodLink own ix y ∈ TT) (hE : E k = .inr (ci, fs)) (hc : vwCl[ci]? = some (C, T, N)) (hkn : k < n) (hrm : rm.cells = 0 ∧ rm.slots = 0) (hR : rm.frames + 1 ≤ R.frames ∧ 8 + (maxL + 11) + rm.locals ≤ R.locals) (hcs : cl ≤ R.cells ∧ sl ≤ R.slots) (hn : av.length = na) (hst : stk = av.reverse ++ .ref (ad k) :: st) (hsum : (st.map fun v => v.category).sum ≤ 8) (hd : decode cc pc = .ok (.invokevirtual ix, 3)) (hq : pc + 3 = q)
    (kk : ∀ (r : Int32) (E' : Nat → va_E), post r E' → GG R nL l D X cl sl n ad E' q lv (.int r :: st)) : GG R nL l D X cl sl n ad E pc lv stk := by
  subst hq
  subst hst
  intro H locs ls hP hD hS hl
  have hI := AA_in hD hS F.a
  have cw := cwVT (R := R) F.t kv hw hR
  rw [hrm.1, hrm.2] at cw
  exact va_calli (va_runV ⟨F.x, F.b, F.m, F.o, F.t⟩ (hM H.size) cw ⟨CWp_blind, va_recv F.k hP hc (by rw [wl_get hkn, hE]), fun U hU hW => ⟨rfl, by rw [hU], by rw [hU]; exact hP, va_K.moved hW.alike F.k, hD.weaken (fun _ _ _ _ => trivial)⟩⟩ rfl hn hl.1 rfl (lv_room hsum) hd hcs) hS (fun q _ h => hI q h) hI (fun r u t H1 locs1 ht hvm hw hB hz1 hk1 hS1 => kk r u hw H1 locs1 ls (by rw [← ht]; exact hB) (wl_D hD) hS1 hl)
theorem g_callSI (F : Fr own cc nL D cA X) {ret : FieldType} {post : Int32 → (Nat → va_E) → Prop} (hM : CtI l D cA y bytes maxL ret rm n ad E av post) (kv : KS y C bytes maxL (some ret) na) (hw : Cond.methodLink own ix y ∈ TT) (hrm : rm.cells = 0 ∧ rm.slots = 0) (hR : rm.frames + 1 ≤ R.frames ∧ 8 + (maxL + 11) + rm.locals ≤ R.locals) (hcs : cl ≤ R.cells ∧ sl ≤ R.slots) (hn : av.length = na) (hst : stk = av.reverse ++ st) (hsum : (st.map fun v => v.category).sum ≤ 8) (hd : decode cc pc = .ok (.invokestatic ix, 3)) (hq : pc + 3 = q)
    (kk : ∀ (r : Int32) (E' : Nat → va_E), post r E' → GG R nL l D X cl sl n ad E' q lv (.int r :: st)) : GG R nL l D X cl sl n ad E pc lv stk := by
  subst hq
  subst hst
  intro H locs ls hP hD hS hl
  have hI := AA_in hD hS F.a
  have cw := cwST (R := R) F.t kv hw hR
  rw [hrm.1, hrm.2] at cw
  exact va_calli (va_runS ⟨F.x, F.b, F.m, F.o, F.t⟩ (hM H.size) cw ⟨CWp_blind, fun U hU hW => ⟨rfl, by rw [hU], by rw [hU]; exact hP, va_K.moved hW.alike F.k, hD.weaken (fun _ _ _ _ => trivial)⟩⟩ rfl hn hl.1 rfl (lv_room hsum) hd hcs) hS (fun q _ h => hI q h) hI (fun r u t H1 locs1 ht hvm hw hB hz1 hk1 hS1 => kk r u hw H1 locs1 ls (by rw [← ht]; exact hB) (wl_D hD) hS1 hl)
theorem g_callVL (F : Fr own cc nL D cA X) {post : Int64 → (Nat → va_E) → Prop} (hM : CtL l D cA y bytes maxL rm n ad E (.ref (ad k) :: av) post) (kv : KV y C bytes maxL (some .long) na) (hw : Cond.methodLink own ix y ∈ TT) (hE : E k = .inr (ci, fs)) (hc : vwCl[ci]? = some (C, T, N)) (hkn : k < n) (hrm : rm.cells = 0 ∧ rm.slots = 0) (hR : rm.frames + 1 ≤ R.frames ∧ 8 + (maxL + 11) + rm.locals ≤ R.locals) (hcs : cl ≤ R.cells ∧ sl ≤ R.slots) (hn : av.length = na) (hst : stk = av.reverse ++ .ref (ad k) :: st) (hsum : (st.map fun v => v.category).sum ≤ 8) (hd : decode cc pc = .ok (.invokevirtual ix, 3)) (hq : pc + 3 = q)
    (kk : ∀ (r : Int64) (E' : Nat → va_E), post r E' → GG R nL l D X cl sl n ad E' q lv (.long r :: st)) : GG R nL l D X cl sl n ad E pc lv stk := by
  subst hq
  subst hst
  intro H locs ls hP hD hS hl
  have hI := AA_in hD hS F.a
  have cw := cwVT (R := R) F.t kv hw hR
  rw [hrm.1, hrm.2] at cw
  exact va_calll (va_runV ⟨F.x, F.b, F.m, F.o, F.t⟩ (hM H.size) cw ⟨CWp_blind, va_recv F.k hP hc (by rw [wl_get hkn, hE]), fun U hU hW => ⟨rfl, by rw [hU], by rw [hU]; exact hP, va_K.moved hW.alike F.k, hD.weaken (fun _ _ _ _ => trivial)⟩⟩ rfl hn hl.1 rfl (lv_room hsum) hd hcs) hS (fun q _ h => hI q h) hI (fun r u t H1 locs1 ht hvm hw hB hz1 hk1 hS1 => kk r u hw H1 locs1 ls (by rw [← ht]; exact hB) (wl_D hD) hS1 hl)
theorem g_callSL (F : Fr own cc nL D cA X) {post : Int64 → (Nat → va_E) → Prop} (hM : CtL l D cA y bytes maxL rm n ad E av post) (kv : KS y C bytes maxL (some .long) na) (hw : Cond.methodLink own ix y ∈ TT) (hrm : rm.cells = 0 ∧ rm.slots = 0) (hR : rm.frames + 1 ≤ R.frames ∧ 8 + (maxL + 11) + rm.locals ≤ R.locals) (hcs : cl ≤ R.cells ∧ sl ≤ R.slots) (hn : av.length = na) (hst : stk = av.reverse ++ st) (hsum : (st.map fun v => v.category).sum ≤ 8) (hd : decode cc pc = .ok (.invokestatic ix, 3)) (hq : pc + 3 = q)
    (kk : ∀ (r : Int64) (E' : Nat → va_E), post r E' → GG R nL l D X cl sl n ad E' q lv (.long r :: st)) : GG R nL l D X cl sl n ad E pc lv stk := by
  subst hq
  subst hst
  intro H locs ls hP hD hS hl
  have hI := AA_in hD hS F.a
  have cw := cwST (R := R) F.t kv hw hR
  rw [hrm.1, hrm.2] at cw
  exact va_calll (va_runS ⟨F.x, F.b, F.m, F.o, F.t⟩ (hM H.size) cw ⟨CWp_blind, fun U hU hW => ⟨rfl, by rw [hU], by rw [hU]; exact hP, va_K.moved hW.alike F.k, hD.weaken (fun _ _ _ _ => trivial)⟩⟩ rfl hn hl.1 rfl (lv_room hsum) hd hcs) hS (fun q _ h => hI q h) hI (fun r u t H1 locs1 ht hvm hw hB hz1 hk1 hS1 => kk r u hw H1 locs1 ls (by rw [← ht]; exact hB) (wl_D hD) hS1 hl)
theorem g_callVV (F : Fr own cc nL D cA X) {post : (Nat → va_E) → Prop} (hM : CtV l D cA y bytes maxL rm n ad E (.ref (ad k) :: av) post) (kv : KV y C bytes maxL (none) na) (hw : Cond.methodLink own ix y ∈ TT) (hE : E k = .inr (ci, fs)) (hc : vwCl[ci]? = some (C, T, N)) (hkn : k < n) (hrm : rm.cells = 0 ∧ rm.slots = 0) (hR : rm.frames + 1 ≤ R.frames ∧ 8 + (maxL + 11) + rm.locals ≤ R.locals) (hcs : cl ≤ R.cells ∧ sl ≤ R.slots) (hn : av.length = na) (hst : stk = av.reverse ++ .ref (ad k) :: st) (hsum : (st.map fun v => v.category).sum ≤ 8) (hd : decode cc pc = .ok (.invokevirtual ix, 3)) (hq : pc + 3 = q)
    (kk : ∀ (E' : Nat → va_E), post E' → GG R nL l D X cl sl n ad E' q lv (st)) : GG R nL l D X cl sl n ad E pc lv stk := by
  subst hq
  subst hst
  intro H locs ls hP hD hS hl
  have hI := AA_in hD hS F.a
  have cw := cwVT (R := R) F.t kv hw hR
  rw [hrm.1, hrm.2] at cw
  exact va_callv (va_runV ⟨F.x, F.b, F.m, F.o, F.t⟩ (hM H.size) cw ⟨CWp_blind, va_recv F.k hP hc (by rw [wl_get hkn, hE]), fun U hU hW => ⟨rfl, by rw [hU], by rw [hU]; exact hP, va_K.moved hW.alike F.k, hD.weaken (fun _ _ _ _ => trivial)⟩⟩ rfl hn hl.1 rfl (lv_room hsum) hd hcs) hS (fun q _ h => hI q h) hI (fun u t H1 locs1 ht hvm hw hB hz1 hk1 hS1 => kk u hw H1 locs1 ls (by rw [← ht]; exact hB) (wl_D hD) hS1 hl)
theorem g_callSV (F : Fr own cc nL D cA X) {post : (Nat → va_E) → Prop} (hM : CtV l D cA y bytes maxL rm n ad E av post) (kv : KS y C bytes maxL (none) na) (hw : Cond.methodLink own ix y ∈ TT) (hrm : rm.cells = 0 ∧ rm.slots = 0) (hR : rm.frames + 1 ≤ R.frames ∧ 8 + (maxL + 11) + rm.locals ≤ R.locals) (hcs : cl ≤ R.cells ∧ sl ≤ R.slots) (hn : av.length = na) (hst : stk = av.reverse ++ st) (hsum : (st.map fun v => v.category).sum ≤ 8) (hd : decode cc pc = .ok (.invokestatic ix, 3)) (hq : pc + 3 = q)
    (kk : ∀ (E' : Nat → va_E), post E' → GG R nL l D X cl sl n ad E' q lv (st)) : GG R nL l D X cl sl n ad E pc lv stk := by
  subst hq
  subst hst
  intro H locs ls hP hD hS hl
  have hI := AA_in hD hS F.a
  have cw := cwST (R := R) F.t kv hw hR
  rw [hrm.1, hrm.2] at cw
  exact va_callv (va_runS ⟨F.x, F.b, F.m, F.o, F.t⟩ (hM H.size) cw ⟨CWp_blind, fun U hU hW => ⟨rfl, by rw [hU], by rw [hU]; exact hP, va_K.moved hW.alike F.k, hD.weaken (fun _ _ _ _ => trivial)⟩⟩ rfl hn hl.1 rfl (lv_room hsum) hd hcs) hS (fun q _ h => hI q h) hI (fun u t H1 locs1 ht hvm hw hB hz1 hk1 hS1 => kk u hw H1 locs1 ls (by rw [← ht]; exact hB) (wl_D hD) hS1 hl)
theorem CtI.of {ret : FieldType} {post : Int32 → (Nat → va_E) → Prop} (hy : plainFor y = true) (hlen : (lg_sl av).length ≤ nL)
    (body : ∀ X : GX, Fr y.cls cc nL D cA X → (∀ (v : Int32) (E' : Nat → va_E) (pc : Nat) (lv : List (Nat × Value)), decode cc pc = .ok (.ireturn, 1) → narrow ret (.int v) = .int v → post v E' → GG rm nL l D X 0 0 n ad E' pc lv [.int v]) → GG rm nL l D X 0 0 n ad E 0 (lv_args 0 av) []) : CtI l D cA y cc nL ret rm n ad E av post := by
  intro sz
  refine va_MetF (cc := cc) (maxL := nL) (ret := some ret) hy rfl ?_
  intro p e s m args below meth c s₁ B hml hv
  obtain ⟨rfl, hsz, hP, hK, hD0⟩ := hv
  subst hsz
  have F : Fr y.cls cc nL D cA (p, e, s, m, av.toArray, below, meth, c, AA n ad s.heap.size, MQ below (va_Qi post (fun E' t => va_P D vwCl (wl n ad E') t.heap) (AA n ad s.heap.size)) av.toArray s 0 0 (AA n ad s.heap.size)) := ⟨B.exec, B.bytes, hml, findClass_of_methodNamed B.named, hts_of B.pre, hK, fun q h => Or.inr h⟩
  have hlocks := B.notSynchronized
  rw [lg_entry_eq]
  refine body _ F ?_ s.heap [] _ hP (wl_AA hD0) va_S.rf (lv_entry av hlen)
  intro v E' pc lv hd hnr hp H locs ls hP hD hS hl
  exact W.zret F.x F.b B.returns hnr (fun t ht hW => ⟨⟨v, E', rfl, hp, by show va_P D vwCl (wl n ad E') t.heap; rw [ht]; exact hP⟩, hS.F ht⟩) hS.2.2 hd hlocks
theorem CtL.of {post : Int64 → (Nat → va_E) → Prop} (hy : plainFor y = true) (hlen : (lg_sl av).length ≤ nL)
    (body : ∀ X : GX, Fr y.cls cc nL D cA X → (∀ (v : Int64) (E' : Nat → va_E) (pc : Nat) (lv : List (Nat × Value)), decode cc pc = .ok (.lreturn, 1) → post v E' → GG rm nL l D X 0 0 n ad E' pc lv [.long v]) → GG rm nL l D X 0 0 n ad E 0 (lv_args 0 av) []) : CtL l D cA y cc nL rm n ad E av post := by
  intro sz
  refine va_MetF (cc := cc) (maxL := nL) (ret := some .long) hy rfl ?_
  intro p e s m args below meth c s₁ B hml hv
  obtain ⟨rfl, hsz, hP, hK, hD0⟩ := hv
  subst hsz
  have F : Fr y.cls cc nL D cA (p, e, s, m, av.toArray, below, meth, c, AA n ad s.heap.size, MQ below (va_Ql post (fun E' t => va_P D vwCl (wl n ad E') t.heap) (AA n ad s.heap.size)) av.toArray s 0 0 (AA n ad s.heap.size)) := ⟨B.exec, B.bytes, hml, findClass_of_methodNamed B.named, hts_of B.pre, hK, fun q h => Or.inr h⟩
  have hlocks := B.notSynchronized
  rw [lg_entry_eq]
  refine body _ F ?_ s.heap [] _ hP (wl_AA hD0) va_S.rf (lv_entry av hlen)
  intro v E' pc lv hd hp H locs ls hP hD hS hl
  exact W.lret F.x F.b B.returns (fun t ht hW => ⟨⟨v, E', rfl, hp, by show va_P D vwCl (wl n ad E') t.heap; rw [ht]; exact hP⟩, hS.F ht⟩) hS.2.2 hd hlocks
theorem CtV.of {post : (Nat → va_E) → Prop} (hy : plainFor y = true) (hlen : (lg_sl av).length ≤ nL)
    (body : ∀ X : GX, Fr y.cls cc nL D cA X → (∀ (E' : Nat → va_E) (pc : Nat) (lv : List (Nat × Value)), decode cc pc = .ok (.return_, 1) → post E' → GG rm nL l D X 0 0 n ad E' pc lv []) → GG rm nL l D X 0 0 n ad E 0 (lv_args 0 av) []) : CtV l D cA y cc nL rm n ad E av post := by
  intro sz
  refine va_MetF (cc := cc) (maxL := nL) (ret := none) hy rfl ?_
  intro p e s m args below meth c s₁ B hml hv
  obtain ⟨rfl, hsz, hP, hK, hD0⟩ := hv
  subst hsz
  have F : Fr y.cls cc nL D cA (p, e, s, m, av.toArray, below, meth, c, AA n ad s.heap.size, MQ below (va_Qv post (fun E' t => va_P D vwCl (wl n ad E') t.heap) (AA n ad s.heap.size)) av.toArray s 0 0 (AA n ad s.heap.size)) := ⟨B.exec, B.bytes, hml, findClass_of_methodNamed B.named, hts_of B.pre, hK, fun q h => Or.inr h⟩
  have hlocks := B.notSynchronized
  rw [lg_entry_eq]
  refine body _ F ?_ s.heap [] _ hP (wl_AA hD0) va_S.rf (lv_entry av hlen)
  intro E' pc lv hd hp H locs ls hP hD hS hl
  exact W.vret F.x F.b B.returns (fun t ht hW => ⟨⟨E', rfl, hp, by show va_P D vwCl (wl n ad E') t.heap; rw [ht]; exact hP⟩, hS.F ht⟩) hS.2.2 hd hlocks
end GGC
theorem nz01 {v : Int32} (h : v = 0 ∨ v = 1) : narrow .boolean (.int v) = .int v := by rcases h with rfl | rfl <;> rfl
theorem nint (v : Int32) : narrow .int (.int v) = .int v := rfl
