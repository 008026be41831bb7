/-! what the constructors ask of the tables besides TT -/
theorem va_AOA.moved {ty : FieldType} {u U : State} (hvm : u.vm.Alike U.vm) (h : va_AOA ty u) : va_AOA ty U := by
  have e := Cond.arrayOver_setVmC (args := #[]) (s := u) hvm (.array ty)
  have e2 : (Cond.arrayOver (.array ty)).before #[] U = (Cond.arrayOver (.array ty)).before #[] (u.setVm U.vm) := by
    simp only [Cond.before, Cond.holds, Cond.value, State.vm_setVm]
    rfl
  show (Cond.arrayOver (.array ty)).before #[] U = true
  rw [e2, e]
  exact h
def NW (U : State) : Prop :=
  va_Nw (.methodLinkNest "ThumpEars" 9 yX5_init "ThumpEars") U ∧ va_Nw (.methodLinkNest "ThumpEars$State" 30 yX3_init "ThumpEars") U ∧ va_Nw (.methodLinkNest "ThumpEars$History" 21 yX5_init "ThumpEars") U ∧
  va_Nw (.methodLinkNest "ThumpEars" 32 yX2_init "ThumpEars") U ∧ va_Nw (.methodLinkNest "ThumpEars" 39 yX1_init "ThumpEars") U ∧ va_Nw (.methodLinkNest "ThumpEars" 46 yX4_init "ThumpEars") U ∧ va_AO "ThumpEars$State" U ∧ va_AOA .int U
theorem NW.a {U : State} (h : NW U) : va_Nw (.methodLinkNest "ThumpEars" 9 yX5_init "ThumpEars") U := h.1
theorem NW.b {U : State} (h : NW U) : va_Nw (.methodLinkNest "ThumpEars$State" 30 yX3_init "ThumpEars") U := h.2.1
theorem NW.c {U : State} (h : NW U) : va_Nw (.methodLinkNest "ThumpEars$History" 21 yX5_init "ThumpEars") U := h.2.2.1
theorem NW.d {U : State} (h : NW U) : va_Nw (.methodLinkNest "ThumpEars" 32 yX2_init "ThumpEars") U := h.2.2.2.1
theorem NW.e {U : State} (h : NW U) : va_Nw (.methodLinkNest "ThumpEars" 39 yX1_init "ThumpEars") U := h.2.2.2.2.1
theorem NW.f {U : State} (h : NW U) : va_Nw (.methodLinkNest "ThumpEars" 46 yX4_init "ThumpEars") U := h.2.2.2.2.2.1
theorem NW.g {U : State} (h : NW U) : va_AO "ThumpEars$State" U := h.2.2.2.2.2.2.1
theorem NW.h {U : State} (h : NW U) : va_AOA .int U := h.2.2.2.2.2.2.2
theorem NW.warm {s U : State} (hW : s.WarmedH U.vm) (h : NW s) : NW U :=
  ⟨va_Nw.warmM hW h.a, va_Nw.warmM hW h.b, va_Nw.warmM hW h.c, va_Nw.warmM hW h.d, va_Nw.warmM hW h.e, va_Nw.warmM hW h.f, va_AO.moved hW.alike h.g, va_AOA.moved hW.alike h.h⟩
theorem NW.call {U : State} {g : JFrame} {mk : MethodId} {a : Array Value} (h : NW U) : NW (U.calling g mk a) :=
  ⟨va_Nw.same rfl rfl h.a, va_Nw.same rfl rfl h.b, va_Nw.same rfl rfl h.c, va_Nw.same rfl rfl h.d, va_Nw.same rfl rfl h.e, va_Nw.same rfl rfl h.f, va_AO.moved (Vm.Alike.refl U.vm) h.g, va_AOA.moved (Vm.Alike.refl U.vm) h.h⟩
/-- a constructor's contract: the world grows from n cells to n2 -/
def CtN (l : Launch) (D : va_G) (cA : Nat → ClassId) (y : MethodName) (bytes : ByteArray) (maxL : Nat) (rm : Room) (n n2 mc ms : Nat) (ad : Nat → Nat) (E : Nat → va_E) (av : List Value) (post : (Nat → Nat) → (Nat → va_E) → Prop) : Prop :=
  ∀ sz : Nat, Met l y (.code y bytes maxL none :: TT) rm (va_Pc av (fun U => U.heap.size = sz ∧ CWp D cA n ad E U ∧ NW U)) (va_Qv (fun u : (Nat → Nat) × (Nat → va_E) => post u.1 u.2) (fun u t => va_P D vwCl (wl n2 u.1 u.2) t.heap ∧ va_D (AA n ad sz) (wl n2 u.1 u.2)) (AA n ad sz)) mc ms (AA n ad sz)
theorem CWn_blind {D : va_G} {cA : Nat → ClassId} {n sz : Nat} {ad : Nat → Nat} {E : Nat → va_E} {av : List Value} : FrameBlind (va_Pc av (fun U => U.heap.size = sz ∧ CWp D cA n ad E U ∧ NW U)) := fun a U g mk q => by
  obtain ⟨q0, q1, ⟨qP, qK, qD⟩, qN⟩ := q
  exact ⟨q0, q1, ⟨qP, va_K.moved (u := U) (U := U.calling g mk a) (Vm.Alike.refl U.vm) qK, qD⟩, NW.call qN⟩
def KN (y : MethodName) (bytes : ByteArray) (maxL : Nat) : Prop := Cond.instanceMethod y ∈ TT ∧ Cond.initialized y.cls ∈ TT ∧ Cond.code y bytes maxL none ∈ TT ∧ y.name = "<init>" ∧ (y.cls ≠ "java/lang/invoke/MethodHandle" ∧ y.cls ≠ "java/lang/invoke/VarHandle" ∧ (parseMethodDescriptor y.desc).map (fun d => d.parameters.length) = some 0)
theorem wl_app {m j : Nat} {ad : Nat → Nat} {E : Nat → va_E} {r : Nat → Nat} {e : va_E} : wl m ad E ++ (List.range j).map (fun i => (r i, e)) = wl (m + j) (fun k => if k < m then ad k else r (k - m)) (fun k => if k < m then E k else e) := by
  unfold wl
  rw [List.range_add, List.map_append, List.map_map]
  congr 1
  · apply List.map_congr_left
    intro k hk
    have := List.mem_range.mp hk
    simp [this]
  · apply List.map_congr_left
    intro i hi
    show (r i, e) = (if m + i < m then ad (m + i) else r (m + i - m), if m + i < m then E (m + i) else e)
    rw [if_neg (by omega), if_neg (by omega), Nat.add_sub_cancel_left]
section GGM
variable {R : Room} {nL : Nat} {l : Launch} {D : va_G} {X : GX} {cl sl n n2 mc ms : Nat} {ad : Nat → Nat} {E : Nat → va_E} {pc q : Nat} {lv : List (Nat × Value)} {st : List Value} {own : String} {cc : ByteArray} {cA : Nat → ClassId} {y : MethodName} {bytes : ByteArray} {maxL ix : Nat} {rm : Room} {av : List Value}
theorem CtN.of {post : (Nat → Nat) → (Nat → va_E) → Prop} (hy : plainFor y = true) (hlen : (lg_sl av).length ≤ nL) (hname : y.name = "<init>")
    (body : ∀ X : GX, Fr y.cls cc nL D cA X → X.2.2.2.2.2.2.1.name = "<init>" → NW X.2.2.1 → (∀ (ad' : Nat → Nat) (E' : Nat → va_E) (pc : Nat) (lv : List (Nat × Value)), decode cc pc = .ok (.return_, 1) → post ad' E' → GG rm nL l D X mc ms n2 ad' E' pc lv []) → GG rm nL l D X 0 0 n ad E 0 (lv_args 0 av) []) : CtN l D cA y cc nL rm n n2 mc ms ad E av post := by
  intro sz
  refine va_MetF (cc := cc) (maxL := nL) (ret := none) hy rfl ?_
  intro p e s m args below meth c s₁ B hml hv
  obtain ⟨rfl, hsz, ⟨hP, hK, hD0⟩, hN⟩ := hv
  subst hsz
  have F : Fr y.cls cc nL D cA (p, e, s, m, av.toArray, below, meth, c, AA n ad s.heap.size, MQ below (va_Qv (fun u : (Nat → Nat) × (Nat → va_E) => post u.1 u.2) (fun u t => va_P D vwCl (wl n2 u.1 u.2) t.heap ∧ va_D (AA n ad s.heap.size) (wl n2 u.1 u.2)) (AA n ad s.heap.size)) av.toArray s mc ms (AA n ad s.heap.size)) := ⟨B.exec, B.bytes, hml, findClass_of_methodNamed B.named, hts_of B.pre, hK, fun q h => Or.inr h⟩
  have hlocks := B.notSynchronized
  have hin : meth.name = "<init>" := by rw [(name_of_methodNamed B.named B.method).1]; exact hname
  rw [lg_entry_eq]
  refine body _ F hin hN ?_ s.heap [] _ hP (wl_AA hD0) va_S.rf (lv_entry av hlen)
  intro ad' E' pc lv hd hp H locs ls hP hD hS hl
  exact W.vret F.x F.b B.returns (fun t ht hW => ⟨⟨(ad', E'), rfl, hp, by show va_P D vwCl (wl n2 ad' E') t.heap; rw [ht]; exact hP, hD⟩, hS.F ht⟩) hS.2.2 hd hlocks
/-- a constructor of a nest mate -/
theorem g_callN (F : Fr own cc nL D cA X) {a : Nat} {post : (Nat → Nat) → (Nat → va_E) → Prop} (hM : CtN l D cA y bytes maxL rm n n2 mc ms ad E [.ref a] post) (kn : KN y bytes maxL) (hNW : NW X.2.2.1) {host : String} (hw : va_Nw (.methodLinkNest own ix y host) X.2.2.1) (hrm : rm.cells = mc ∧ rm.slots = ms) (hR : rm.frames + 1 ≤ R.frames ∧ 8 + (maxL + 11) + rm.locals ≤ R.locals) (hcs : cl + mc ≤ R.cells ∧ sl + ms ≤ R.slots) (hsum : (st.map fun v => v.category).sum ≤ 8) (hd : decode cc pc = .ok (.invokespecial ix, 3)) (hq : pc + 3 = q)
    (kk : ∀ (ad' : Nat → Nat) (E' : Nat → va_E), post ad' E' → GG R nL l D X (cl + mc) (sl + ms) n2 ad' E' q lv st) : GG R nL l D X cl sl n ad E pc lv (.ref a :: st) := by
  subst hq
  intro H locs ls hP hD hS hl
  have hI := AA_in hD hS F.a
  obtain ⟨k1, k2, k3, k4, k5⟩ := kn
  have hG : GoodIn TT (Cond.code y bytes maxL none :: TT) := goodTT (fun w h => by
    rcases List.mem_cons.mp h with rfl | h
    · exact k3
    · exact h)
  exact va_callv (va_runIN (As := []) (rest := st) ⟨F.x, F.b, F.m, F.o, F.t⟩ (hM H.size) ⟨va_cnB 0 F.t hG rfl hrm.1 hrm.2 hw (F.t _ k2) k5 hR, k4, F.t _ k1⟩ ⟨CWn_blind, fun U hU hW => ⟨rfl, by rw [hU], ⟨by rw [hU]; exact hP, va_K.moved hW.alike F.k, hD.weaken (fun _ _ _ _ => trivial)⟩, NW.warm hW hNW⟩⟩ rfl rfl hl.1 rfl (lv_room hsum) hd hcs) hS (fun q _ h => hI q h) hI (fun u t H1 locs1 ht hvm hw hB hz1 hk1 hS1 => kk u.1 u.2 hw H1 locs1 ls (by rw [← ht]; exact hB.1) (hB.2.weaken (fun k q _ h => hI q.1 h)) hS1 hl)
/-- a constructor by a plain link -/
theorem g_callO (F : Fr own cc nL D cA X) {a : Nat} {post : (Nat → Nat) → (Nat → va_E) → Prop} (hM : CtN l D cA y bytes maxL rm n n2 mc ms ad E [.ref a] post) (kn : KN y bytes maxL) (hNW : NW X.2.2.1) (hw : Cond.methodLink own ix y ∈ TT) (hrm : rm.cells = mc ∧ rm.slots = ms) (hR : rm.frames + 1 ≤ R.frames ∧ 8 + (maxL + 11) + rm.locals ≤ R.locals) (hcs : cl + mc ≤ R.cells ∧ sl + ms ≤ R.slots) (hsum : (st.map fun v => v.category).sum ≤ 8) (hd : decode cc pc = .ok (.invokespecial ix, 3)) (hq : pc + 3 = q)
    (kk : ∀ (ad' : Nat → Nat) (E' : Nat → va_E), post ad' E' → GG R nL l D X (cl + mc) (sl + ms) n2 ad' E' q lv st) : GG R nL l D X cl sl n ad E pc lv (.ref a :: st) := by
  subst hq
  intro H locs ls hP hD hS hl
  have hI := AA_in hD hS F.a
  obtain ⟨k1, k2, k3, k4, k5⟩ := kn
  have hG : GoodIn TT (Cond.code y bytes maxL none :: TT) := goodTT (fun w h => by
    rcases List.mem_cons.mp h with rfl | h
    · exact k3
    · exact h)
  exact va_callv (va_runI (As := []) (rest := st) ⟨F.x, F.b, F.m, F.o, F.t⟩ (hM H.size) (cwI 0 F.t hG rfl hrm.1 hrm.2 (F.t _ k2) (F.t _ hw) (F.t _ k1) k4 k5 hR) ⟨CWn_blind, fun U hU hW => ⟨rfl, by rw [hU], ⟨by rw [hU]; exact hP, va_K.moved hW.alike F.k, hD.weaken (fun _ _ _ _ => trivial)⟩, NW.warm hW hNW⟩⟩ rfl rfl hl.1 rfl (lv_room hsum) hd hcs) hS (fun q _ h => hI q h) hI (fun u t H1 locs1 ht hvm hw hB hz1 hk1 hS1 => kk u.1 u.2 hw H1 locs1 ls (by rw [← ht]; exact hB.1) (hB.2.weaken (fun k q _ h => hI q.1 h)) hS1 hl)
/-- an array of references told in another way, the same below its length -/
theorem g_same {E' : Nat → va_E} (hs : ∀ k, k < n → E' k = E k ∨ ∃ (c : ClassId) (N : Nat) (f g : Nat → Option Nat), E k = .inl (c, N, .inr (.inr (.inr (.inr f)))) ∧ E' k = .inl (c, N, .inr (.inr (.inr (.inr g)))) ∧ ∀ i, i < N → f i = g i) (kk : GG R nL l D X cl sl n ad E' pc lv st) : GG R nL l D X cl sl n ad E pc lv st := by
  refine fun H locs ls hP hD hS hl => kk H locs ls (fun k q hk => ?_) (wl_D hD) hS hl
  obtain ⟨h1, rfl⟩ := wl_is hk
  have h0 := hP k _ (wl_get h1)
  rcases hs k h1 with e | ⟨c, N, f, g, e1, e2, e3⟩
  · rw [e]; exact h0
  · rw [e2]
    rw [e1] at h0
    have h0 : H[ad k]? = some (vp_cell c (N, .inr (.inr (.inr (.inr f))))) := h0
    show H[ad k]? = some (vp_cell c (N, .inr (.inr (.inr (.inr g)))))
    rw [h0, vp_cell_q, vp_cell_q]
    refine congrArg some ?_
    unfold arrV
    congr 1
    apply congrArg
    funext j
    show va_rf (f j.val) = va_rf (g j.val)
    rw [e3 j.val j.isLt]
theorem g_mna (F : Fr own cc nL D cA X) (hw : Cond.classLink own ix "[[I" ∈ TT) (ho : va_AOA .int X.2.2.1) (ha : Cond.arrayClass .int ∈ TT) (hcells : cl + 11 ≤ R.cells) (hslots : sl + 110 ≤ R.slots) (hd : decode cc pc = .ok (.multianewarray ix 2, 4)) (hq : pc + 4 = q)
    (kk : ∀ (ad' : Nat → Nat) (E' : Nat → va_E), (∀ k, k < n → ad' k = ad k) → (∀ k, k < n → E' k = E k) → E' n = .inl (cA 5, 10, .inr (.inr (.inr (.inr (fun i => some (ad' (n + 1 + i))))))) → (∀ i, i < 10 → E' (n + 1 + i) = .inl (cA 0, 10, .inl (fun _ => 0))) → GG R nL l D X (cl + 11) (sl + 110) (n + 11) ad' E' q lv (.ref (ad' n) :: st)) : GG R nL l D X cl sl n ad E pc lv (.int 10 :: .int 10 :: st) := by
  subst hq
  intro H locs ls hP hD hS hl
  have c10 : (10 : Int32).toNatClampNeg = 10 := by decide
  have hcy : X.2.2.1.vm.findClass (FieldType.array .int).toString = some (cA 0) := (F.k.2 0 _ rfl).2
  have hP0 : va_P D vwCl (wl n ad E ++ va_pl [] E) H := by unfold va_pl; rw [List.map_nil, List.append_nil]; exact hP
  have hD0 : va_D X.2.2.2.2.2.2.2.2.1 (wl n ad E ++ va_pl [] E) := by unfold va_pl; rw [List.map_nil, List.append_nil]; exact hD
  refine va_mna (ty := .int) (cy := cA 0) (N' := 10) (K' := 10) (z := (10, .inl (fun _ => 0))) F.x F.b F.o (F.t _ hw) ho (F.t _ ha) hcy F.k hP0 hD0 hS F.a (by decide) (by decide) c10 c10 (by decide) (by decide) (by decide) (by decide) (by decide) hcells hslots (fun c => ?_) hd (fun a r c H1 hr1 hr2 hK1 hP1 hD1 hS1 => ?_)
  · show ({ cls := c, slots := Array.replicate 10 (.int 0), vm := .none } : Cell) = _
    rw [arrV_new]
    rfl
  · have hc : c = cA 5 := by
      have h1 := (hK1.2 6 (c, .array .int) (by rfl)).2
      have h2 := (F.k.2 5 (cA 5, .array .int) (by rfl)).2
      exact Option.some.inj (h1.symm.trans h2)
    subst hc
    have hpl : va_pl ([] ++ (List.range 10).map r) (vr_up E ((List.range 10).map r) (.inl (cA 0, 10, .inl (fun _ => (0 : Int32))))) = (List.range 10).map (fun i => (r i, (.inl (cA 0, 10, .inl (fun _ => (0 : Int32))) : va_E))) := by
      unfold va_pl
      rw [List.nil_append, List.map_map]
      apply List.map_congr_left
      intro i hi
      show (r i, vr_up E ((List.range 10).map r) _ (r i)) = _
      rw [vr_up_in (List.mem_map.mpr ⟨i, hi, rfl⟩)]
    rw [hpl, wl_push, wl_app] at hP1 hD1
    obtain ⟨ad2, ea⟩ : ∃ g : Nat → Nat, g = fun k => if k < n + 1 then va_up ad n a k else r (k - (n + 1)) := ⟨_, rfl⟩
    obtain ⟨E2, eE⟩ : ∃ g : Nat → va_E, g = fun k => if k < n + 1 then va_up E n (.inl (cA 5, 10, .inr (.inr (.inr (.inr (fun i => if i < 10 then some (r i) else none)))))) k else .inl (cA 0, 10, .inl (fun _ => (0 : Int32))) := ⟨_, rfl⟩
    rw [← ea, ← eE] at hP1
    rw [← ea, ← eE] at hD1
    have a1 : ∀ k, k < n → ad2 k = ad k := fun k hk => by
      rw [ea]
      show (if k < n + 1 then va_up ad n a k else _) = _
      rw [if_pos (by omega)]
      exact if_neg (by omega)
    have a2 : ad2 n = a := by
      rw [ea]
      show (if n < n + 1 then va_up ad n a n else _) = _
      rw [if_pos (by omega)]
      exact if_pos rfl
    have a3 : ∀ i, ad2 (n + 1 + i) = r i := fun i => by
      rw [ea]
      show (if n + 1 + i < n + 1 then _ else r (n + 1 + i - (n + 1))) = _
      rw [if_neg (by omega), show n + 1 + i - (n + 1) = i by omega]
    have e1 : ∀ k, k < n → E2 k = E k := fun k hk => by
      rw [eE]
      show (if k < n + 1 then va_up E n _ k else _) = _
      rw [if_pos (by omega)]
      exact if_neg (by omega)
    have e2 : E2 n = .inl (cA 5, 10, .inr (.inr (.inr (.inr (fun i => if i < 10 then some (r i) else none))))) := by
      rw [eE]
      show (if n < n + 1 then va_up E n _ n else _) = _
      rw [if_pos (by omega)]
      exact if_pos rfl
    have e3 : ∀ i, E2 (n + 1 + i) = .inl (cA 0, 10, .inl (fun _ => (0 : Int32))) := fun i => by
      rw [eE]
      show (if n + 1 + i < n + 1 then _ else _) = _
      rw [if_neg (by omega)]
    have key := kk ad2 (va_up E2 n (.inl (cA 5, 10, .inr (.inr (.inr (.inr (fun i => some (ad2 (n + 1 + i))))))))) a1 (fun k hk => (if_neg (by omega)).trans (e1 k hk)) (if_pos rfl) (fun i hi => (if_neg (by omega)).trans (e3 i))
    rw [a2] at key
    refine g_same (fun k hk => ?_) key H1 locs ls hP1 hD1 hS1 hl
    by_cases e : k = n
    · subst e
      refine Or.inr ⟨cA 5, 10, _, _, e2, if_pos rfl, fun i hi => ?_⟩
      show (if i < 10 then some (r i) else none) = some (ad2 (k + 1 + i))
      rw [if_pos hi, a3]
    · exact Or.inl (if_neg e)
end GGM
