/-! ===== the law ===== -/
def Sc (X : GX) (b L : Nat) (xs : Nat → Int32) : Prop := va_X b L xs X.2.2.1 X.2.2.1.heap ∧ b < X.2.2.1.heap.size ∧ ¬ X.2.2.2.2.2.2.2.2.1 b
abbrev LV (ad : Nat → Nat) (b i : Nat) : List (Nat × Value) := [(3, .int (nI i)), (2, .ref (ad 233)), (1, .ref (ad 0)), (0, .ref b)]
section GGL
variable {R : Room} {nL : Nat} {l : Launch} {D : va_G} {X : GX} {cl sl n : Nat} {ad : Nat → Nat} {E : Nat → va_E} {pc q : Nat} {lv : List (Nat × Value)} {st : List Value} {own : String} {cc : ByteArray} {cA : Nat → ClassId} {b L : Nat} {xs : Nat → Int32}
theorem g_sld (F : Fr own cc nL D cA X) (S : Sc X b L xs) {k : Nat} (hk : k < L) (hL : L ≤ 2048) {i : Int32} (hi : i = nI k) (hd : decode cc pc = .ok (.iaload, 1)) (hq : pc + 1 = q) (kk : GG R nL l D X cl sl n ad E q lv (.int (xs k) :: st)) : GG R nL l D X cl sl n ad E pc lv (.int i :: .ref b :: st) := by
  subst hq
  subst hi
  exact fun H locs ls hP hD hS hl => va_sld F.x F.b S.1 S.2.1 S.2.2 hS (vp_in_nI hk (by omega)) hd (by rw [nI_clamp (by omega)]; exact kk H locs ls hP hD hS hl)
theorem g_slen (F : Fr own cc nL D cA X) (S : Sc X b L xs) (hd : decode cc pc = .ok (.arraylength, 1)) (hq : pc + 1 = q) (kk : GG R nL l D X cl sl n ad E q lv (.int (Int32.ofNat L) :: st)) : GG R nL l D X cl sl n ad E pc lv (.ref b :: st) := by
  subst hq
  exact fun H locs ls hP hD hS hl => va_slen F.x F.b S.1 S.2.1 S.2.2 hS hd (kk H locs ls hP hD hS hl)
theorem g_arg (F : Fr own cc 4 D cA X) (S : Sc X b L xs) (k : Nat) {i : Nat} (hk : i + k < L) (hL : L ≤ 2048) {kz : Int} (hkz : Int32.ofInt kz = nI k) (d0 : decode cc pc = .ok (.aload_n 0, 1)) (d1 : decode cc (pc + 1) = .ok (.iload_n 3, 1)) (d2 : decode cc (pc + 2) = .ok (.iconst kz, 1)) (d3 : decode cc (pc + 3) = .ok (.iadd, 1)) (d4 : decode cc (pc + 4) = .ok (.iaload, 1)) (hq : pc + 5 = q)
    (kk : GG R 4 l D X cl sl n ad E q (LV ad b i) (.int (xs (i + k)) :: st)) : GG R 4 l D X cl sl n ad E pc (LV ad b i) st := by
  subst hq
  refine g_aload_n F (q := pc + 1) d0 rfl rfl 3 rfl ?_
  refine g_iload_n F (q := pc + 2) d1 rfl rfl 0 rfl ?_
  refine g_iconst F (q := pc + 3) (v := nI k) d2 rfl hkz ?_
  refine g_iadd F (q := pc + 4) d3 rfl ?_
  exact g_sld F S hk hL (nA rfl rfl) d4 rfl kk
theorem g_bool (F : Fr own cc nL D cA X) {x : Int32} (d0 : decode cc pc = .ok (.ifCond .eq 7, 3)) (d1 : decode cc (pc + 3) = .ok (.iconst 1, 1)) (d2 : decode cc (pc + 4) = .ok (.goto 4, 3)) (d3 : decode cc (pc + 7) = .ok (.iconst 0, 1)) (hq : pc + 8 = q)
    (kk : GG R nL l D X cl sl n ad E q lv (.int (if x = 0 then 0 else 1) :: st)) : GG R nL l D X cl sl n ad E pc lv (.int x :: st) := by
  subst hq
  refine g_if_eq F (q := pc + 3) (tgt := pc + 7) d0 (by omega) rfl (fun h => ?_) (fun h => ?_)
  · refine g_iconst F (q := pc + 8) (v := 0) d3 rfl (by decide) ?_
    rw [if_pos h] at kk
    exact kk
  · refine g_iconst F (q := pc + 4) (v := 1) d1 rfl (by decide) ?_
    refine g_goto F (tgt := pc + 8) d2 (by omega) ?_
    rw [if_neg h] at kk
    exact kk
end GGL
