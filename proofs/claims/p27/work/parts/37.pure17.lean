/-! ===== the class's Source ===== -/
def bgC (rt : Nat → Int64) (pl : Nat → Int32) (pp : Int64) (x : Int32) (i : Nat) : Int64 := rt i - pp * (if 0 ≤ x - pl i then x - pl i else 0 - (x - pl i)).toInt64
def wdC (rt : Nat → Int64) (pl : Nat → Int32) (pp : Int64) (n : Nat) (x : Nat) : Int64 := mxF (bgC rt pl pp (nI x)) (n - 1) - mnF (bgC rt pl pp (nI x)) (n - 1)
theorem mnF_s {b : Nat → Int64} {i : Nat} : mnF b (i + 1) = if b (i + 1) < mnF b i then b (i + 1) else mnF b i := rfl
theorem mxF_s {b : Nat → Int64} {i : Nat} : mxF b (i + 1) = if b (i + 1) < mxF b i then mxF b i else b (i + 1) := by
  conv => lhs; unfold mxF
  by_cases h : b (i + 1) < mxF b i
  · rw [if_pos h, if_neg (fun q => Int64.lt_irrefl (Int64.lt_trans h q))]
  · rw [if_neg h]
    by_cases h2 : mxF b i < b (i + 1)
    · rw [if_pos h2]
    · rw [if_neg h2]
      exact Int64.le_antisymm (Int64.not_lt.mp h) (Int64.not_lt.mp h2)
theorem bsF_s {w : Nat → Int64} {n : Nat} : bsF w (n + 1) = if w (n + 1) < (bsF w n).2 then (n + 1, w (n + 1)) else bsF w n := rfl
theorem wsF_s {a : Nat → Int64} {i : Nat} : wsF a (i + 1) = if (wsF a i).2 < a (i + 1) then (i + 1, a (i + 1)) else wsF a i := rfl
theorem ab64_e {x : Int64} : (if 0 < x then x else -x) = ab64 x := by
  unfold ab64
  by_cases h : 0 < x
  · rw [if_pos h, if_neg (fun q => Int64.lt_irrefl (Int64.lt_trans h q))]
  · rw [if_neg h]
    by_cases h2 : x < 0
    · rw [if_pos h2]
    · rw [if_neg h2, Int64.le_antisymm (Int64.not_lt.mp h) (Int64.not_lt.mp h2)]; rfl
/-- the ears that heard the knock kn, of those below e, in the Source's rows -/
def sH (r : Nat → Int32) (nt kn e : Nat) (ea pl : Nat → Int32) (rt : Nat → Int64) : Prop := ∀ i, i < hC r kn e → ea i = nI (hI r kn e i) ∧ pl i = r (6 + 4 * hI r kn e i + 0) ∧ rt i = rgt r nt kn (hI r kn e i)
theorem sH_0 {r : Nat → Int32} {nt kn : Nat} {ea pl : Nat → Int32} {rt : Nat → Int64} : sH r nt kn 0 ea pl rt := fun i h => absurd h (Nat.not_lt_zero i)
theorem sH_f {r : Nat → Int32} {nt kn e : Nat} {ea pl : Nat → Int32} {rt : Nat → Int64} (h : r (146 + 100 * 1 + 10 * kn + e) = MISS) (hS : sH r nt kn e ea pl rt) : sH r nt kn (e + 1) ea pl rt := by
  unfold sH
  rw [(hF_f h).1, (hF_f h).2]
  exact hS
theorem sH_t {r : Nat → Int32} {nt kn e : Nat} {ea pl : Nat → Int32} {rt : Nat → Int64} {x : Int32} {y : Int64} (h : ¬ r (146 + 100 * 1 + 10 * kn + e) = MISS) (hS : sH r nt kn e ea pl rt) (hx : x = r (6 + 4 * e + 0)) (hy : y = rgt r nt kn e) : sH r nt kn (e + 1) (upd ea (hC r kn e) (nI e)) (upd pl (hC r kn e) x) (vp_updL rt (hC r kn e) y) := by
  intro i hi
  rw [(hF_t h).1] at hi
  rw [(hF_t h).2]
  by_cases q : i = hC r kn e
  · subst q
    rw [upd_s, upd_s]
    unfold vp_updL
    simp only [if_pos]
    exact ⟨trivial, hx, hy⟩
  · have := hS i (by omega)
    rw [upd_n q, upd_n q]
    unfold vp_updL
    simp only [if_neg q]
    exact this
theorem bgC_bg {r : Nat → Int32} {ne nt nk kn i : Nat} {ea pl : Nat → Int32} {rt : Nat → Int64} {x : Int32} (hV : Inv r ne nt nk) (hS : sH r nt kn ne ea pl rt) (hi : i < hC r kn ne) (hx : 0 ≤ x.toInt ∧ x.toInt ≤ 1000) : bgC rt pl (1000 * (r (46 + 50 * 1 + 5 * kn + 3)).toInt64) x i = bg r nt kn x (hI r kn ne i) := by
  obtain ⟨h1, h2, h3⟩ := hS i hi
  unfold bgC bg
  rw [h3, h2, wy_far hx (hV.pl (hI_in ne i hi).1)]
theorem sH_ms {r : Nat → Int32} {ne nt nk kn : Nat} {ea pl : Nat → Int32} {rt : Nat → Int64} {x : Int32} (hV : Inv r ne nt nk) (hS : sH r nt kn ne ea pl rt) (hc : 0 < hC r kn ne) (hx : 0 ≤ x.toInt ∧ x.toInt ≤ 1000) :
    mnF (bgC rt pl (1000 * (r (46 + 50 * 1 + 5 * kn + 3)).toInt64) x) (hC r kn ne - 1) = lsB r nt kn x ne ∧ mxF (bgC rt pl (1000 * (r (46 + 50 * 1 + 5 * kn + 3)).toInt64) x) (hC r kn ne - 1) = msB r nt kn x ne :=
  ⟨mnF_cg _ (fun j hj => bgC_bg hV hS (by omega) hx), mxF_cg _ (fun j hj => bgC_bg hV hS (by omega) hx)⟩
theorem bsF_cg {b b' : Nat → Int64} : ∀ n, (∀ j, j ≤ n → b j = b' j) → bsF b n = bsF b' n
  | 0, h => by unfold bsF; rw [h 0 (Nat.le_refl _)]
  | n + 1, h => by
    unfold bsF
    rw [bsF_cg n (fun j hj => h j (by omega)), h (n + 1) (Nat.le_refl _)]
theorem sH_plN {r : Nat → Int32} {ne nt nk kn : Nat} {ea pl : Nat → Int32} {rt : Nat → Int64} (hV : Inv r ne nt nk) (hS : sH r nt kn ne ea pl rt) (hc : 0 < hC r kn ne) (N : Nat) (hN : N ≤ 1000) : (bsF (wdC rt pl (1000 * (r (46 + 50 * 1 + 5 * kn + 3)).toInt64) (hC r kn ne)) N).1 = plcN r ne nt kn N := by
  unfold plcN
  rw [bsF_cg N (fun j hj => ?_)]
  have h := sH_ms hV hS hc (x := nI j) (by rw [nI_toInt (by omega)]; omega)
  unfold wdC spW
  rw [h.1, h.2]
theorem sH_pl {r : Nat → Int32} {ne nt nk kn : Nat} {ea pl : Nat → Int32} {rt : Nat → Int64} {N : Nat} (hN : N = 1000) (hV : Inv r ne nt nk) (hS : sH r nt kn ne ea pl rt) (hc : 0 < hC r kn ne) : (bsF (wdC rt pl (1000 * (r (46 + 50 * 1 + 5 * kn + 3)).toInt64) (hC r kn ne)) N).1 = plc r ne nt kn := by
  rw [plc_at hN]
  exact sH_plN hV hS hc N (by omega)
theorem sH_wr {r : Nat → Int32} {ne nt nk kn : Nat} {ea pl : Nat → Int32} {rt : Nat → Int64} {x : Int32} {t : Int64} (hV : Inv r ne nt nk) (hS : sH r nt kn ne ea pl rt) (hc : 0 < hC r kn ne) (hx : 0 ≤ x.toInt ∧ x.toInt ≤ 1000) : ea (wsF (fun i => ab64 (bgC rt pl (1000 * (r (46 + 50 * 1 + 5 * kn + 3)).toInt64) x i - t)) (hC r kn ne - 1)).1 = nI (wrE r ne nt kn x t) := by
  rw [wsF_cg (b' := fun i => ab64 (bg r nt kn x (hI r kn ne i) - t)) _ (fun j hj => by rw [bgC_bg hV hS (by omega) hx])]
  have hl := wsF_le (a := fun i => ab64 (bg r nt kn x (hI r kn ne i) - t)) (hC r kn ne - 1)
  exact (hS _ (by omega)).1
theorem fd2 {u : Int64} : fdl u 2 = dn u 2 := fdl_dn (by decide)
theorem rgt_of {r : Nat → Int32} {nt kn e : Nat} {rd er th : Nat → Int32} {y : Int32} (hH : mH r e nt rd er th) (hy : y = r (146 + 100 * 1 + 10 * kn + e)) : 1000 * y.toInt64 - eA (mC r e nt) rd er y = rgt r nt kn e := by
  subst hy
  unfold rgt errR
  rw [eA_cg (fun j hj => ⟨(hH j hj).1, (hH j hj).2.1⟩)]
theorem mH_mo {r : Nat → Int32} {nt e : Nat} {rd er th : Nat → Int32} (hH : mH r e nt rd er th) : ∀ j, j + 1 < mC r e nt → rd j < rd (j + 1) := fun j hj => by
  rw [(hH j (by omega)).1, (hH (j + 1) hj).1]
  exact mRd_mono nt j hj
theorem mH_b {r : Nat → Int32} {ne nt nk e : Nat} {rd er th : Nat → Int32} (hV : Inv r ne nt nk) (he : e < 10) (hH : mH r e nt rd er th) : ∀ j, j < mC r e nt → -2000 ≤ (rd j).toInt ∧ (rd j).toInt ≤ 130000 := fun j hj => by
  rw [(hH j hj).1]
  exact mRd_b hV he hj
