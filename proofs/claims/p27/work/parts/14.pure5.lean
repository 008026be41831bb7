theorem eA_cg {n : Nat} {R Er R' Er' : Nat → Int32} {c : Int32} (h : ∀ j, j < n → R j = R' j ∧ Er j = Er' j) : eA n R Er c = eA n R' Er' c := by
  have hf : ∀ m, m < n → fI R c m = fI R' c m := by
    intro m
    induction m with
    | zero => intro _; rfl
    | succ m ih =>
      intro hm
      unfold fI
      rw [(h _ hm).1, ih (by omega)]
  unfold eA
  by_cases h2 : n < 2
  · rw [if_pos h2, if_pos h2]
    by_cases h0 : n = 0
    · rw [if_pos h0, if_pos h0]
    · rw [if_neg h0, if_neg h0, (h 0 (by omega)).2]
  · rw [if_neg h2, if_neg h2, hf _ (by omega)]
    have hk := fI_le (R := R') (c := c) (n - 2)
    have h3 := h (fI R' c (n - 2)) (by omega)
    have h4 := h (fI R' c (n - 2) + 1) (by omega)
    rw [h3.1, h3.2, h4.1, h4.2]
/-- the error of an ear at a reading, in thousandths -/
def errR (r : Nat → Int32) (e nt : Nat) (c : Int32) : Int64 := eA (mC r e nt) (mRd r e nt) (mEr r e nt) c
/-- what an ear wrote down of a knock, put right -/
def rgt (r : Nat → Int32) (nt kn e : Nat) : Int64 := 1000 * (r (146 + 100 * 1 + 10 * kn + e)).toInt64 - errR r e nt (r (146 + 100 * 1 + 10 * kn + e))
def hC0 (r : Nat → Int32) (e : Nat) : Nat → Int32
  | 0 => 0
  | k + 1 => hC0 r e k + (if r (146 + 100 * 1 + 10 * k + e) = MISS then 0 else 1)
/-- the ears that heard a knock, in their order: how many below e, and which -/
def hF (r : Nat → Int32) (kn : Nat) : Nat → Nat × (Nat → Nat)
  | 0 => (0, fun _ => 0)
  | e + 1 => if r (146 + 100 * 1 + 10 * kn + e) = MISS then hF r kn e else ((hF r kn e).1 + 1, fun j => if j = (hF r kn e).1 then e else (hF r kn e).2 j)
def hC (r : Nat → Int32) (kn e : Nat) : Nat := (hF r kn e).1
def hI (r : Nat → Int32) (kn e : Nat) : Nat → Nat := (hF r kn e).2
theorem hF_t {r : Nat → Int32} {kn e : Nat} (h : ¬ r (146 + 100 * 1 + 10 * kn + e) = MISS) : hC r kn (e + 1) = hC r kn e + 1 ∧ hI r kn (e + 1) = fun j => if j = hC r kn e then e else hI r kn e j := by
  unfold hC hI
  conv => lhs; lhs; unfold hF
  rw [if_neg h]
  refine ⟨rfl, ?_⟩
  conv => lhs; unfold hF
  rw [if_neg h]
theorem hF_f {r : Nat → Int32} {kn e : Nat} (h : r (146 + 100 * 1 + 10 * kn + e) = MISS) : hC r kn (e + 1) = hC r kn e ∧ hI r kn (e + 1) = hI r kn e := by
  unfold hC hI
  conv => lhs; lhs; unfold hF
  rw [if_pos h]
  refine ⟨rfl, ?_⟩
  conv => lhs; unfold hF
  rw [if_pos h]
theorem hC_le {r : Nat → Int32} {kn : Nat} : ∀ e, hC r kn e ≤ e
  | 0 => Nat.le_refl _
  | e + 1 => by
    have := hC_le (r := r) (kn := kn) e
    by_cases h : r (146 + 100 * 1 + 10 * kn + e) = MISS
    · rw [(hF_f h).1]; omega
    · rw [(hF_t h).1]; omega
theorem hI_in {r : Nat → Int32} {kn : Nat} : ∀ e j, j < hC r kn e → hI r kn e j < e ∧ ¬ r (146 + 100 * 1 + 10 * kn + hI r kn e j) = MISS
  | 0, j, h => absurd h (Nat.not_lt_zero _)
  | e + 1, j, h => by
    by_cases g : r (146 + 100 * 1 + 10 * kn + e) = MISS
    · rw [(hF_f g).1] at h
      rw [(hF_f g).2]
      have := hI_in e j h
      exact ⟨by omega, this.2⟩
    · rw [(hF_t g).1] at h
      rw [(hF_t g).2]
      by_cases q : j = hC r kn e
      · simp only [if_pos q]; exact ⟨by omega, g⟩
      · simp only [if_neg q]
        have := hI_in (r := r) (kn := kn) e j (by omega)
        exact ⟨by omega, this.2⟩
def hN (r : Nat → Int32) (kn : Nat) : Nat → Int32
  | 0 => 0
  | e + 1 => hN r kn e + (if r (146 + 100 * 1 + 10 * kn + e) = MISS then 0 else 1)
theorem hN_t {r : Nat → Int32} {kn e : Nat} (h : ¬ r (146 + 100 * 1 + 10 * kn + e) = MISS) : nI (hC r kn e) + 1 = nI (hC r kn (e + 1)) := by rw [(hF_t h).1, nI_1]
theorem hN_f {r : Nat → Int32} {kn e : Nat} (h : r (146 + 100 * 1 + 10 * kn + e) = MISS) : nI (hC r kn e) + 0 = nI (hC r kn (e + 1)) := by rw [(hF_f h).1]; simp
/-- knocks that an ear heard -/
def kC (r : Nat → Int32) (e : Nat) : Nat → Nat
  | 0 => 0
  | k + 1 => if r (146 + 100 * 1 + 10 * k + e) = MISS then kC r e k else kC r e k + 1
theorem kC_le {r : Nat → Int32} {e : Nat} : ∀ k, kC r e k ≤ k
  | 0 => Nat.le_refl _
  | k + 1 => by
    have := kC_le (r := r) (e := e) k
    unfold kC
    split <;> omega
theorem kN_t {r : Nat → Int32} {e k : Nat} (h : ¬ r (146 + 100 * 1 + 10 * k + e) = MISS) : nI (kC r e k) + 1 = nI (kC r e (k + 1)) := by rw [show kC r e (k + 1) = kC r e k + 1 from if_neg h, nI_1]
theorem kN_f {r : Nat → Int32} {e k : Nat} (h : r (146 + 100 * 1 + 10 * k + e) = MISS) : nI (kC r e k) + 0 = nI (kC r e (k + 1)) := by rw [show kC r e (k + 1) = kC r e k from if_pos h]; simp
/-- from where a knock would have begun, by one ear -/
def bg (r : Nat → Int32) (nt kn : Nat) (x : Int32) (e : Nat) : Int64 := rgt r nt kn e - 1000 * (r (46 + 50 * 1 + 5 * kn + 3)).toInt64 * (far x (r (6 + 4 * e + 0))).toInt64
def mnF (b : Nat → Int64) : Nat → Int64
  | 0 => b 0
  | i + 1 => if b (i + 1) < mnF b i then b (i + 1) else mnF b i
def mxF (b : Nat → Int64) : Nat → Int64
  | 0 => b 0
  | i + 1 => if mxF b i < b (i + 1) then b (i + 1) else mxF b i
theorem mnF_cg {b b' : Nat → Int64} : ∀ n, (∀ j, j ≤ n → b j = b' j) → mnF b n = mnF b' n
  | 0, h => h 0 (Nat.le_refl _)
  | n + 1, h => by
    unfold mnF
    rw [mnF_cg n (fun j hj => h j (by omega)), h (n + 1) (Nat.le_refl _)]
theorem mxF_cg {b b' : Nat → Int64} : ∀ n, (∀ j, j ≤ n → b j = b' j) → mxF b n = mxF b' n
  | 0, h => h 0 (Nat.le_refl _)
  | n + 1, h => by
    unfold mxF
    rw [mxF_cg n (fun j hj => h j (by omega)), h (n + 1) (Nat.le_refl _)]
/-- the least and the greatest beginning of the ears below e, and the spread -/
def lsB (r : Nat → Int32) (nt kn : Nat) (x : Int32) (e : Nat) : Int64 := mnF (fun i => bg r nt kn x (hI r kn e i)) (hC r kn e - 1)
def msB (r : Nat → Int32) (nt kn : Nat) (x : Int32) (e : Nat) : Int64 := mxF (fun i => bg r nt kn x (hI r kn e i)) (hC r kn e - 1)
def spW (r : Nat → Int32) (ne nt kn : Nat) (x : Int32) : Int64 := msB r nt kn x ne - lsB r nt kn x ne
theorem lsB_f {r : Nat → Int32} {nt kn e : Nat} {x : Int32} (h : r (146 + 100 * 1 + 10 * kn + e) = MISS) : lsB r nt kn x (e + 1) = lsB r nt kn x e ∧ msB r nt kn x (e + 1) = msB r nt kn x e := by
  unfold lsB msB
  rw [(hF_f h).1, (hF_f h).2]
  exact ⟨rfl, rfl⟩
theorem lsB_0 {r : Nat → Int32} {nt kn e : Nat} {x : Int32} (h : ¬ r (146 + 100 * 1 + 10 * kn + e) = MISS) (h0 : hC r kn e = 0) : lsB r nt kn x (e + 1) = bg r nt kn x e ∧ msB r nt kn x (e + 1) = bg r nt kn x e := by
  unfold lsB msB
  rw [(hF_t h).1, (hF_t h).2, h0]
  exact ⟨rfl, rfl⟩
theorem lsB_t {r : Nat → Int32} {nt kn e : Nat} {x : Int32} (h : ¬ r (146 + 100 * 1 + 10 * kn + e) = MISS) (h0 : 0 < hC r kn e) : lsB r nt kn x (e + 1) = (if bg r nt kn x e < lsB r nt kn x e then bg r nt kn x e else lsB r nt kn x e) ∧ msB r nt kn x (e + 1) = (if msB r nt kn x e < bg r nt kn x e then bg r nt kn x e else msB r nt kn x e) := by
  obtain ⟨c, hc⟩ : ∃ c, hC r kn e = c + 1 := ⟨hC r kn e - 1, by omega⟩
  have e1 : ∀ j, j ≤ c → bg r nt kn x (if j = hC r kn e then e else hI r kn e j) = bg r nt kn x (hI r kn e j) := fun j hj => by rw [if_neg (by omega)]
  have e2 : (if c + 1 = hC r kn e then e else hI r kn e (c + 1)) = e := if_pos (by omega)
  unfold lsB msB
  rw [(hF_t h).1, (hF_t h).2, show hC r kn e + 1 - 1 = c + 1 by omega, show hC r kn e - 1 = c by omega]
  constructor
  · conv => lhs; unfold mnF
    rw [mnF_cg c e1]
    simp only [e2]
  · conv => lhs; unfold mxF
    rw [mxF_cg c e1]
    simp only [e2]
/-- the place with the least spread, of several the lowest, and that spread -/
def bsF (w : Nat → Int64) : Nat → Nat × Int64
  | 0 => (0, w 0)
  | n + 1 => if w (n + 1) < (bsF w n).2 then (n + 1, w (n + 1)) else bsF w n
def plcN (r : Nat → Int32) (ne nt kn n : Nat) : Nat := (bsF (fun x => spW r ne nt kn (nI x)) n).1
def plc (r : Nat → Int32) (ne nt kn : Nat) : Nat := plcN r ne nt kn 1000
theorem plc_at {r : Nat → Int32} {ne nt kn n : Nat} (h : n = 1000) : plc r ne nt kn = plcN r ne nt kn n := by rw [h]; rfl
theorem bsF_le {w : Nat → Int64} : ∀ n, (bsF w n).1 ≤ n ∧ (bsF w n).2 = w (bsF w n).1
  | 0 => ⟨Nat.le_refl _, rfl⟩
  | n + 1 => by
    unfold bsF
    split
    · exact ⟨Nat.le_refl _, rfl⟩
    · have := bsF_le (w := w) n
      exact ⟨by omega, this.2⟩
/-- the ear whose a is greatest, of several the first -/
def wsF (a : Nat → Int64) : Nat → Nat × Int64
  | 0 => (0, a 0)
  | i + 1 => if (wsF a i).2 < a (i + 1) then (i + 1, a (i + 1)) else wsF a i
theorem wsF_cg {b b' : Nat → Int64} : ∀ n, (∀ j, j ≤ n → b j = b' j) → wsF b n = wsF b' n
  | 0, h => by unfold wsF; rw [h 0 (Nat.le_refl _)]
  | n + 1, h => by
    unfold wsF
    rw [wsF_cg n (fun j hj => h j (by omega)), h (n + 1) (Nat.le_refl _)]
theorem wsF_le {a : Nat → Int64} : ∀ n, (wsF a n).1 ≤ n
  | 0 => Nat.le_refl _
  | n + 1 => by
    unfold wsF
    split
    · exact Nat.le_refl _
    · have := wsF_le (a := a) n; omega
def ab64 (x : Int64) : Int64 := if x < 0 then -x else x
