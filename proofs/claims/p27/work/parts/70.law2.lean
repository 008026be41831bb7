theorem Inv.lo {r : Nat → Int32} {ne nt nk : Nat} (h : Inv r ne nt nk) {m : Nat} (hm : m < nt) : r (46 + 50 * 0 + 5 * m + 4) = 0 ∨ r (46 + 50 * 0 + 5 * m + 4) = 1 := (h.2.2.2.2.2.2.2 0 m (by omega) hm).2.2.2.1
theorem mRd_bk {r : Nat → Int32} {ne nt nk e j k : Nat} (hI : Inv r ne nt nk) (he : e < 10) (hk : k ≤ nt) (hj : j < mC r e k) : -2000 ≤ (mRd r e k j).toInt ∧ (mRd r e k j).toInt ≤ 130000 := by
  obtain ⟨m, h1, h2, h3, -⟩ := mRd_in k j hj
  rw [h2]
  rcases hI.rb (show m < nt by omega) he with h | h
  · exact absurd h h3
  · exact h
abbrev rm_L_marks : Room := { frames := 6, cells := 0, slots := 0, locals := 143 }
set_option maxHeartbeats 4000000 in
set_option maxRecDepth 100000 in
theorem c_L_marks {l : Launch} {D : va_G} {cA : Nat → ClassId} {ad : Nat → Nat} {E : Nat → va_E} {r : Nat → Int32} {ne nt nk nh ln : Nat} {txt d ps : Nat → Int32} {e : Nat}  (hQ : LQ cA ad E r ne nt nk nh ln txt d ps) (hD : DD d r nt) (he : e < ne) : CtI l D cA yL_marks cL_marks 8 .boolean rm_L_marks 235 ad E [.ref (ad 0), .ref (ad 233), .int (nI e)] (fun x E' => 1 = x ∧ LQ cA ad E' r ne nt nk nh ln txt d ps) := by
  refine CtI.of (by decide +kernel) (Nat.le_of_ble_eq_true rfl) (fun X F hret => ?_)
  have F : Fr "ThumpEarsLaw" cL_marks 8 D cA X := F
  refine (show GG rm_L_marks 8 l D X 0 0 235 ad E 0 [(0, .ref (ad 0)), (1, .ref (ad 233)), (2, .int (nI e))] [] from ?_)
  have hV := hQ.i
  have h0 := hV.e0
  have h1 := hV.e1
  have h2 := hV.e2
  refine g_iconst F (q := 1) (v := 0) (dk dL_marks 0 rfl) rfl (by decide) ?_
  refine g_istore_n F (q := 2) (lv' := [(3, .int 0), (0, .ref (ad 0)), (1, .ref (ad 233)), (2, .int (nI e))]) (dk dL_marks 1 rfl) rfl rfl (Nat.le_of_ble_eq_true rfl) rfl ?_
  refine g_iconst F (q := 3) (v := 0) (dk dL_marks 2 rfl) rfl (by decide) ?_
  refine g_istore F (q := 5) (lv' := [(4, .int 0), (3, .int 0), (0, .ref (ad 0)), (1, .ref (ad 233)), (2, .int (nI e))]) (dk dL_marks 3 rfl) rfl (Nat.le_of_ble_eq_true rfl) rfl ?_
  refine g_iconst F (q := 6) (v := 0) (dk dL_marks 4 rfl) rfl (by decide) ?_
  refine g_istore F (q := 8) (lv' := [(5, .int 0), (4, .int 0), (3, .int 0), (0, .ref (ad 0)), (1, .ref (ad 233)), (2, .int (nI e))]) (dk dL_marks 5 rfl) rfl (Nat.le_of_ble_eq_true rfl) rfl ?_
  have K8 : ∀ (fu : Nat) (k : Nat) (lst : Int32) (E1 : Nat → va_E), nt - k < fu → (hQc : LQ cA ad E1 r ne nt nk nh ln txt d ps) → (hk : k ≤ nt) → (hl : mC r e k = 0 ∨ lst = mRd r e k (mC r e k - 1) + 10000) → GG rm_L_marks 8 l D X 0 0 235 ad E1 8 [(0, .ref (ad 0)), (1, .ref (ad 233)), (2, .int (nI e)), (3, .int (nI ((mC r e k)))), (4, .int lst), (5, .int (nI k))] [] := by
    intro fu
    induction fu with
    | zero => intro k lst E1 hfu_; exact absurd hfu_ (Nat.not_lt_zero _)
    | succ fu ih =>
      intro k lst E1 hfu_ hQc hk hl
      have hmk := mC_le (r := r) (e := e) k
      refine g_iload F (q := 10) (dk dL_marks 6 rfl) rfl 5 rfl ?_
      refine g_aload_n F (q := 11) (dk dL_marks 7 rfl) rfl rfl 0 rfl ?_
      refine g_iconst F (q := 12) (v := 1) (dk dL_marks 8 rfl) rfl (by decide) ?_
      refine h_VI F (av := [.int 1]) (st := [.int (nI k)]) (q_count hQc (vC1 hV)) kv_X6_count tq_293 hQc.e0 ⟨rfl, rfl⟩ (by decide) ⟨Nat.le_refl _, Nat.le_refl _⟩ rfl rfl (Nat.le_of_ble_eq_true rfl) (dk dL_marks 9 rfl) rfl (fun E12 hQ12 => ?_)
      refine g_icmp_ge F (q := 18) (tgt := 158) (dk dL_marks 10 rfl) (by decide) rfl (fun c15 => ?_) (fun c15 => ?_)
      · have nc15 : nt ≤ k := (nI_leI (a := nt) (b := k) (by omega) (by omega)).mp c15
        obtain rfl : nt = k := by omega
        have hml := mC_le (r := r) (e := e) nt
        refine g_aload_n F (q := 159) (dk dL_marks 96 rfl) rfl rfl 0 rfl ?_
        refine g_iload_n F (q := 160) (dk dL_marks 97 rfl) rfl rfl 2 rfl ?_
        refine g_iconst F (q := 161) (v := 4) (dk dL_marks 98 rfl) rfl (by decide) ?_
        refine h_VI F (av := [.int (nI e), .int 4]) (st := []) (q_ear hQ12 (vE4 hV (show e < ne by omega))) kv_X6_ear tq_399 hQ12.e0 ⟨rfl, rfl⟩ (by decide) ⟨Nat.le_refl _, Nat.le_refl _⟩ rfl rfl (Nat.le_of_ble_eq_true rfl) (dk dL_marks 99 rfl) rfl (fun E161 hQ161 => ?_)
        refine g_iload_n F (q := 165) (dk dL_marks 100 rfl) rfl rfl 3 rfl ?_
        refine g_icmp_ne F (q := 168) (tgt := 228) (dk dL_marks 101 rfl) (by decide) rfl (fun c165 => absurd c165 (fun h => h rfl)) (fun c165 => ?_)
        refine g_aload_n F (q := 169) (dk dL_marks 102 rfl) rfl rfl 0 rfl ?_
        refine g_iload_n F (q := 170) (dk dL_marks 103 rfl) rfl rfl 2 rfl ?_
        refine g_iconst F (q := 171) (v := 5) (dk dL_marks 104 rfl) rfl (by decide) ?_
        refine h_VI F (av := [.int (nI e), .int 5]) (st := []) (q_ear hQ161 (vE5 hV (show e < ne by omega))) kv_X6_ear tq_399 hQ161.e0 ⟨rfl, rfl⟩ (by decide) ⟨Nat.le_refl _, Nat.le_refl _⟩ rfl rfl (Nat.le_of_ble_eq_true rfl) (dk dL_marks 105 rfl) rfl (fun E171 hQ171 => ?_)
        refine g_iload_n F (q := 175) (dk dL_marks 106 rfl) rfl rfl 3 rfl ?_
        refine g_if_ne F (q := 178) (tgt := 183) (dk dL_marks 107 rfl) (by decide) rfl (fun c175 => ?_) (fun c175 => ?_)
        · have nc175 : ¬ (mC r e nt) = 0 := fun h => c175 ((nI_eq (a := (mC r e nt)) (b := 0) (by omega) (by omega)).mpr h)
          refine g_iload F (q := 185) (dk dL_marks 110 rfl) rfl 4 rfl ?_
          refine g_icmp_ne F (q := 188) (tgt := 228) (dk dL_marks 111 rfl) (by decide) rfl (fun c185 => absurd c185 (fun h => h (by rw [if_neg nc175]; exact (hl.resolve_left nc175).symm))) (fun c185 => ?_)
          refine g_aload_n F (q := 189) (dk dL_marks 112 rfl) rfl rfl 0 rfl ?_
          refine g_iload_n F (q := 190) (dk dL_marks 113 rfl) rfl rfl 2 rfl ?_
          refine g_iload_n F (q := 191) (dk dL_marks 114 rfl) rfl rfl 3 rfl ?_
          refine g_iconst F (q := 192) (v := 0) (dk dL_marks 115 rfl) rfl (by decide) ?_
          refine h_VI F (av := [.int (nI e), .int (nI ((mC r e nt))), .int 0]) (st := []) (q_mark hQ171 (vMn hV (show e < ne by omega) rfl)) kv_X6_mark tq_416 hQ171.e0 ⟨rfl, rfl⟩ (by decide) ⟨Nat.le_refl _, Nat.le_refl _⟩ rfl rfl (Nat.le_of_ble_eq_true rfl) (dk dL_marks 116 rfl) rfl (fun E192 hQ192 => ?_)
          refine g_bipush F (q := 197) (v := (-5)) (dk dL_marks 117 rfl) rfl (by decide) ?_
          refine g_icmp_ne F (q := 200) (tgt := 228) (dk dL_marks 118 rfl) (by decide) rfl (fun h => absurd h (by decide)) (fun _ => ?_)
          refine g_aload_n F (q := 201) (dk dL_marks 119 rfl) rfl rfl 0 rfl ?_
          refine g_iload_n F (q := 202) (dk dL_marks 120 rfl) rfl rfl 2 rfl ?_
          refine g_iconst F (q := 203) (v := (-1)) (dk dL_marks 121 rfl) rfl (by decide) ?_
          refine g_iconst F (q := 204) (v := 0) (dk dL_marks 122 rfl) rfl (by decide) ?_
          refine h_VI F (av := [.int (nI e), .int (-1), .int 0]) (st := []) (q_mark hQ192 (vMb hV (show e < ne by omega))) kv_X6_mark tq_416 hQ192.e0 ⟨rfl, rfl⟩ (by decide) ⟨Nat.le_refl _, Nat.le_refl _⟩ rfl rfl (Nat.le_of_ble_eq_true rfl) (dk dL_marks 123 rfl) rfl (fun E204 hQ204 => ?_)
          refine g_bipush F (q := 209) (v := (-2)) (dk dL_marks 124 rfl) rfl (by decide) ?_
          refine g_icmp_ne F (q := 212) (tgt := 228) (dk dL_marks 125 rfl) (by decide) rfl (fun h => absurd h (by decide)) (fun _ => ?_)
          refine g_aload_n F (q := 213) (dk dL_marks 126 rfl) rfl rfl 0 rfl ?_
          refine g_iload_n F (q := 214) (dk dL_marks 127 rfl) rfl rfl 2 rfl ?_
          refine g_bipush F (q := 216) (v := 7) (dk dL_marks 128 rfl) rfl (by decide) ?_
          refine h_VI F (av := [.int (nI e), .int 7]) (st := []) (q_ear hQ204 (vE7 hV (show e < ne by omega))) kv_X6_ear tq_399 hQ204.e0 ⟨rfl, rfl⟩ (by decide) ⟨Nat.le_refl _, Nat.le_refl _⟩ rfl rfl (Nat.le_of_ble_eq_true rfl) (dk dL_marks 129 rfl) rfl (fun E216 hQ216 => ?_)
          refine g_bipush F (q := 221) (v := (-2)) (dk dL_marks 130 rfl) rfl (by decide) ?_
          refine g_icmp_ne F (q := 224) (tgt := 228) (dk dL_marks 131 rfl) (by decide) rfl (fun h => absurd h (by decide)) (fun _ => ?_)
          refine g_iconst F (q := 225) (v := 1) (dk dL_marks 132 rfl) rfl (by decide) ?_
          refine g_goto F (tgt := 229) (dk dL_marks 133 rfl) (by decide) ?_
          refine hret 1 E216 _ _ (dk dL_marks 135 rfl) rfl ?_
          exact ⟨rfl, hQ216⟩
        · have nc175 : (mC r e nt) = 0 := (nI_eq (a := (mC r e nt)) (b := 0) (by omega) (by omega)).mp c175
          refine g_bipush F (q := 180) (v := (-5)) (dk dL_marks 108 rfl) rfl (by decide) ?_
          refine g_goto F (tgt := 185) (dk dL_marks 109 rfl) (by decide) ?_
          refine g_icmp_ne F (q := 188) (tgt := 228) (dk dL_marks 111 rfl) (by decide) rfl (fun c185 => absurd c185 (fun h => h (by rw [if_pos nc175]))) (fun c185 => ?_)
          refine g_aload_n F (q := 189) (dk dL_marks 112 rfl) rfl rfl 0 rfl ?_
          refine g_iload_n F (q := 190) (dk dL_marks 113 rfl) rfl rfl 2 rfl ?_
          refine g_iload_n F (q := 191) (dk dL_marks 114 rfl) rfl rfl 3 rfl ?_
          refine g_iconst F (q := 192) (v := 0) (dk dL_marks 115 rfl) rfl (by decide) ?_
          refine h_VI F (av := [.int (nI e), .int (nI ((mC r e nt))), .int 0]) (st := []) (q_mark hQ171 (vMn hV (show e < ne by omega) rfl)) kv_X6_mark tq_416 hQ171.e0 ⟨rfl, rfl⟩ (by decide) ⟨Nat.le_refl _, Nat.le_refl _⟩ rfl rfl (Nat.le_of_ble_eq_true rfl) (dk dL_marks 116 rfl) rfl (fun E192 hQ192 => ?_)
          refine g_bipush F (q := 197) (v := (-5)) (dk dL_marks 117 rfl) rfl (by decide) ?_
          refine g_icmp_ne F (q := 200) (tgt := 228) (dk dL_marks 118 rfl) (by decide) rfl (fun h => absurd h (by decide)) (fun _ => ?_)
          refine g_aload_n F (q := 201) (dk dL_marks 119 rfl) rfl rfl 0 rfl ?_
          refine g_iload_n F (q := 202) (dk dL_marks 120 rfl) rfl rfl 2 rfl ?_
          refine g_iconst F (q := 203) (v := (-1)) (dk dL_marks 121 rfl) rfl (by decide) ?_
          refine g_iconst F (q := 204) (v := 0) (dk dL_marks 122 rfl) rfl (by decide) ?_
          refine h_VI F (av := [.int (nI e), .int (-1), .int 0]) (st := []) (q_mark hQ192 (vMb hV (show e < ne by omega))) kv_X6_mark tq_416 hQ192.e0 ⟨rfl, rfl⟩ (by decide) ⟨Nat.le_refl _, Nat.le_refl _⟩ rfl rfl (Nat.le_of_ble_eq_true rfl) (dk dL_marks 123 rfl) rfl (fun E204 hQ204 => ?_)
          refine g_bipush F (q := 209) (v := (-2)) (dk dL_marks 124 rfl) rfl (by decide) ?_
          refine g_icmp_ne F (q := 212) (tgt := 228) (dk dL_marks 125 rfl) (by decide) rfl (fun h => absurd h (by decide)) (fun _ => ?_)
          refine g_aload_n F (q := 213) (dk dL_marks 126 rfl) rfl rfl 0 rfl ?_
          refine g_iload_n F (q := 214) (dk dL_marks 127 rfl) rfl rfl 2 rfl ?_
          refine g_bipush F (q := 216) (v := 7) (dk dL_marks 128 rfl) rfl (by decide) ?_
          refine h_VI F (av := [.int (nI e), .int 7]) (st := []) (q_ear hQ204 (vE7 hV (show e < ne by omega))) kv_X6_ear tq_399 hQ204.e0 ⟨rfl, rfl⟩ (by decide) ⟨Nat.le_refl _, Nat.le_refl _⟩ rfl rfl (Nat.le_of_ble_eq_true rfl) (dk dL_marks 129 rfl) rfl (fun E216 hQ216 => ?_)
          refine g_bipush F (q := 221) (v := (-2)) (dk dL_marks 130 rfl) rfl (by decide) ?_
          refine g_icmp_ne F (q := 224) (tgt := 228) (dk dL_marks 131 rfl) (by decide) rfl (fun h => absurd h (by decide)) (fun _ => ?_)
          refine g_iconst F (q := 225) (v := 1) (dk dL_marks 132 rfl) rfl (by decide) ?_
          refine g_goto F (tgt := 229) (dk dL_marks 133 rfl) (by decide) ?_
          refine hret 1 E216 _ _ (dk dL_marks 135 rfl) rfl ?_
          exact ⟨rfl, hQ216⟩
      · have nc15 : ¬ nt ≤ k := fun h => c15 ((nI_leI (a := nt) (b := k) (by omega) (by omega)).mpr h)
        refine g_aload_n F (q := 19) (dk dL_marks 11 rfl) rfl rfl 0 rfl ?_
        refine g_iconst F (q := 20) (v := 0) (dk dL_marks 12 rfl) rfl (by decide) ?_
        refine g_iload F (q := 22) (dk dL_marks 13 rfl) rfl 5 rfl ?_
        refine g_iload_n F (q := 23) (dk dL_marks 14 rfl) rfl rfl 2 rfl ?_
        refine h_VI F (av := [.int 0, .int (nI k), .int (nI e)]) (st := []) (q_heard hQ12 (vH0 hV (show k < nt by omega) (show e < ne by omega))) kv_X6_heard tq_386 hQ12.e0 ⟨rfl, rfl⟩ (by decide) ⟨Nat.le_refl _, Nat.le_refl _⟩ rfl rfl (Nat.le_of_ble_eq_true rfl) (dk dL_marks 15 rfl) rfl (fun E23 hQ23 => ?_)
        refine g_istore F (q := 28) (lv' := [(6, .int (hdF r 0 k e)), (0, .ref (ad 0)), (1, .ref (ad 233)), (2, .int (nI e)), (3, .int (nI ((mC r e k)))), (4, .int lst), (5, .int (nI k))]) (dk dL_marks 16 rfl) rfl (Nat.le_of_ble_eq_true rfl) rfl ?_
        have hrb := rb_hd (k := 0) (hV.rb (show k < nt by omega) (show e < 10 by omega))
        refine g_iload F (q := 30) (dk dL_marks 17 rfl) rfl 0 rfl ?_
        refine g_bipush F (q := 32) (v := (-5)) (dk dL_marks 18 rfl) rfl (by decide) ?_
        refine g_icmp_eq F (q := 35) (tgt := 152) (dk dL_marks 19 rfl) (by decide) rfl (fun c32 => ?_) (fun c32 => ?_)
        · have hg : ¬ mG r e k (mC r e k) (mRd r e k) := fun g => hrb.elim (fun q => g.1 q.1) (fun q => q.2.1 c32)
          rw [← mC_f hg]
          refine g_iinc F (q := 155) (v := (nI ((k + 1)))) (lv' := [(5, .int (nI ((k + 1)))), (6, .int (hdF r 0 k e)), (0, .ref (ad 0)), (1, .ref (ad 233)), (2, .int (nI e)), (3, .int (nI ((mC r e (k + 1))))), (4, .int lst)]) (dk dL_marks 94 rfl) rfl 6 rfl (nI_1 _) (Nat.le_of_ble_eq_true rfl) rfl ?_
          refine g_goto F (tgt := 8) (dk dL_marks 95 rfl) (by decide) ?_
          refine g_lv (lv' := [(0, .ref (ad 0)), (1, .ref (ad 233)), (2, .int (nI e)), (3, .int (nI ((mC r e (k + 1))))), (4, .int lst), (5, .int (nI ((k + 1))))]) [2, 3, 4, 5, 6, 0] rfl ?_
          exact ih (k + 1) lst E23 (by omega) hQ23 (by omega) (by rw [(mRd_f hg).1, (mRd_f hg).2]; exact hl)
        · have hh := hrb.resolve_left (fun q => c32 q.2)
          refine g_aload_n F (q := 36) (dk dL_marks 20 rfl) rfl rfl 2 rfl ?_
          refine g_iconst F (q := 37) (v := 4) (dk dL_marks 21 rfl) rfl (by decide) ?_
          refine g_iload F (q := 39) (dk dL_marks 22 rfl) rfl 6 rfl ?_
          refine g_imul F (q := 40) (dk dL_marks 23 rfl) rfl ?_
          refine g_iconst F (q := 41) (v := 3) (dk dL_marks 24 rfl) rfl (by decide) ?_
          refine g_iadd F (q := 42) (dk dL_marks 25 rfl) rfl ?_
          have hc1 : E23 233 = .inl (cA 0, 40, .inl d) := hQ23.dd
          refine g_iald F (q := 43) (((4 * k) + 3)) hc1 (by omega) (nA (nM rfl rfl) rfl) (by omega) (by decide) (dk dL_marks 26 rfl) rfl ?_
          refine g_iconst F (q := 44) (v := 1) (dk dL_marks 27 rfl) rfl (by decide) ?_
          refine g_icmp_eq F (q := 47) (tgt := 152) (dk dL_marks 28 rfl) (by decide) rfl (fun c44 => ?_) (fun c44 => ?_)
          · have hg : ¬ mG r e k (mC r e k) (mRd r e k) := fun g => by
              have q := (hD k (by omega)).2.2.2
              rw [c44, g.2.1] at q
              exact absurd q (by decide)
            rw [← mC_f hg]
            refine g_iinc F (q := 155) (v := (nI ((k + 1)))) (lv' := [(5, .int (nI ((k + 1)))), (6, .int (hdF r 0 k e)), (0, .ref (ad 0)), (1, .ref (ad 233)), (2, .int (nI e)), (3, .int (nI ((mC r e (k + 1))))), (4, .int lst)]) (dk dL_marks 94 rfl) rfl 6 rfl (nI_1 _) (Nat.le_of_ble_eq_true rfl) rfl ?_
            refine g_goto F (tgt := 8) (dk dL_marks 95 rfl) (by decide) ?_
            refine g_lv (lv' := [(0, .ref (ad 0)), (1, .ref (ad 233)), (2, .int (nI e)), (3, .int (nI ((mC r e (k + 1))))), (4, .int lst), (5, .int (nI ((k + 1))))]) [2, 3, 4, 5, 6, 0] rfl ?_
            exact ih (k + 1) lst E23 (by omega) hQ23 (by omega) (by rw [(mRd_f hg).1, (mRd_f hg).2]; exact hl)
          · have ho : r (46 + 50 * 0 + 5 * k + 4) = 0 := (hV.lo (show k < nt by omega)).resolve_right (fun q => c44 ((hD k (by omega)).2.2.2.trans q))
            refine g_iload_n F (q := 48) (dk dL_marks 29 rfl) rfl rfl 4 rfl ?_
            refine g_if_le F (q := 51) (tgt := 61) (dk dL_marks 30 rfl) (by decide) rfl (fun c48 => ?_) (fun c48 => ?_)
            · have nc48 : (mC r e k) ≤ 0 := (nI_leI (a := (mC r e k)) (b := 0) (by omega) (by omega)).mp c48
              have hG : mG r e k (mC r e k) (mRd r e k) := ⟨hh.1, ho, Or.inl (by omega)⟩
              have hm4 := mk_at hG (show k < nt by omega)
              refine g_iload F (q := 63) (dk dL_marks 35 rfl) rfl 0 rfl ?_
              refine g_sipush F (q := 66) (v := 10000) (dk dL_marks 36 rfl) rfl (by decide) ?_
              refine g_isub F (q := 67) (dk dL_marks 37 rfl) rfl ?_
              refine g_aload_n F (q := 68) (dk dL_marks 38 rfl) rfl rfl 2 rfl ?_
              refine g_iconst F (q := 69) (v := 4) (dk dL_marks 39 rfl) rfl (by decide) ?_
              refine g_iload F (q := 71) (dk dL_marks 40 rfl) rfl 6 rfl ?_
              refine g_imul F (q := 72) (dk dL_marks 41 rfl) rfl ?_
              refine g_iconst F (q := 73) (v := 1) (dk dL_marks 42 rfl) rfl (by decide) ?_
              refine g_iadd F (q := 74) (dk dL_marks 43 rfl) rfl ?_
              refine g_iald F (q := 75) (((4 * k) + 1)) hc1 (by omega) (nA (nM rfl rfl) rfl) (by omega) (by decide) (dk dL_marks 44 rfl) rfl ?_
              refine g_isub F (q := 76) (dk dL_marks 45 rfl) rfl ?_
              refine g_aload_n F (q := 77) (dk dL_marks 46 rfl) rfl rfl 2 rfl ?_
              refine g_iconst F (q := 78) (v := 4) (dk dL_marks 47 rfl) rfl (by decide) ?_
              refine g_iload F (q := 80) (dk dL_marks 48 rfl) rfl 6 rfl ?_
              refine g_imul F (q := 81) (dk dL_marks 49 rfl) rfl ?_
              refine g_iconst F (q := 82) (v := 2) (dk dL_marks 50 rfl) rfl (by decide) ?_
              refine g_iadd F (q := 83) (dk dL_marks 51 rfl) rfl ?_
              refine g_iald F (q := 84) (((4 * k) + 2)) hc1 (by omega) (nA (nM rfl rfl) rfl) (by omega) (by decide) (dk dL_marks 52 rfl) rfl ?_
              refine g_aload_n F (q := 85) (dk dL_marks 53 rfl) rfl rfl 2 rfl ?_
              refine g_iconst F (q := 86) (v := 4) (dk dL_marks 54 rfl) rfl (by decide) ?_
              refine g_iload F (q := 88) (dk dL_marks 55 rfl) rfl 6 rfl ?_
              refine g_imul F (q := 89) (dk dL_marks 56 rfl) rfl ?_
              refine g_iald F (q := 90) ((4 * k)) hc1 (by omega) (nM rfl rfl) (by omega) (by decide) (dk dL_marks 57 rfl) rfl ?_
              refine g_aload_n F (q := 91) (dk dL_marks 58 rfl) rfl rfl 1 rfl ?_
              refine g_iload_n F (q := 92) (dk dL_marks 59 rfl) rfl rfl 3 rfl ?_
              refine g_iconst F (q := 93) (v := 0) (dk dL_marks 60 rfl) rfl (by decide) ?_
              refine h_VI F (av := [.int (nI e), .int 0]) (st := [.int (d ((4 * k))), .int (d (((4 * k) + 2))), .int (((hdF r 0 k e) - 10000) - (d (((4 * k) + 1))))]) (q_ear hQ23 (vE0 hV (show e < ne by omega))) kv_X6_ear tq_399 hQ23.e0 ⟨rfl, rfl⟩ (by decide) ⟨Nat.le_refl _, Nat.le_refl _⟩ rfl rfl (Nat.le_of_ble_eq_true rfl) (dk dL_marks 61 rfl) rfl (fun E93 hQ93 => ?_)
              refine h_SI F (av := [.int (d ((4 * k))), .int (r (6 + 4 * e + 0))]) (st := [.int (d (((4 * k) + 2))), .int (((hdF r 0 k e) - 10000) - (d (((4 * k) + 1))))]) q_far ks_L_far tq_413 ⟨rfl, rfl⟩ (by decide) ⟨Nat.le_refl _, Nat.le_refl _⟩ rfl rfl (Nat.le_of_ble_eq_true rfl) (dk dL_marks 62 rfl) rfl (fun E96 hE96 => ?_)
              obtain rfl := hE96
              refine g_imul F (q := 100) (dk dL_marks 63 rfl) rfl ?_
              refine g_isub F (q := 101) (dk dL_marks 64 rfl) rfl ?_
              refine g_sti (y := (mE r e k)) (mE_d hD (by omega) hh.2.2.1) ?_
              refine g_istore F (q := 103) (lv' := [(7, .int (mE r e k)), (6, .int (hdF r 0 k e)), (0, .ref (ad 0)), (1, .ref (ad 233)), (2, .int (nI e)), (3, .int (nI ((mC r e k)))), (4, .int lst), (5, .int (nI k))]) (dk dL_marks 65 rfl) rfl (Nat.le_of_ble_eq_true rfl) rfl ?_
              refine g_aload_n F (q := 104) (dk dL_marks 66 rfl) rfl rfl 2 rfl ?_
              refine g_iload_n F (q := 105) (dk dL_marks 67 rfl) rfl rfl 4 rfl ?_
              refine g_iload_n F (q := 106) (dk dL_marks 68 rfl) rfl rfl 5 rfl ?_
              refine g_iconst F (q := 107) (v := 0) (dk dL_marks 69 rfl) rfl (by decide) ?_
              refine h_VI F (av := [.int (nI e), .int (nI ((mC r e k))), .int 0]) (st := []) (q_mark hQ93 (vM0 hV (show e < ne by omega) hm4.1)) kv_X6_mark tq_416 hQ93.e0 ⟨rfl, rfl⟩ (by decide) ⟨Nat.le_refl _, Nat.le_refl _⟩ rfl rfl (Nat.le_of_ble_eq_true rfl) (dk dL_marks 70 rfl) rfl (fun E107 hQ107 => ?_)
              refine g_iload F (q := 112) (dk dL_marks 71 rfl) rfl 1 rfl ?_
              refine g_icmp_ne F (q := 115) (tgt := 143) (dk dL_marks 72 rfl) (by decide) rfl (fun c112 => absurd c112 (fun h => h (by rw [hm4.2.1, hh.2.2.1]))) (fun c112 => ?_)
              refine g_aload_n F (q := 116) (dk dL_marks 73 rfl) rfl rfl 2 rfl ?_
              refine g_iload_n F (q := 117) (dk dL_marks 74 rfl) rfl rfl 4 rfl ?_
              refine g_iload_n F (q := 118) (dk dL_marks 75 rfl) rfl rfl 5 rfl ?_
              refine g_iconst F (q := 119) (v := 1) (dk dL_marks 76 rfl) rfl (by decide) ?_
              refine h_VI F (av := [.int (nI e), .int (nI ((mC r e k))), .int 1]) (st := []) (q_mark hQ107 (vM1 hV (show e < ne by omega) hm4.1)) kv_X6_mark tq_416 hQ107.e0 ⟨rfl, rfl⟩ (by decide) ⟨Nat.le_refl _, Nat.le_refl _⟩ rfl rfl (Nat.le_of_ble_eq_true rfl) (dk dL_marks 77 rfl) rfl (fun E119 hQ119 => ?_)
              refine g_iload F (q := 124) (dk dL_marks 78 rfl) rfl 0 rfl ?_
              refine g_sipush F (q := 127) (v := 10000) (dk dL_marks 79 rfl) rfl (by decide) ?_
              refine g_iadd F (q := 128) (dk dL_marks 80 rfl) rfl ?_
              refine g_icmp_ne F (q := 131) (tgt := 143) (dk dL_marks 81 rfl) (by decide) rfl (fun c128 => absurd c128 (fun h => h (by rw [hm4.2.2.1]))) (fun c128 => ?_)
              refine g_aload_n F (q := 132) (dk dL_marks 82 rfl) rfl rfl 2 rfl ?_
              refine g_iload_n F (q := 133) (dk dL_marks 83 rfl) rfl rfl 4 rfl ?_
              refine g_iload_n F (q := 134) (dk dL_marks 84 rfl) rfl rfl 5 rfl ?_
              refine g_iconst F (q := 135) (v := 2) (dk dL_marks 85 rfl) rfl (by decide) ?_
              refine h_VI F (av := [.int (nI e), .int (nI ((mC r e k))), .int 2]) (st := []) (q_mark hQ119 (vM2 hV (show e < ne by omega) hm4.1)) kv_X6_mark tq_416 hQ119.e0 ⟨rfl, rfl⟩ (by decide) ⟨Nat.le_refl _, Nat.le_refl _⟩ rfl rfl (Nat.le_of_ble_eq_true rfl) (dk dL_marks 86 rfl) rfl (fun E135 hQ135 => ?_)
              refine g_iload F (q := 140) (dk dL_marks 87 rfl) rfl 7 rfl ?_
              refine g_icmp_eq F (q := 143) (tgt := 145) (dk dL_marks 88 rfl) (by decide) rfl (fun c140 => ?_) (fun c140 => absurd c140 (fun h => h hm4.2.2.2))
              refine g_iload F (q := 147) (dk dL_marks 91 rfl) rfl 1 rfl ?_
              refine g_istore F (q := 149) (lv' := [(4, .int (hdF r 0 k e)), (7, .int (mE r e k)), (6, .int (hdF r 0 k e)), (0, .ref (ad 0)), (1, .ref (ad 233)), (2, .int (nI e)), (3, .int (nI ((mC r e k)))), (5, .int (nI k))]) (dk dL_marks 92 rfl) rfl (Nat.le_of_ble_eq_true rfl) rfl ?_
              refine g_iinc F (q := 152) (v := (nI (((mC r e k) + 1)))) (lv' := [(3, .int (nI (((mC r e k) + 1)))), (4, .int (hdF r 0 k e)), (7, .int (mE r e k)), (6, .int (hdF r 0 k e)), (0, .ref (ad 0)), (1, .ref (ad 233)), (2, .int (nI e)), (5, .int (nI k))]) (dk dL_marks 93 rfl) rfl 6 rfl (nI_1 _) (Nat.le_of_ble_eq_true rfl) rfl ?_
              rw [← mC_t hG]
              refine g_iinc F (q := 155) (v := (nI ((k + 1)))) (lv' := [(5, .int (nI ((k + 1)))), (3, .int (nI ((mC r e (k + 1))))), (4, .int (hdF r 0 k e)), (7, .int (mE r e k)), (6, .int (hdF r 0 k e)), (0, .ref (ad 0)), (1, .ref (ad 233)), (2, .int (nI e))]) (dk dL_marks 94 rfl) rfl 7 rfl (nI_1 _) (Nat.le_of_ble_eq_true rfl) rfl ?_
              refine g_goto F (tgt := 8) (dk dL_marks 95 rfl) (by decide) ?_
              refine g_lv (lv' := [(0, .ref (ad 0)), (1, .ref (ad 233)), (2, .int (nI e)), (3, .int (nI ((mC r e (k + 1))))), (4, .int (hdF r 0 k e)), (5, .int (nI ((k + 1))))]) [5, 6, 7, 1, 2, 0] rfl ?_
              exact ih (k + 1) (hdF r 0 k e) E135 (by omega) hQ135 (by omega) (Or.inr (hh.2.2.1.trans (by rw [mRd_l hG])))
            · have nc48 : ¬ (mC r e k) ≤ 0 := fun h => c48 ((nI_leI (a := (mC r e k)) (b := 0) (by omega) (by omega)).mpr h)
              have hl2 := hl.resolve_left (show ¬ mC r e k = 0 by omega)
              have hb := mRd_bk hV (show e < 10 by omega) (show k ≤ nt by omega) (show mC r e k - 1 < mC r e k by omega)
              refine g_iload F (q := 53) (dk dL_marks 31 rfl) rfl 0 rfl ?_
              refine g_iload F (q := 55) (dk dL_marks 32 rfl) rfl 5 rfl ?_
              refine g_icmp_gt F (q := 58) (tgt := 61) (dk dL_marks 33 rfl) (by decide) rfl (fun c55 => ?_) (fun c55 => ?_)
              · have hG : mG r e k (mC r e k) (mRd r e k) := ⟨hh.1, ho, Or.inr ((hd_le hh.2.2.2 hb).mp (by rw [← hl2, ← hh.2.2.1]; exact c55))⟩
                have hm4 := mk_at hG (show k < nt by omega)
                refine g_iload F (q := 63) (dk dL_marks 35 rfl) rfl 0 rfl ?_
                refine g_sipush F (q := 66) (v := 10000) (dk dL_marks 36 rfl) rfl (by decide) ?_
                refine g_isub F (q := 67) (dk dL_marks 37 rfl) rfl ?_
                refine g_aload_n F (q := 68) (dk dL_marks 38 rfl) rfl rfl 2 rfl ?_
                refine g_iconst F (q := 69) (v := 4) (dk dL_marks 39 rfl) rfl (by decide) ?_
                refine g_iload F (q := 71) (dk dL_marks 40 rfl) rfl 6 rfl ?_
                refine g_imul F (q := 72) (dk dL_marks 41 rfl) rfl ?_
                refine g_iconst F (q := 73) (v := 1) (dk dL_marks 42 rfl) rfl (by decide) ?_
                refine g_iadd F (q := 74) (dk dL_marks 43 rfl) rfl ?_
                refine g_iald F (q := 75) (((4 * k) + 1)) hc1 (by omega) (nA (nM rfl rfl) rfl) (by omega) (by decide) (dk dL_marks 44 rfl) rfl ?_
                refine g_isub F (q := 76) (dk dL_marks 45 rfl) rfl ?_
                refine g_aload_n F (q := 77) (dk dL_marks 46 rfl) rfl rfl 2 rfl ?_
                refine g_iconst F (q := 78) (v := 4) (dk dL_marks 47 rfl) rfl (by decide) ?_
                refine g_iload F (q := 80) (dk dL_marks 48 rfl) rfl 6 rfl ?_
                refine g_imul F (q := 81) (dk dL_marks 49 rfl) rfl ?_
                refine g_iconst F (q := 82) (v := 2) (dk dL_marks 50 rfl) rfl (by decide) ?_
                refine g_iadd F (q := 83) (dk dL_marks 51 rfl) rfl ?_
                refine g_iald F (q := 84) (((4 * k) + 2)) hc1 (by omega) (nA (nM rfl rfl) rfl) (by omega) (by decide) (dk dL_marks 52 rfl) rfl ?_
                refine g_aload_n F (q := 85) (dk dL_marks 53 rfl) rfl rfl 2 rfl ?_
                refine g_iconst F (q := 86) (v := 4) (dk dL_marks 54 rfl) rfl (by decide) ?_
                refine g_iload F (q := 88) (dk dL_marks 55 rfl) rfl 6 rfl ?_
                refine g_imul F (q := 89) (dk dL_marks 56 rfl) rfl ?_
                refine g_iald F (q := 90) ((4 * k)) hc1 (by omega) (nM rfl rfl) (by omega) (by decide) (dk dL_marks 57 rfl) rfl ?_
                refine g_aload_n F (q := 91) (dk dL_marks 58 rfl) rfl rfl 1 rfl ?_
                refine g_iload_n F (q := 92) (dk dL_marks 59 rfl) rfl rfl 3 rfl ?_
                refine g_iconst F (q := 93) (v := 0) (dk dL_marks 60 rfl) rfl (by decide) ?_
                refine h_VI F (av := [.int (nI e), .int 0]) (st := [.int (d ((4 * k))), .int (d (((4 * k) + 2))), .int (((hdF r 0 k e) - 10000) - (d (((4 * k) + 1))))]) (q_ear hQ23 (vE0 hV (show e < ne by omega))) kv_X6_ear tq_399 hQ23.e0 ⟨rfl, rfl⟩ (by decide) ⟨Nat.le_refl _, Nat.le_refl _⟩ rfl rfl (Nat.le_of_ble_eq_true rfl) (dk dL_marks 61 rfl) rfl (fun E93 hQ93 => ?_)
                refine h_SI F (av := [.int (d ((4 * k))), .int (r (6 + 4 * e + 0))]) (st := [.int (d (((4 * k) + 2))), .int (((hdF r 0 k e) - 10000) - (d (((4 * k) + 1))))]) q_far ks_L_far tq_413 ⟨rfl, rfl⟩ (by decide) ⟨Nat.le_refl _, Nat.le_refl _⟩ rfl rfl (Nat.le_of_ble_eq_true rfl) (dk dL_marks 62 rfl) rfl (fun E96 hE96 => ?_)
                obtain rfl := hE96
                refine g_imul F (q := 100) (dk dL_marks 63 rfl) rfl ?_
                refine g_isub F (q := 101) (dk dL_marks 64 rfl) rfl ?_
                refine g_sti (y := (mE r e k)) (mE_d hD (by omega) hh.2.2.1) ?_
                refine g_istore F (q := 103) (lv' := [(7, .int (mE r e k)), (6, .int (hdF r 0 k e)), (0, .ref (ad 0)), (1, .ref (ad 233)), (2, .int (nI e)), (3, .int (nI ((mC r e k)))), (4, .int lst), (5, .int (nI k))]) (dk dL_marks 65 rfl) rfl (Nat.le_of_ble_eq_true rfl) rfl ?_
                refine g_aload_n F (q := 104) (dk dL_marks 66 rfl) rfl rfl 2 rfl ?_
                refine g_iload_n F (q := 105) (dk dL_marks 67 rfl) rfl rfl 4 rfl ?_
                refine g_iload_n F (q := 106) (dk dL_marks 68 rfl) rfl rfl 5 rfl ?_
                refine g_iconst F (q := 107) (v := 0) (dk dL_marks 69 rfl) rfl (by decide) ?_
                refine h_VI F (av := [.int (nI e), .int (nI ((mC r e k))), .int 0]) (st := []) (q_mark hQ93 (vM0 hV (show e < ne by omega) hm4.1)) kv_X6_mark tq_416 hQ93.e0 ⟨rfl, rfl⟩ (by decide) ⟨Nat.le_refl _, Nat.le_refl _⟩ rfl rfl (Nat.le_of_ble_eq_true rfl) (dk dL_marks 70 rfl) rfl (fun E107 hQ107 => ?_)
                refine g_iload F (q := 112) (dk dL_marks 71 rfl) rfl 1 rfl ?_
                refine g_icmp_ne F (q := 115) (tgt := 143) (dk dL_marks 72 rfl) (by decide) rfl (fun c112 => absurd c112 (fun h => h (by rw [hm4.2.1, hh.2.2.1]))) (fun c112 => ?_)
                refine g_aload_n F (q := 116) (dk dL_marks 73 rfl) rfl rfl 2 rfl ?_
                refine g_iload_n F (q := 117) (dk dL_marks 74 rfl) rfl rfl 4 rfl ?_
                refine g_iload_n F (q := 118) (dk dL_marks 75 rfl) rfl rfl 5 rfl ?_
                refine g_iconst F (q := 119) (v := 1) (dk dL_marks 76 rfl) rfl (by decide) ?_
                refine h_VI F (av := [.int (nI e), .int (nI ((mC r e k))), .int 1]) (st := []) (q_mark hQ107 (vM1 hV (show e < ne by omega) hm4.1)) kv_X6_mark tq_416 hQ107.e0 ⟨rfl, rfl⟩ (by decide) ⟨Nat.le_refl _, Nat.le_refl _⟩ rfl rfl (Nat.le_of_ble_eq_true rfl) (dk dL_marks 77 rfl) rfl (fun E119 hQ119 => ?_)
                refine g_iload F (q := 124) (dk dL_marks 78 rfl) rfl 0 rfl ?_
                refine g_sipush F (q := 127) (v := 10000) (dk dL_marks 79 rfl) rfl (by decide) ?_
                refine g_iadd F (q := 128) (dk dL_marks 80 rfl) rfl ?_
                refine g_icmp_ne F (q := 131) (tgt := 143) (dk dL_marks 81 rfl) (by decide) rfl (fun c128 => absurd c128 (fun h => h (by rw [hm4.2.2.1]))) (fun c128 => ?_)
                refine g_aload_n F (q := 132) (dk dL_marks 82 rfl) rfl rfl 2 rfl ?_
                refine g_iload_n F (q := 133) (dk dL_marks 83 rfl) rfl rfl 4 rfl ?_
                refine g_iload_n F (q := 134) (dk dL_marks 84 rfl) rfl rfl 5 rfl ?_
                refine g_iconst F (q := 135) (v := 2) (dk dL_marks 85 rfl) rfl (by decide) ?_
                refine h_VI F (av := [.int (nI e), .int (nI ((mC r e k))), .int 2]) (st := []) (q_mark hQ119 (vM2 hV (show e < ne by omega) hm4.1)) kv_X6_mark tq_416 hQ119.e0 ⟨rfl, rfl⟩ (by decide) ⟨Nat.le_refl _, Nat.le_refl _⟩ rfl rfl (Nat.le_of_ble_eq_true rfl) (dk dL_marks 86 rfl) rfl (fun E135 hQ135 => ?_)
                refine g_iload F (q := 140) (dk dL_marks 87 rfl) rfl 7 rfl ?_
                refine g_icmp_eq F (q := 143) (tgt := 145) (dk dL_marks 88 rfl) (by decide) rfl (fun c140 => ?_) (fun c140 => absurd c140 (fun h => h hm4.2.2.2))
                refine g_iload F (q := 147) (dk dL_marks 91 rfl) rfl 1 rfl ?_
                refine g_istore F (q := 149) (lv' := [(4, .int (hdF r 0 k e)), (7, .int (mE r e k)), (6, .int (hdF r 0 k e)), (0, .ref (ad 0)), (1, .ref (ad 233)), (2, .int (nI e)), (3, .int (nI ((mC r e k)))), (5, .int (nI k))]) (dk dL_marks 92 rfl) rfl (Nat.le_of_ble_eq_true rfl) rfl ?_
                refine g_iinc F (q := 152) (v := (nI (((mC r e k) + 1)))) (lv' := [(3, .int (nI (((mC r e k) + 1)))), (4, .int (hdF r 0 k e)), (7, .int (mE r e k)), (6, .int (hdF r 0 k e)), (0, .ref (ad 0)), (1, .ref (ad 233)), (2, .int (nI e)), (5, .int (nI k))]) (dk dL_marks 93 rfl) rfl 6 rfl (nI_1 _) (Nat.le_of_ble_eq_true rfl) rfl ?_
                rw [← mC_t hG]
                refine g_iinc F (q := 155) (v := (nI ((k + 1)))) (lv' := [(5, .int (nI ((k + 1)))), (3, .int (nI ((mC r e (k + 1))))), (4, .int (hdF r 0 k e)), (7, .int (mE r e k)), (6, .int (hdF r 0 k e)), (0, .ref (ad 0)), (1, .ref (ad 233)), (2, .int (nI e))]) (dk dL_marks 94 rfl) rfl 7 rfl (nI_1 _) (Nat.le_of_ble_eq_true rfl) rfl ?_
                refine g_goto F (tgt := 8) (dk dL_marks 95 rfl) (by decide) ?_
                refine g_lv (lv' := [(0, .ref (ad 0)), (1, .ref (ad 233)), (2, .int (nI e)), (3, .int (nI ((mC r e (k + 1))))), (4, .int (hdF r 0 k e)), (5, .int (nI ((k + 1))))]) [5, 6, 7, 1, 2, 0] rfl ?_
                exact ih (k + 1) (hdF r 0 k e) E135 (by omega) hQ135 (by omega) (Or.inr (hh.2.2.1.trans (by rw [mRd_l hG])))
              · have hg : ¬ mG r e k (mC r e k) (mRd r e k) := fun g => g.2.2.elim (fun q => absurd q (by omega)) (fun q => c55 (by rw [hl2, hh.2.2.1]; exact (hd_le hh.2.2.2 hb).mpr q))
                refine g_goto F (tgt := 152) (dk dL_marks 34 rfl) (by decide) ?_
                rw [← mC_f hg]
                refine g_iinc F (q := 155) (v := (nI ((k + 1)))) (lv' := [(5, .int (nI ((k + 1)))), (6, .int (hdF r 0 k e)), (0, .ref (ad 0)), (1, .ref (ad 233)), (2, .int (nI e)), (3, .int (nI ((mC r e (k + 1))))), (4, .int lst)]) (dk dL_marks 94 rfl) rfl 6 rfl (nI_1 _) (Nat.le_of_ble_eq_true rfl) rfl ?_
                refine g_goto F (tgt := 8) (dk dL_marks 95 rfl) (by decide) ?_
                refine g_lv (lv' := [(0, .ref (ad 0)), (1, .ref (ad 233)), (2, .int (nI e)), (3, .int (nI ((mC r e (k + 1))))), (4, .int lst), (5, .int (nI ((k + 1))))]) [2, 3, 4, 5, 6, 0] rfl ?_
                exact ih (k + 1) lst E23 (by omega) hQ23 (by omega) (by rw [(mRd_f hg).1, (mRd_f hg).2]; exact hl)
  refine g_lv (lv' := [(0, .ref (ad 0)), (1, .ref (ad 233)), (2, .int (nI e)), (3, .int 0), (4, .int 0), (5, .int 0)]) [3, 4, 5, 2, 1, 0] rfl ?_
  exact K8 _ 0 0 E (Nat.lt_succ_self _) hQ (by omega) (Or.inl rfl)
theorem ks_L_marks : KS yL_marks "ThumpEarsLaw" cL_marks 8 (some .boolean) 3 := ⟨tq_384, tq_8, tq_385, by decide +kernel⟩
