theorem q_ear {l : Launch} {D : va_G} {cA : Nat → ClassId} {ad : Nat → Nat} {E : Nat → va_E} {r : Nat → Int32} {ne nt nk nh ln : Nat} {txt d ps : Nat → Int32} {ear what : Int32} {v : Int32} (hQ : LQ cA ad E r ne nt nk nh ln txt d ps) (hv : (sEar r ne nt nk ear what) = v) : CQ l D cA yX6_ear cX6_ear 3 .int rm_X6_ear ad E [.ref (ad 0), .int ear, .int what] v (fun E' => LQ cA ad E' r ne nt nk nh ln txt d ps) := by
  obtain ⟨H, s1, asd, hco, hmk, hsr, h1, h2⟩ := hQ
  refine ⟨_, c_X6_ear hco hmk hsr, fun x E' hp => ?_⟩
  obtain ⟨rfl, g1, g2, g3, g4⟩ := hp
  exact ⟨hv.symm, H, s1, asd, g1, g2, g3, (g4 _ (by omega)).trans h1, (g4 _ (by omega)).trans h2⟩
theorem q_clock {l : Launch} {D : va_G} {cA : Nat → ClassId} {ad : Nat → Nat} {E : Nat → va_E} {r : Nat → Int32} {ne nt nk nh ln : Nat} {txt d ps : Nat → Int32} {ear t : Int32} {v : Int32} (hQ : LQ cA ad E r ne nt nk nh ln txt d ps) (hv : (sCk r ne ear t) = v) : CQ l D cA yX6_clock cX6_clock 3 .int rm_X6_clock ad E [.ref (ad 0), .int ear, .int t] v (fun E' => LQ cA ad E' r ne nt nk nh ln txt d ps) := by
  obtain ⟨H, s1, asd, hco, hmk, hsr, h1, h2⟩ := hQ
  refine ⟨_, c_X6_clock hco hmk hsr, fun x E' hp => ?_⟩
  obtain ⟨rfl, g1, g2, g3, g4⟩ := hp
  exact ⟨hv.symm, H, s1, asd, g1, g2, g3, (g4 _ (by omega)).trans h1, (g4 _ (by omega)).trans h2⟩
theorem q_mark {l : Launch} {D : va_G} {cA : Nat → ClassId} {ad : Nat → Nat} {E : Nat → va_E} {r : Nat → Int32} {ne nt nk nh ln : Nat} {txt d ps : Nat → Int32} {ear mk what : Int32} {v : Int32} (hQ : LQ cA ad E r ne nt nk nh ln txt d ps) (hv : (sMark r ne nt ear mk what) = v) : CQ l D cA yX6_mark cX6_mark 4 .int rm_X6_mark ad E [.ref (ad 0), .int ear, .int mk, .int what] v (fun E' => LQ cA ad E' r ne nt nk nh ln txt d ps) := by
  obtain ⟨H, s1, asd, hco, hmk, hsr, h1, h2⟩ := hQ
  refine ⟨_, c_X6_mark hco hmk hsr, fun x E' hp => ?_⟩
  obtain ⟨rfl, g1, g2, g3, g4⟩ := hp
  exact ⟨hv.symm, H, s1, asd, g1, g2, g3, (g4 _ (by omega)).trans h1, (g4 _ (by omega)).trans h2⟩
theorem q_error {l : Launch} {D : va_G} {cA : Nat → ClassId} {ad : Nat → Nat} {E : Nat → va_E} {r : Nat → Int32} {ne nt nk nh ln : Nat} {txt d ps : Nat → Int32} {ear c : Int32} {v : Int64} (hQ : LQ cA ad E r ne nt nk nh ln txt d ps) (hv : (sErr r ne nt ear c) = v) : CQL l D cA yX6_error cX6_error 3 rm_X6_error ad E [.ref (ad 0), .int ear, .int c] v (fun E' => LQ cA ad E' r ne nt nk nh ln txt d ps) := by
  obtain ⟨H, s1, asd, hco, hmk, hsr, h1, h2⟩ := hQ
  refine ⟨_, c_X6_error hco hmk hsr, fun x E' hp => ?_⟩
  obtain ⟨rfl, g1, g2, g3, g4⟩ := hp
  exact ⟨hv.symm, H, s1, asd, g1, g2, g3, (g4 _ (by omega)).trans h1, (g4 _ (by omega)).trans h2⟩
theorem q_stalest {l : Launch} {D : va_G} {cA : Nat → ClassId} {ad : Nat → Nat} {E : Nat → va_E} {r : Nat → Int32} {ne nt nk nh ln : Nat} {txt d ps : Nat → Int32} {v : Int32} (hQ : LQ cA ad E r ne nt nk nh ln txt d ps) (hv : (stF r nt ne).1 = v) : CQ l D cA yX6_stalest cX6_stalest 5 .int rm_X6_stalest ad E [.ref (ad 0)] v (fun E' => LQ cA ad E' r ne nt nk nh ln txt d ps) := by
  obtain ⟨H, s1, asd, hco, hmk, hsr, h1, h2⟩ := hQ
  refine ⟨_, c_X6_stalest hco hmk hsr, fun x E' hp => ?_⟩
  obtain ⟨rfl, g1, g2, g3, g4⟩ := hp
  exact ⟨hv.symm, H, s1, asd, g1, g2, g3, (g4 _ (by omega)).trans h1, (g4 _ (by omega)).trans h2⟩
theorem q_heard {l : Launch} {D : va_G} {cA : Nat → ClassId} {ad : Nat → Nat} {E : Nat → va_E} {r : Nat → Int32} {ne nt nk nh ln : Nat} {txt d ps : Nat → Int32} {kb num ear : Int32} {v : Int32} (hQ : LQ cA ad E r ne nt nk nh ln txt d ps) (hv : (sHeard r ne nt nk kb num ear) = v) : CQ l D cA yX6_heard cX6_heard 6 .int rm_X6_heard ad E [.ref (ad 0), .int kb, .int num, .int ear] v (fun E' => LQ cA ad E' r ne nt nk nh ln txt d ps) := by
  obtain ⟨H, s1, asd, hco, hmk, hsr, h1, h2⟩ := hQ
  refine ⟨_, c_X6_heard hco hmk hsr, fun x E' hp => ?_⟩
  obtain ⟨rfl, g1, g2, g3, g4⟩ := hp
  exact ⟨hv.symm, H, s1, asd, g1, g2, g3, (g4 _ (by omega)).trans h1, (g4 _ (by omega)).trans h2⟩
theorem q_putRight {l : Launch} {D : va_G} {cA : Nat → ClassId} {ad : Nat → Nat} {E : Nat → va_E} {r : Nat → Int32} {ne nt nk nh ln : Nat} {txt d ps : Nat → Int32} {kn ear : Int32} {v : Int64} (hQ : LQ cA ad E r ne nt nk nh ln txt d ps) (hv : (sPut r ne nt nk kn ear) = v) : CQL l D cA yX6_putRight cX6_putRight 4 rm_X6_putRight ad E [.ref (ad 0), .int kn, .int ear] v (fun E' => LQ cA ad E' r ne nt nk nh ln txt d ps) := by
  obtain ⟨H, s1, asd, hco, hmk, hsr, h1, h2⟩ := hQ
  refine ⟨_, c_X6_putRight hco hmk hsr, fun x E' hp => ?_⟩
  obtain ⟨rfl, g1, g2, g3, g4⟩ := hp
  exact ⟨hv.symm, H, s1, asd, g1, g2, g3, (g4 _ (by omega)).trans h1, (g4 _ (by omega)).trans h2⟩
theorem q_found {l : Launch} {D : va_G} {cA : Nat → ClassId} {ad : Nat → Nat} {E : Nat → va_E} {r : Nat → Int32} {ne nt nk nh ln : Nat} {txt d ps : Nat → Int32} {kn what : Int32} {v : Int64} (hQ : LQ cA ad E r ne nt nk nh ln txt d ps) (hv : (sFound r ne nt nk kn what) = v) : CQL l D cA yX6_found cX6_found 3 rm_X6_found ad E [.ref (ad 0), .int kn, .int what] v (fun E' => LQ cA ad E' r ne nt nk nh ln txt d ps) := by
  obtain ⟨H, s1, asd, hco, hmk, hsr, h1, h2⟩ := hQ
  refine ⟨_, c_X6_found hco hmk hsr, fun x E' hp => ?_⟩
  obtain ⟨rfl, g1, g2, g3, g4⟩ := hp
  exact ⟨hv.symm, H, s1, asd, g1, g2, g3, (g4 _ (by omega)).trans h1, (g4 _ (by omega)).trans h2⟩
theorem q_spread {l : Launch} {D : va_G} {cA : Nat → ClassId} {ad : Nat → Nat} {E : Nat → va_E} {r : Nat → Int32} {ne nt nk nh ln : Nat} {txt d ps : Nat → Int32} {kn w0 : Int32} {v : Int64} (hQ : LQ cA ad E r ne nt nk nh ln txt d ps) (hv : (sSpread r ne nt nk kn w0) = v) : CQL l D cA yX6_spread cX6_spread 3 rm_X6_spread ad E [.ref (ad 0), .int kn, .int w0] v (fun E' => LQ cA ad E' r ne nt nk nh ln txt d ps) := by
  obtain ⟨H, s1, asd, hco, hmk, hsr, h1, h2⟩ := hQ
  refine ⟨_, c_X6_spread hco hmk hsr, fun x E' hp => ?_⟩
  obtain ⟨rfl, g1, g2, g3, g4⟩ := hp
  exact ⟨hv.symm, H, s1, asd, g1, g2, g3, (g4 _ (by omega)).trans h1, (g4 _ (by omega)).trans h2⟩
theorem q_truth {l : Launch} {D : va_G} {cA : Nat → ClassId} {ad : Nat → Nat} {E : Nat → va_E} {r : Nat → Int32} {ne nt nk nh ln : Nat} {txt d ps : Nat → Int32} {kn what : Int32} {v : Int32} (hQ : LQ cA ad E r ne nt nk nh ln txt d ps) (hv : (sTruth r ne nt nk kn what) = v) : CQ l D cA yX6_truth cX6_truth 3 .int rm_X6_truth ad E [.ref (ad 0), .int kn, .int what] v (fun E' => LQ cA ad E' r ne nt nk nh ln txt d ps) := by
  obtain ⟨H, s1, asd, hco, hmk, hsr, h1, h2⟩ := hQ
  refine ⟨_, c_X6_truth hco hmk hsr, fun x E' hp => ?_⟩
  obtain ⟨rfl, g1, g2, g3, g4⟩ := hp
  exact ⟨hv.symm, H, s1, asd, g1, g2, g3, (g4 _ (by omega)).trans h1, (g4 _ (by omega)).trans h2⟩
theorem q_count {l : Launch} {D : va_G} {cA : Nat → ClassId} {ad : Nat → Nat} {E : Nat → va_E} {r : Nat → Int32} {ne nt nk nh ln : Nat} {txt d ps : Nat → Int32} {what : Int32} {v : Int32} (hQ : LQ cA ad E r ne nt nk nh ln txt d ps) (hv : (sCount r ne nt nk nh ln what) = v) : CQ l D cA yX6_count cX6_count 2 .int rm_X6_count ad E [.ref (ad 0), .int what] v (fun E' => LQ cA ad E' r ne nt nk nh ln txt d ps) := by
  obtain ⟨H, s1, asd, hco, hmk, hsr, h1, h2⟩ := hQ
  refine ⟨_, c_X6_count hco hmk hsr, fun x E' hp => ?_⟩
  obtain ⟨rfl, g1, g2, g3, g4⟩ := hp
  exact ⟨hv.symm, H, s1, asd, g1, g2, g3, (g4 _ (by omega)).trans h1, (g4 _ (by omega)).trans h2⟩
theorem q_bury_n {l : Launch} {D : va_G} {cA : Nat → ClassId} {ad : Nat → Nat} {E : Nat → va_E} {r : Nat → Int32} {ne nt nk nh ln : Nat} {txt d ps : Nat → Int32} {place : Int32} {v : Int32} (hQ : LQ cA ad E r ne nt nk nh ln txt d ps) (h : sBury r ne place = (v, none)) : CQ l D cA yX6_bury cX6_bury 2 .int rm_X6_bury ad E [.ref (ad 0), .int place] v (fun E' => LQ cA ad E' r ne nt nk nh ln txt d ps) := by
  have hI := hQ.i
  obtain ⟨H, s1, asd, hco, hmk, hsr, h1, h2⟩ := hQ
  refine ⟨_, c_X6_bury hco hmk hsr, fun x E' hp => ?_⟩
  obtain ⟨ne2, nt2, nk2, rfl, g1, g2, g3, g4⟩ := hp
  rw [h] at g1
  refine ⟨by rw [h], ?_⟩
  exact LQ.cnt (ne := ne2) (nt := nt2) (nk := nk2) ⟨H, s1, asd, g1, g2, g3, (g4 _ (by omega)).trans h1, (g4 _ (by omega)).trans h2⟩ hI.h0 hI.e0 hI.h1 hI.e1 hI.h2 hI.e2
theorem q_bury_s {l : Launch} {D : va_G} {cA : Nat → ClassId} {ad : Nat → Nat} {E : Nat → va_E} {r : Nat → Int32} {ne nt nk nh ln : Nat} {txt d ps : Nat → Int32} {place : Int32} {v : Int32} {r2 : Nat → Int32} {a1 a2 a3 : Nat} (hQ : LQ cA ad E r ne nt nk nh ln txt d ps) (h : sBury r ne place = (v, some r2)) (b1 : r2 0 = nI a1) (b2 : a1 ≤ 10) (b3 : r2 1 = nI a2) (b4 : a2 ≤ 10) (b5 : r2 2 = nI a3) (b6 : a3 ≤ 10) : CQ l D cA yX6_bury cX6_bury 2 .int rm_X6_bury ad E [.ref (ad 0), .int place] v (fun E' => LQ cA ad E' r2 a1 a2 a3 (nup nh) ln txt d ps) := by
  have hI := hQ.i
  obtain ⟨H, s1, asd, hco, hmk, hsr, h1, h2⟩ := hQ
  refine ⟨_, c_X6_bury hco hmk hsr, fun x E' hp => ?_⟩
  obtain ⟨ne2, nt2, nk2, rfl, g1, g2, g3, g4⟩ := hp
  rw [h] at g1
  refine ⟨by rw [h], ?_⟩
  exact LQ.cnt (ne := ne2) (nt := nt2) (nk := nk2) ⟨_, s1, asd, g1, g2, g3, (g4 _ (by omega)).trans h1, (g4 _ (by omega)).trans h2⟩ b1 b2 b3 b4 b5 b6
theorem q_setClock_n {l : Launch} {D : va_G} {cA : Nat → ClassId} {ad : Nat → Nat} {E : Nat → va_E} {r : Nat → Int32} {ne nt nk nh ln : Nat} {txt d ps : Nat → Int32} {ear off dr : Int32} {v : Int32} (hQ : LQ cA ad E r ne nt nk nh ln txt d ps) (h : sClock r ne ear off dr = (v, none)) : CQ l D cA yX6_setClock cX6_setClock 4 .int rm_X6_setClock ad E [.ref (ad 0), .int ear, .int off, .int dr] v (fun E' => LQ cA ad E' r ne nt nk nh ln txt d ps) := by
  have hI := hQ.i
  obtain ⟨H, s1, asd, hco, hmk, hsr, h1, h2⟩ := hQ
  refine ⟨_, c_X6_setClock hco hmk hsr, fun x E' hp => ?_⟩
  obtain ⟨ne2, nt2, nk2, rfl, g1, g2, g3, g4⟩ := hp
  rw [h] at g1
  refine ⟨by rw [h], ?_⟩
  exact LQ.cnt (ne := ne2) (nt := nt2) (nk := nk2) ⟨H, s1, asd, g1, g2, g3, (g4 _ (by omega)).trans h1, (g4 _ (by omega)).trans h2⟩ hI.h0 hI.e0 hI.h1 hI.e1 hI.h2 hI.e2
theorem q_setClock_s {l : Launch} {D : va_G} {cA : Nat → ClassId} {ad : Nat → Nat} {E : Nat → va_E} {r : Nat → Int32} {ne nt nk nh ln : Nat} {txt d ps : Nat → Int32} {ear off dr : Int32} {v : Int32} {r2 : Nat → Int32} {a1 a2 a3 : Nat} (hQ : LQ cA ad E r ne nt nk nh ln txt d ps) (h : sClock r ne ear off dr = (v, some r2)) (b1 : r2 0 = nI a1) (b2 : a1 ≤ 10) (b3 : r2 1 = nI a2) (b4 : a2 ≤ 10) (b5 : r2 2 = nI a3) (b6 : a3 ≤ 10) : CQ l D cA yX6_setClock cX6_setClock 4 .int rm_X6_setClock ad E [.ref (ad 0), .int ear, .int off, .int dr] v (fun E' => LQ cA ad E' r2 a1 a2 a3 (nup nh) ln txt d ps) := by
  have hI := hQ.i
  obtain ⟨H, s1, asd, hco, hmk, hsr, h1, h2⟩ := hQ
  refine ⟨_, c_X6_setClock hco hmk hsr, fun x E' hp => ?_⟩
  obtain ⟨ne2, nt2, nk2, rfl, g1, g2, g3, g4⟩ := hp
  rw [h] at g1
  refine ⟨by rw [h], ?_⟩
  exact LQ.cnt (ne := ne2) (nt := nt2) (nk := nk2) ⟨_, s1, asd, g1, g2, g3, (g4 _ (by omega)).trans h1, (g4 _ (by omega)).trans h2⟩ b1 b2 b3 b4 b5 b6
theorem q_mute_n {l : Launch} {D : va_G} {cA : Nat → ClassId} {ad : Nat → Nat} {E : Nat → va_E} {r : Nat → Int32} {ne nt nk nh ln : Nat} {txt d ps : Nat → Int32} {ear b : Int32} {v : Int32} (hQ : LQ cA ad E r ne nt nk nh ln txt d ps) (hb : b = 0 ∨ b = 1) (h : sMute r ne ear b = (v, none)) : CQ l D cA yX6_mute cX6_mute 3 .int rm_X6_mute ad E [.ref (ad 0), .int ear, .int b] v (fun E' => LQ cA ad E' r ne nt nk nh ln txt d ps) := by
  have hI := hQ.i
  obtain ⟨H, s1, asd, hco, hmk, hsr, h1, h2⟩ := hQ
  refine ⟨_, c_X6_mute hco hmk hsr hb, fun x E' hp => ?_⟩
  obtain ⟨ne2, nt2, nk2, rfl, g1, g2, g3, g4⟩ := hp
  rw [h] at g1
  refine ⟨by rw [h], ?_⟩
  exact LQ.cnt (ne := ne2) (nt := nt2) (nk := nk2) ⟨H, s1, asd, g1, g2, g3, (g4 _ (by omega)).trans h1, (g4 _ (by omega)).trans h2⟩ hI.h0 hI.e0 hI.h1 hI.e1 hI.h2 hI.e2
theorem q_mute_s {l : Launch} {D : va_G} {cA : Nat → ClassId} {ad : Nat → Nat} {E : Nat → va_E} {r : Nat → Int32} {ne nt nk nh ln : Nat} {txt d ps : Nat → Int32} {ear b : Int32} {v : Int32} {r2 : Nat → Int32} {a1 a2 a3 : Nat} (hQ : LQ cA ad E r ne nt nk nh ln txt d ps) (hb : b = 0 ∨ b = 1) (h : sMute r ne ear b = (v, some r2)) (b1 : r2 0 = nI a1) (b2 : a1 ≤ 10) (b3 : r2 1 = nI a2) (b4 : a2 ≤ 10) (b5 : r2 2 = nI a3) (b6 : a3 ≤ 10) : CQ l D cA yX6_mute cX6_mute 3 .int rm_X6_mute ad E [.ref (ad 0), .int ear, .int b] v (fun E' => LQ cA ad E' r2 a1 a2 a3 (nup nh) ln txt d ps) := by
  have hI := hQ.i
  obtain ⟨H, s1, asd, hco, hmk, hsr, h1, h2⟩ := hQ
  refine ⟨_, c_X6_mute hco hmk hsr hb, fun x E' hp => ?_⟩
  obtain ⟨ne2, nt2, nk2, rfl, g1, g2, g3, g4⟩ := hp
  rw [h] at g1
  refine ⟨by rw [h], ?_⟩
  exact LQ.cnt (ne := ne2) (nt := nt2) (nk := nk2) ⟨_, s1, asd, g1, g2, g3, (g4 _ (by omega)).trans h1, (g4 _ (by omega)).trans h2⟩ b1 b2 b3 b4 b5 b6
theorem q_set_n {l : Launch} {D : va_G} {cA : Nat → ClassId} {ad : Nat → Nat} {E : Nat → va_E} {r : Nat → Int32} {ne nt nk nh ln : Nat} {txt d ps : Nat → Int32} {what value : Int32} {v : Int32} (hQ : LQ cA ad E r ne nt nk nh ln txt d ps) (h : sSet r what value = (v, none)) : CQ l D cA yX6_set cX6_set 3 .int rm_X6_set ad E [.ref (ad 0), .int what, .int value] v (fun E' => LQ cA ad E' r ne nt nk nh ln txt d ps) := by
  have hI := hQ.i
  obtain ⟨H, s1, asd, hco, hmk, hsr, h1, h2⟩ := hQ
  refine ⟨_, c_X6_set hco hmk hsr, fun x E' hp => ?_⟩
  obtain ⟨ne2, nt2, nk2, rfl, g1, g2, g3, g4⟩ := hp
  rw [h] at g1
  refine ⟨by rw [h], ?_⟩
  exact LQ.cnt (ne := ne2) (nt := nt2) (nk := nk2) ⟨H, s1, asd, g1, g2, g3, (g4 _ (by omega)).trans h1, (g4 _ (by omega)).trans h2⟩ hI.h0 hI.e0 hI.h1 hI.e1 hI.h2 hI.e2
theorem q_set_s {l : Launch} {D : va_G} {cA : Nat → ClassId} {ad : Nat → Nat} {E : Nat → va_E} {r : Nat → Int32} {ne nt nk nh ln : Nat} {txt d ps : Nat → Int32} {what value : Int32} {v : Int32} {r2 : Nat → Int32} {a1 a2 a3 : Nat} (hQ : LQ cA ad E r ne nt nk nh ln txt d ps) (h : sSet r what value = (v, some r2)) (b1 : r2 0 = nI a1) (b2 : a1 ≤ 10) (b3 : r2 1 = nI a2) (b4 : a2 ≤ 10) (b5 : r2 2 = nI a3) (b6 : a3 ≤ 10) : CQ l D cA yX6_set cX6_set 3 .int rm_X6_set ad E [.ref (ad 0), .int what, .int value] v (fun E' => LQ cA ad E' r2 a1 a2 a3 (nup nh) ln txt d ps) := by
  have hI := hQ.i
  obtain ⟨H, s1, asd, hco, hmk, hsr, h1, h2⟩ := hQ
  refine ⟨_, c_X6_set hco hmk hsr, fun x E' hp => ?_⟩
  obtain ⟨ne2, nt2, nk2, rfl, g1, g2, g3, g4⟩ := hp
  rw [h] at g1
  refine ⟨by rw [h], ?_⟩
  exact LQ.cnt (ne := ne2) (nt := nt2) (nk := nk2) ⟨_, s1, asd, g1, g2, g3, (g4 _ (by omega)).trans h1, (g4 _ (by omega)).trans h2⟩ b1 b2 b3 b4 b5 b6
theorem q_thump_n {l : Launch} {D : va_G} {cA : Nat → ClassId} {ad : Nat → Nat} {E : Nat → va_E} {r : Nat → Int32} {ne nt nk nh ln : Nat} {txt d ps : Nat → Int32} {p t c : Int32} {v : Int32} (hQ : LQ cA ad E r ne nt nk nh ln txt d ps) (h : sAct r ne 0 nt p t c = (v, none)) : CQ l D cA yX6_thump cX6_thump 4 .int rm_X6_thump ad E [.ref (ad 0), .int p, .int t, .int c] v (fun E' => LQ cA ad E' r ne nt nk nh ln txt d ps) := by
  have hI := hQ.i
  obtain ⟨H, s1, asd, hco, hmk, hsr, h1, h2⟩ := hQ
  refine ⟨_, c_X6_thump hco hmk hsr, fun x E' hp => ?_⟩
  obtain ⟨ne2, nt2, nk2, rfl, g1, g2, g3, g4⟩ := hp
  rw [h] at g1
  refine ⟨by rw [h], ?_⟩
  exact LQ.cnt (ne := ne2) (nt := nt2) (nk := nk2) ⟨H, s1, asd, g1, g2, g3, (g4 _ (by omega)).trans h1, (g4 _ (by omega)).trans h2⟩ hI.h0 hI.e0 hI.h1 hI.e1 hI.h2 hI.e2
theorem q_thump_s {l : Launch} {D : va_G} {cA : Nat → ClassId} {ad : Nat → Nat} {E : Nat → va_E} {r : Nat → Int32} {ne nt nk nh ln : Nat} {txt d ps : Nat → Int32} {p t c : Int32} {v : Int32} {r2 : Nat → Int32} {a1 a2 a3 : Nat} (hQ : LQ cA ad E r ne nt nk nh ln txt d ps) (h : sAct r ne 0 nt p t c = (v, some r2)) (b1 : r2 0 = nI a1) (b2 : a1 ≤ 10) (b3 : r2 1 = nI a2) (b4 : a2 ≤ 10) (b5 : r2 2 = nI a3) (b6 : a3 ≤ 10) : CQ l D cA yX6_thump cX6_thump 4 .int rm_X6_thump ad E [.ref (ad 0), .int p, .int t, .int c] v (fun E' => LQ cA ad E' r2 a1 a2 a3 (nup nh) ln txt d ps) := by
  have hI := hQ.i
  obtain ⟨H, s1, asd, hco, hmk, hsr, h1, h2⟩ := hQ
  refine ⟨_, c_X6_thump hco hmk hsr, fun x E' hp => ?_⟩
  obtain ⟨ne2, nt2, nk2, rfl, g1, g2, g3, g4⟩ := hp
  rw [h] at g1
  refine ⟨by rw [h], ?_⟩
  exact LQ.cnt (ne := ne2) (nt := nt2) (nk := nk2) ⟨_, s1, asd, g1, g2, g3, (g4 _ (by omega)).trans h1, (g4 _ (by omega)).trans h2⟩ b1 b2 b3 b4 b5 b6
theorem q_knock_n {l : Launch} {D : va_G} {cA : Nat → ClassId} {ad : Nat → Nat} {E : Nat → va_E} {r : Nat → Int32} {ne nt nk nh ln : Nat} {txt d ps : Nat → Int32} {p t c : Int32} {v : Int32} (hQ : LQ cA ad E r ne nt nk nh ln txt d ps) (h : sAct r ne 1 nk p t c = (v, none)) : CQ l D cA yX6_knock cX6_knock 4 .int rm_X6_knock ad E [.ref (ad 0), .int p, .int t, .int c] v (fun E' => LQ cA ad E' r ne nt nk nh ln txt d ps) := by
  have hI := hQ.i
  obtain ⟨H, s1, asd, hco, hmk, hsr, h1, h2⟩ := hQ
  refine ⟨_, c_X6_knock hco hmk hsr, fun x E' hp => ?_⟩
  obtain ⟨ne2, nt2, nk2, rfl, g1, g2, g3, g4⟩ := hp
  rw [h] at g1
  refine ⟨by rw [h], ?_⟩
  exact LQ.cnt (ne := ne2) (nt := nt2) (nk := nk2) ⟨H, s1, asd, g1, g2, g3, (g4 _ (by omega)).trans h1, (g4 _ (by omega)).trans h2⟩ hI.h0 hI.e0 hI.h1 hI.e1 hI.h2 hI.e2
theorem q_knock_s {l : Launch} {D : va_G} {cA : Nat → ClassId} {ad : Nat → Nat} {E : Nat → va_E} {r : Nat → Int32} {ne nt nk nh ln : Nat} {txt d ps : Nat → Int32} {p t c : Int32} {v : Int32} {r2 : Nat → Int32} {a1 a2 a3 : Nat} (hQ : LQ cA ad E r ne nt nk nh ln txt d ps) (h : sAct r ne 1 nk p t c = (v, some r2)) (b1 : r2 0 = nI a1) (b2 : a1 ≤ 10) (b3 : r2 1 = nI a2) (b4 : a2 ≤ 10) (b5 : r2 2 = nI a3) (b6 : a3 ≤ 10) : CQ l D cA yX6_knock cX6_knock 4 .int rm_X6_knock ad E [.ref (ad 0), .int p, .int t, .int c] v (fun E' => LQ cA ad E' r2 a1 a2 a3 (nup nh) ln txt d ps) := by
  have hI := hQ.i
  obtain ⟨H, s1, asd, hco, hmk, hsr, h1, h2⟩ := hQ
  refine ⟨_, c_X6_knock hco hmk hsr, fun x E' hp => ?_⟩
  obtain ⟨ne2, nt2, nk2, rfl, g1, g2, g3, g4⟩ := hp
  rw [h] at g1
  refine ⟨by rw [h], ?_⟩
  exact LQ.cnt (ne := ne2) (nt := nt2) (nk := nk2) ⟨_, s1, asd, g1, g2, g3, (g4 _ (by omega)).trans h1, (g4 _ (by omega)).trans h2⟩ b1 b2 b3 b4 b5 b6
theorem q_leaveOut_n {l : Launch} {D : va_G} {cA : Nat → ClassId} {ad : Nat → Nat} {E : Nat → va_E} {r : Nat → Int32} {ne nt nk nh ln : Nat} {txt d ps : Nat → Int32} {tt b : Int32} {v : Int32} (hQ : LQ cA ad E r ne nt nk nh ln txt d ps) (hb : b = 0 ∨ b = 1) (h : sLeave r nt tt b = (v, none)) : CQ l D cA yX6_leaveOut cX6_leaveOut 3 .int rm_X6_leaveOut ad E [.ref (ad 0), .int tt, .int b] v (fun E' => LQ cA ad E' r ne nt nk nh ln txt d ps) := by
  have hI := hQ.i
  obtain ⟨H, s1, asd, hco, hmk, hsr, h1, h2⟩ := hQ
  refine ⟨_, c_X6_leaveOut hco hmk hsr hb, fun x E' hp => ?_⟩
  obtain ⟨ne2, nt2, nk2, rfl, g1, g2, g3, g4⟩ := hp
  rw [h] at g1
  refine ⟨by rw [h], ?_⟩
  exact LQ.cnt (ne := ne2) (nt := nt2) (nk := nk2) ⟨H, s1, asd, g1, g2, g3, (g4 _ (by omega)).trans h1, (g4 _ (by omega)).trans h2⟩ hI.h0 hI.e0 hI.h1 hI.e1 hI.h2 hI.e2
theorem q_leaveOut_s {l : Launch} {D : va_G} {cA : Nat → ClassId} {ad : Nat → Nat} {E : Nat → va_E} {r : Nat → Int32} {ne nt nk nh ln : Nat} {txt d ps : Nat → Int32} {tt b : Int32} {v : Int32} {r2 : Nat → Int32} {a1 a2 a3 : Nat} (hQ : LQ cA ad E r ne nt nk nh ln txt d ps) (hb : b = 0 ∨ b = 1) (h : sLeave r nt tt b = (v, some r2)) (b1 : r2 0 = nI a1) (b2 : a1 ≤ 10) (b3 : r2 1 = nI a2) (b4 : a2 ≤ 10) (b5 : r2 2 = nI a3) (b6 : a3 ≤ 10) : CQ l D cA yX6_leaveOut cX6_leaveOut 3 .int rm_X6_leaveOut ad E [.ref (ad 0), .int tt, .int b] v (fun E' => LQ cA ad E' r2 a1 a2 a3 (nup nh) ln txt d ps) := by
  have hI := hQ.i
  obtain ⟨H, s1, asd, hco, hmk, hsr, h1, h2⟩ := hQ
  refine ⟨_, c_X6_leaveOut hco hmk hsr hb, fun x E' hp => ?_⟩
  obtain ⟨ne2, nt2, nk2, rfl, g1, g2, g3, g4⟩ := hp
  rw [h] at g1
  refine ⟨by rw [h], ?_⟩
  exact LQ.cnt (ne := ne2) (nt := nt2) (nk := nk2) ⟨_, s1, asd, g1, g2, g3, (g4 _ (by omega)).trans h1, (g4 _ (by omega)).trans h2⟩ b1 b2 b3 b4 b5 b6
theorem q_readOrders_n {l : Launch} {D : va_G} {cA : Nat → ClassId} {ad : Nat → Nat} {E : Nat → va_E} {r : Nat → Int32} {ne nt nk nh ln : Nat} {txt d ps : Nat → Int32} {v : Int32} (hQ : LQ cA ad E r ne nt nk nh ln txt d ps) (h : sRead r ne nt nk txt ln = (v, none)) : CQ l D cA yX6_readOrders cX6_readOrders 5 .int rm_X6_readOrders ad E [.ref (ad 0)] v (fun E' => LQ cA ad E' r ne nt nk nh ln txt d ps) := by
  have hI := hQ.i
  obtain ⟨H, s1, asd, hco, hmk, hsr, h1, h2⟩ := hQ
  refine ⟨_, c_X6_readOrders hco hmk hsr, fun x E' hp => ?_⟩
  obtain ⟨ne2, nt2, nk2, rfl, g1, g2, g3, g4⟩ := hp
  rw [h] at g1
  refine ⟨by rw [h], ?_⟩
  exact LQ.cnt (ne := ne2) (nt := nt2) (nk := nk2) ⟨H, s1, asd, g1, g2, g3, (g4 _ (by omega)).trans h1, (g4 _ (by omega)).trans h2⟩ hI.h0 hI.e0 hI.h1 hI.e1 hI.h2 hI.e2
theorem q_readOrders_s {l : Launch} {D : va_G} {cA : Nat → ClassId} {ad : Nat → Nat} {E : Nat → va_E} {r : Nat → Int32} {ne nt nk nh ln : Nat} {txt d ps : Nat → Int32} {v : Int32} {r2 : Nat → Int32} {a1 a2 a3 : Nat} (hQ : LQ cA ad E r ne nt nk nh ln txt d ps) (h : sRead r ne nt nk txt ln = (v, some r2)) (b1 : r2 0 = nI a1) (b2 : a1 ≤ 10) (b3 : r2 1 = nI a2) (b4 : a2 ≤ 10) (b5 : r2 2 = nI a3) (b6 : a3 ≤ 10) : CQ l D cA yX6_readOrders cX6_readOrders 5 .int rm_X6_readOrders ad E [.ref (ad 0)] v (fun E' => LQ cA ad E' r2 a1 a2 a3 (nup nh) ln txt d ps) := by
  have hI := hQ.i
  obtain ⟨H, s1, asd, hco, hmk, hsr, h1, h2⟩ := hQ
  refine ⟨_, c_X6_readOrders hco hmk hsr, fun x E' hp => ?_⟩
  obtain ⟨ne2, nt2, nk2, rfl, g1, g2, g3, g4⟩ := hp
  rw [h] at g1
  refine ⟨by rw [h], ?_⟩
  exact LQ.cnt (ne := ne2) (nt := nt2) (nk := nk2) ⟨_, s1, asd, g1, g2, g3, (g4 _ (by omega)).trans h1, (g4 _ (by omega)).trans h2⟩ b1 b2 b3 b4 b5 b6
theorem q_undo {l : Launch} {D : va_G} {cA : Nat → ClassId} {ad : Nat → Nat} {E : Nat → va_E} {r : Nat → Int32} {ne nt nk nh ln : Nat} {txt d ps : Nat → Int32} (hQ : LQ cA ad E r ne nt nk nh ln txt d ps) : CQ l D cA yX6_undo cX6_undo 1 .int rm_X6_undo ad E [.ref (ad 0)] (if nh = 0 then (-5 : Int32) else nI (nh - 1)) (fun _ => True) := by
  obtain ⟨H, s1, asd, hco, hmk, hsr, h1, h2⟩ := hQ
  refine ⟨_, c_X6_undo hco hmk hsr, fun x E' hp => ?_⟩
  obtain ⟨ne2, nt2, nk2, hx, -⟩ := hp
  exact ⟨hx, trivial⟩
theorem q_clearText {l : Launch} {D : va_G} {cA : Nat → ClassId} {ad : Nat → Nat} {E : Nat → va_E} {r : Nat → Int32} {ne nt nk nh ln : Nat} {txt d ps : Nat → Int32} (hQ : LQ cA ad E r ne nt nk nh ln txt d ps) : CQ l D cA yX6_clearText cX6_clearText 2 .int rm_X6_clearText ad E [.ref (ad 0)] (nI ln) (fun E' => LQ cA ad E' r ne nt nk nh 0 txt d ps) := by
  obtain ⟨H, s1, asd, hco, hmk, hsr, h1, h2⟩ := hQ
  refine ⟨_, c_X6_clearText hco hmk hsr, fun x E' hp => ?_⟩
  obtain ⟨hx, g1, g2, g3, g4⟩ := hp
  exact ⟨hx, H, s1, asd, g1, g2, g3, (g4 _ (by omega)).trans h1, (g4 _ (by omega)).trans h2⟩
theorem q_type {l : Launch} {D : va_G} {cA : Nat → ClassId} {ad : Nat → Nat} {E : Nat → va_E} {r : Nat → Int32} {ne nt nk nh ln : Nat} {txt d ps : Nat → Int32} {ch : Int32} (hQ : LQ cA ad E r ne nt nk nh ln txt d ps) (hl : ln < 60) (hch : vp_nar .char ch = ch) : CQ l D cA yX6_type cX6_type 2 .int rm_X6_type ad E [.ref (ad 0), .int ch] (nI (ln + 1)) (fun E' => LQ cA ad E' r ne nt nk nh (ln + 1) (upd txt ln ch) d ps) := by
  obtain ⟨H, s1, asd, hco, hmk, hsr, h1, h2⟩ := hQ
  refine ⟨_, c_X6_type hco hmk hsr hch, fun x E' hp => ?_⟩
  obtain ⟨hx, g1, g2, g3, g4⟩ := hp
  rw [if_neg (show ¬ ln = 60 by omega)] at hx
  rw [if_neg (show ¬ ln = 60 by omega), if_neg (show ¬ ln = 60 by omega)] at g1
  exact ⟨hx, H, s1, asd, g1, g2, g3, (g4 _ (by omega)).trans h1, (g4 _ (by omega)).trans h2⟩
section VAL
variable {r : Nat → Int32} {ne nt nk nh ln e k j : Nat}
theorem vE0 (hI : Inv r ne nt nk) (he : e < ne) : sEar r ne nt nk (nI e) 0 = r (6 + 4 * e + 0) := by
  have h0 := hI.e0; have h1 := hI.e1; have h2 := hI.e2; unfold sEar; rw [if_neg (ixN he (by omega)), nI_c (j := e) (by omega), if_pos rfl]
theorem vE1 (hI : Inv r ne nt nk) (he : e < ne) : sEar r ne nt nk (nI e) 1 = r (6 + 4 * e + 1) := by
  have h0 := hI.e0; have h1 := hI.e1; have h2 := hI.e2; unfold sEar; rw [if_neg (ixN he (by omega)), nI_c (j := e) (by omega), if_neg (show ¬ (1 : Int32) = 0 by decide), if_pos rfl]
theorem vE2 (hI : Inv r ne nt nk) (he : e < ne) : sEar r ne nt nk (nI e) 2 = r (6 + 4 * e + 2) + 1000 := by
  have h0 := hI.e0; have h1 := hI.e1; have h2 := hI.e2; unfold sEar; rw [if_neg (ixN he (by omega)), nI_c (j := e) (by omega), if_neg (show ¬ (2 : Int32) = 0 by decide), if_neg (show ¬ (2 : Int32) = 1 by decide), if_pos rfl]
theorem vE3 (hI : Inv r ne nt nk) (he : e < ne) : sEar r ne nt nk (nI e) 3 = r (6 + 4 * e + 3) + 1000 := by
  have h0 := hI.e0; have h1 := hI.e1; have h2 := hI.e2; unfold sEar; rw [if_neg (ixN he (by omega)), nI_c (j := e) (by omega), if_neg (show ¬ (3 : Int32) = 0 by decide), if_neg (show ¬ (3 : Int32) = 1 by decide), if_neg (show ¬ (3 : Int32) = 2 by decide), if_pos rfl]
theorem vE4 (hI : Inv r ne nt nk) (he : e < ne) : sEar r ne nt nk (nI e) 4 = nI (mC r e nt) := by
  have h0 := hI.e0; have h1 := hI.e1; have h2 := hI.e2; unfold sEar; rw [if_neg (ixN he (by omega)), nI_c (j := e) (by omega), if_neg (show ¬ (4 : Int32) = 0 by decide), if_neg (show ¬ (4 : Int32) = 1 by decide), if_neg (show ¬ (4 : Int32) = 2 by decide), if_neg (show ¬ (4 : Int32) = 3 by decide), if_pos rfl]
theorem vE5 (hI : Inv r ne nt nk) (he : e < ne) : sEar r ne nt nk (nI e) 5 = (if mC r e nt = 0 then -5 else mRd r e nt (mC r e nt - 1) + 10000) := by
  have h0 := hI.e0; have h1 := hI.e1; have h2 := hI.e2; unfold sEar; rw [if_neg (ixN he (by omega)), nI_c (j := e) (by omega), if_neg (show ¬ (5 : Int32) = 0 by decide), if_neg (show ¬ (5 : Int32) = 1 by decide), if_neg (show ¬ (5 : Int32) = 2 by decide), if_neg (show ¬ (5 : Int32) = 3 by decide), if_neg (show ¬ (5 : Int32) = 4 by decide), if_pos rfl]
theorem vE6 (hI : Inv r ne nt nk) (he : e < ne) : sEar r ne nt nk (nI e) 6 = nI (kC r e nk) := by
  have h0 := hI.e0; have h1 := hI.e1; have h2 := hI.e2; unfold sEar; rw [if_neg (ixN he (by omega)), nI_c (j := e) (by omega), if_neg (show ¬ (6 : Int32) = 0 by decide), if_neg (show ¬ (6 : Int32) = 1 by decide), if_neg (show ¬ (6 : Int32) = 2 by decide), if_neg (show ¬ (6 : Int32) = 3 by decide), if_neg (show ¬ (6 : Int32) = 4 by decide), if_neg (show ¬ (6 : Int32) = 5 by decide), if_pos rfl]
theorem vE7 (hI : Inv r ne nt nk) (he : e < ne) : sEar r ne nt nk (nI e) 7 = -2 := by
  have h0 := hI.e0; have h1 := hI.e1; have h2 := hI.e2; unfold sEar; rw [if_neg (ixN he (by omega)), if_neg (show ¬ (7 : Int32) = 0 by decide), if_neg (show ¬ (7 : Int32) = 1 by decide), if_neg (show ¬ (7 : Int32) = 2 by decide), if_neg (show ¬ (7 : Int32) = 3 by decide), if_neg (show ¬ (7 : Int32) = 4 by decide), if_neg (show ¬ (7 : Int32) = 5 by decide), if_neg (show ¬ (7 : Int32) = 6 by decide)]
theorem vEn (hI : Inv r ne nt nk) : sEar r ne nt nk (nI ne) 0 = -1 := by
  have h0 := hI.e0; have h1 := hI.e1; have h2 := hI.e2; unfold sEar; exact if_pos (Or.inr (by rw [nI_c (by omega)]; exact Nat.le_refl _))
theorem vC0 (hI : Inv r ne nt nk) : sCount r ne nt nk nh ln 0 = nI ne := by
  have h0 := hI.e0; have h1 := hI.e1; have h2 := hI.e2; unfold sCount; rw [if_pos rfl]; exact hI.h0
theorem vC1 (hI : Inv r ne nt nk) : sCount r ne nt nk nh ln 1 = nI nt := by
  have h0 := hI.e0; have h1 := hI.e1; have h2 := hI.e2; unfold sCount; rw [if_neg (show ¬ (1 : Int32) = 0 by decide), if_pos rfl]; exact hI.h1
theorem vC2 (hI : Inv r ne nt nk) : sCount r ne nt nk nh ln 2 = nI nk := by
  have h0 := hI.e0; have h1 := hI.e1; have h2 := hI.e2; unfold sCount; rw [if_neg (show ¬ (2 : Int32) = 0 by decide), if_neg (show ¬ (2 : Int32) = 1 by decide), if_pos rfl]; exact hI.h2
theorem vC3 (hI : Inv r ne nt nk) : sCount r ne nt nk nh ln 3 = r 3 := by
  have h0 := hI.e0; have h1 := hI.e1; have h2 := hI.e2; unfold sCount; rw [if_neg (show ¬ (3 : Int32) = 0 by decide), if_neg (show ¬ (3 : Int32) = 1 by decide), if_neg (show ¬ (3 : Int32) = 2 by decide), if_pos rfl]
theorem vC4 (hI : Inv r ne nt nk) : sCount r ne nt nk nh ln 4 = r 4 := by
  have h0 := hI.e0; have h1 := hI.e1; have h2 := hI.e2; unfold sCount; rw [if_neg (show ¬ (4 : Int32) = 0 by decide), if_neg (show ¬ (4 : Int32) = 1 by decide), if_neg (show ¬ (4 : Int32) = 2 by decide), if_neg (show ¬ (4 : Int32) = 3 by decide), if_pos rfl]
theorem vC5 (hI : Inv r ne nt nk) : sCount r ne nt nk nh ln 5 = r 5 := by
  have h0 := hI.e0; have h1 := hI.e1; have h2 := hI.e2; unfold sCount; rw [if_neg (show ¬ (5 : Int32) = 0 by decide), if_neg (show ¬ (5 : Int32) = 1 by decide), if_neg (show ¬ (5 : Int32) = 2 by decide), if_neg (show ¬ (5 : Int32) = 3 by decide), if_neg (show ¬ (5 : Int32) = 4 by decide), if_pos rfl]
theorem vC6 (hI : Inv r ne nt nk) : sCount r ne nt nk nh ln 6 = sumN (fun ee => r (6 + 4 * ee + 1)) ne := by
  have h0 := hI.e0; have h1 := hI.e1; have h2 := hI.e2; unfold sCount; rw [if_neg (show ¬ (6 : Int32) = 0 by decide), if_neg (show ¬ (6 : Int32) = 1 by decide), if_neg (show ¬ (6 : Int32) = 2 by decide), if_neg (show ¬ (6 : Int32) = 3 by decide), if_neg (show ¬ (6 : Int32) = 4 by decide), if_neg (show ¬ (6 : Int32) = 5 by decide), if_pos rfl]
theorem vC7 (hI : Inv r ne nt nk) : sCount r ne nt nk nh ln 7 = sumN (fun ee => r (46 + 5 * ee + 4)) nt := by
  have h0 := hI.e0; have h1 := hI.e1; have h2 := hI.e2; unfold sCount; rw [if_neg (show ¬ (7 : Int32) = 0 by decide), if_neg (show ¬ (7 : Int32) = 1 by decide), if_neg (show ¬ (7 : Int32) = 2 by decide), if_neg (show ¬ (7 : Int32) = 3 by decide), if_neg (show ¬ (7 : Int32) = 4 by decide), if_neg (show ¬ (7 : Int32) = 5 by decide), if_neg (show ¬ (7 : Int32) = 6 by decide), if_pos rfl]
theorem vC9 (hI : Inv r ne nt nk) : sCount r ne nt nk nh ln 9 = nI nh := by
  have h0 := hI.e0; have h1 := hI.e1; have h2 := hI.e2; unfold sCount; rw [if_neg (show ¬ (9 : Int32) = 0 by decide), if_neg (show ¬ (9 : Int32) = 1 by decide), if_neg (show ¬ (9 : Int32) = 2 by decide), if_neg (show ¬ (9 : Int32) = 3 by decide), if_neg (show ¬ (9 : Int32) = 4 by decide), if_neg (show ¬ (9 : Int32) = 5 by decide), if_neg (show ¬ (9 : Int32) = 6 by decide), if_neg (show ¬ (9 : Int32) = 7 by decide), if_neg (show ¬ (9 : Int32) = 8 by decide), if_pos rfl]
theorem vC10 (hI : Inv r ne nt nk) : sCount r ne nt nk nh ln 10 = nI ln := by
  have h0 := hI.e0; have h1 := hI.e1; have h2 := hI.e2; unfold sCount; rw [if_neg (show ¬ (10 : Int32) = 0 by decide), if_neg (show ¬ (10 : Int32) = 1 by decide), if_neg (show ¬ (10 : Int32) = 2 by decide), if_neg (show ¬ (10 : Int32) = 3 by decide), if_neg (show ¬ (10 : Int32) = 4 by decide), if_neg (show ¬ (10 : Int32) = 5 by decide), if_neg (show ¬ (10 : Int32) = 6 by decide), if_neg (show ¬ (10 : Int32) = 7 by decide), if_neg (show ¬ (10 : Int32) = 8 by decide), if_neg (show ¬ (10 : Int32) = 9 by decide), if_pos rfl]
theorem vC11 (hI : Inv r ne nt nk) : sCount r ne nt nk nh ln 11 = -2 := by
  have h0 := hI.e0; have h1 := hI.e1; have h2 := hI.e2; unfold sCount; rw [if_neg (show ¬ (11 : Int32) = 0 by decide), if_neg (show ¬ (11 : Int32) = 1 by decide), if_neg (show ¬ (11 : Int32) = 2 by decide), if_neg (show ¬ (11 : Int32) = 3 by decide), if_neg (show ¬ (11 : Int32) = 4 by decide), if_neg (show ¬ (11 : Int32) = 5 by decide), if_neg (show ¬ (11 : Int32) = 6 by decide), if_neg (show ¬ (11 : Int32) = 7 by decide), if_neg (show ¬ (11 : Int32) = 8 by decide), if_neg (show ¬ (11 : Int32) = 9 by decide), if_neg (show ¬ (11 : Int32) = 10 by decide)]
theorem vM0 (hI : Inv r ne nt nk) (he : e < ne) (hj : j < mC r e nt) : sMark r ne nt (nI e) (nI j) 0 = mRd r e nt j + 10000 := by
  have h0 := hI.e0; have h1 := hI.e1; have h2 := hI.e2; have hc := mC_le (r := r) (e := e) nt; unfold sMark; rw [if_neg (ixN he (by omega)), if_neg (fun h => h.elim (nI_pos (by omega)) (fun h => h (by decide))), nI_c (j := e) (by omega), nI_c (j := j) (by omega), if_neg (show ¬ mC r e nt ≤ j by omega), if_pos rfl]
theorem vM1 (hI : Inv r ne nt nk) (he : e < ne) (hj : j < mC r e nt) : sMark r ne nt (nI e) (nI j) 1 = mEr r e nt j + 10000 := by
  have h0 := hI.e0; have h1 := hI.e1; have h2 := hI.e2; have hc := mC_le (r := r) (e := e) nt; unfold sMark; rw [if_neg (ixN he (by omega)), if_neg (fun h => h.elim (nI_pos (by omega)) (fun h => h (by decide))), nI_c (j := e) (by omega), nI_c (j := j) (by omega), if_neg (show ¬ mC r e nt ≤ j by omega), if_neg (show ¬ (1 : Int32) = 0 by decide), if_pos rfl]
theorem vM2 (hI : Inv r ne nt nk) (he : e < ne) (hj : j < mC r e nt) : sMark r ne nt (nI e) (nI j) 2 = mTh r e nt j := by
  have h0 := hI.e0; have h1 := hI.e1; have h2 := hI.e2; have hc := mC_le (r := r) (e := e) nt; unfold sMark; rw [if_neg (ixN he (by omega)), if_neg (fun h => h.elim (nI_pos (by omega)) (fun h => h (by decide))), nI_c (j := e) (by omega), nI_c (j := j) (by omega), if_neg (show ¬ mC r e nt ≤ j by omega), if_neg (show ¬ (2 : Int32) = 0 by decide), if_neg (show ¬ (2 : Int32) = 1 by decide)]
theorem vMn (hI : Inv r ne nt nk) (he : e < ne) (hj : mC r e nt = j) : sMark r ne nt (nI e) (nI j) 0 = -5 := by
  have h0 := hI.e0; have h1 := hI.e1; have h2 := hI.e2; have hc := mC_le (r := r) (e := e) nt; unfold sMark; rw [if_neg (ixN he (by omega)), if_neg (fun h => h.elim (nI_pos (by omega)) (fun h => h (by decide))), nI_c (j := e) (by omega), nI_c (j := j) (by omega), if_pos (show mC r e nt ≤ j by omega)]
theorem vMb (hI : Inv r ne nt nk) (he : e < ne) : sMark r ne nt (nI e) (-1) 0 = -2 := by
  have h0 := hI.e0; have h1 := hI.e1; have h2 := hI.e2; unfold sMark; rw [if_neg (ixN he (by omega))]; exact if_pos (Or.inl (by decide))
theorem vR (hI : Inv r ne nt nk) (he : e < ne) {c : Int32} (hc : -10000 ≤ c ∧ c ≤ 300000) : sErr r ne nt (nI e) c = errR r e nt c := by
  have h0 := hI.e0; have h1 := hI.e1; have h2 := hI.e2; unfold sErr; rw [if_neg (ixN he (by omega)), if_pos hc, nI_c (by omega)]
theorem vRn (hI : Inv r ne nt nk) {c : Int32} : sErr r ne nt (nI ne) c = -9223372036854775807 := by
  have h0 := hI.e0; have h1 := hI.e1; have h2 := hI.e2; unfold sErr; rw [if_pos (Or.inr (by rw [nI_c (by omega)]; exact Nat.le_refl _))]; decide
theorem vRb (hI : Inv r ne nt nk) (hn : 0 < ne) : sErr r ne nt 0 300001 = -9223372036854775806 := by
  have h0 := hI.e0; have h1 := hI.e1; have h2 := hI.e2; show sErr r ne nt (nI 0) 300001 = _; unfold sErr; rw [if_neg (ixN hn (by omega)), if_neg (by decide)]; decide
theorem vK (hI : Inv r ne nt nk) (he : e < ne) {t : Nat} (ht : t ≤ 200000) : sCk r ne (nI e) (nI t) = rdc r e (nI t) + 10000 := by
  have h0 := hI.e0; have h1 := hI.e1; have h2 := hI.e2; unfold sCk; rw [if_neg (ixN he (by omega)), if_pos (show 0 ≤ nI t ∧ nI t ≤ 200000 from ⟨nI_pos' (by omega), nI_le (a := t) (b := 200000) ht (by omega)⟩), nI_c (j := e) (by omega)]
theorem vH0 (hI : Inv r ne nt nk) (hk : k < nt) (he : e < ne) : sHeard r ne nt nk 0 (nI k) (nI e) = hdF r 0 k e := by
  have h0 := hI.e0; have h1 := hI.e1; have h2 := hI.e2; unfold sHeard hdF; rw [if_neg (show ¬ ((nI k < 0 ∨ (if (0 : Int32) = 0 then nt else nk) ≤ (nI k).toNatClampNeg) ∨ (nI e < 0 ∨ ne ≤ (nI e).toNatClampNeg)) from fun h => h.elim (ixN (n := nt) hk (by omega)) (ixN he (by omega))), nI_c (j := k) (by omega), nI_c (j := e) (by omega)]; rfl
theorem vH1 (hI : Inv r ne nt nk) (hk : k < nk) (he : e < ne) : sHeard r ne nt nk 1 (nI k) (nI e) = hdF r 1 k e := by
  have h0 := hI.e0; have h1 := hI.e1; have h2 := hI.e2; unfold sHeard hdF; rw [if_neg (show ¬ ((nI k < 0 ∨ (if (1 : Int32) = 0 then nt else nk) ≤ (nI k).toNatClampNeg) ∨ (nI e < 0 ∨ ne ≤ (nI e).toNatClampNeg)) from fun h => h.elim (ixN (n := nk) hk (by omega)) (ixN he (by omega))), nI_c (j := k) (by omega), nI_c (j := e) (by omega)]; rfl
theorem vPs (hI : Inv r ne nt nk) (hk : k < nk) (he : e < ne) (hm : r (146 + 100 * 1 + 10 * k + e) = MISS) : sPut r ne nt nk (nI k) (nI e) = -9223372036854775803 := by
  have h0 := hI.e0; have h1 := hI.e1; have h2 := hI.e2; unfold sPut; rw [if_neg (show ¬ ((nI k < 0 ∨ nk ≤ (nI k).toNatClampNeg) ∨ (nI e < 0 ∨ ne ≤ (nI e).toNatClampNeg)) from fun h => h.elim (ixN hk (by omega)) (ixN he (by omega))), nI_c (j := k) (by omega), nI_c (j := e) (by omega), if_pos hm]; decide
theorem vPr (hI : Inv r ne nt nk) (hk : k < nk) (he : e < ne) (hm : ¬ r (146 + 100 * 1 + 10 * k + e) = MISS) : sPut r ne nt nk (nI k) (nI e) = rgt r nt k e := by
  have h0 := hI.e0; have h1 := hI.e1; have h2 := hI.e2; unfold sPut; rw [if_neg (show ¬ ((nI k < 0 ∨ nk ≤ (nI k).toNatClampNeg) ∨ (nI e < 0 ∨ ne ≤ (nI e).toNatClampNeg)) from fun h => h.elim (ixN hk (by omega)) (ixN he (by omega))), nI_c (j := k) (by omega), nI_c (j := e) (by omega), if_neg hm]
theorem vF3 (hI : Inv r ne nt nk) (hk : k < nk) : sFound r ne nt nk (nI k) 3 = (nI (hC r k ne)).toInt64 := by
  have h0 := hI.e0; have h1 := hI.e1; have h2 := hI.e2; unfold sFound; rw [if_neg (ixN hk (by omega)), nI_c (j := k) (by omega), if_neg (by decide), if_pos rfl]
theorem vF6 (hI : Inv r ne nt nk) (hk : k < nk) : sFound r ne nt nk (nI k) 6 = -9223372036854775806 := by
  have h0 := hI.e0; have h1 := hI.e1; have h2 := hI.e2; unfold sFound; rw [if_neg (ixN hk (by omega)), nI_c (j := k) (by omega), if_pos (by decide)]; decide
theorem vFn (hI : Inv r ne nt nk) (hk : k < nk) (hc : hC r k ne < 2) : sFound r ne nt nk (nI k) 0 = -9223372036854775804 := by
  have h0 := hI.e0; have h1 := hI.e1; have h2 := hI.e2; unfold sFound; rw [if_neg (ixN hk (by omega)), nI_c (j := k) (by omega), if_neg (by decide), if_neg (show ¬ (0 : Int32) = 3 by decide), if_pos hc]; decide
theorem vF0 (hI : Inv r ne nt nk) (hk : k < nk) (hc : ¬ hC r k ne < 2) : sFound r ne nt nk (nI k) 0 = (nI (plc r ne nt k)).toInt64 := by
  have h0 := hI.e0; have h1 := hI.e1; have h2 := hI.e2; unfold sFound; rw [if_neg (ixN hk (by omega)), nI_c (j := k) (by omega), if_neg (by decide), if_neg (show ¬ (0 : Int32) = 3 by decide), if_neg hc, if_pos rfl]
theorem vF1 (hI : Inv r ne nt nk) (hk : k < nk) (hc : ¬ hC r k ne < 2) : sFound r ne nt nk (nI k) 1 = tmK r ne nt k (nI (plc r ne nt k)) := by
  have h0 := hI.e0; have h1 := hI.e1; have h2 := hI.e2; unfold sFound; rw [if_neg (ixN hk (by omega)), nI_c (j := k) (by omega), if_neg (by decide), if_neg (show ¬ (1 : Int32) = 3 by decide), if_neg hc, if_neg (show ¬ (1 : Int32) = 0 by decide), if_pos rfl]
theorem vF2 (hI : Inv r ne nt nk) (hk : k < nk) (hc : ¬ hC r k ne < 2) : sFound r ne nt nk (nI k) 2 = spW r ne nt k (nI (plc r ne nt k)) := by
  have h0 := hI.e0; have h1 := hI.e1; have h2 := hI.e2; unfold sFound; rw [if_neg (ixN hk (by omega)), nI_c (j := k) (by omega), if_neg (by decide), if_neg (show ¬ (2 : Int32) = 3 by decide), if_neg hc, if_neg (show ¬ (2 : Int32) = 0 by decide), if_neg (show ¬ (2 : Int32) = 1 by decide), if_pos rfl]
theorem vF4 (hI : Inv r ne nt nk) (hk : k < nk) (hc : ¬ hC r k ne < 2) : sFound r ne nt nk (nI k) 4 = (if spW r ne nt k (nI (plc r ne nt k)) ≤ 1000 * (r 4).toInt64 then 1 else 0) := by
  have h0 := hI.e0; have h1 := hI.e1; have h2 := hI.e2; unfold sFound; rw [if_neg (ixN hk (by omega)), nI_c (j := k) (by omega), if_neg (by decide), if_neg (show ¬ (4 : Int32) = 3 by decide), if_neg hc, if_neg (show ¬ (4 : Int32) = 0 by decide), if_neg (show ¬ (4 : Int32) = 1 by decide), if_neg (show ¬ (4 : Int32) = 2 by decide), if_pos rfl]
theorem vF5 (hI : Inv r ne nt nk) (hk : k < nk) (hc : ¬ hC r k ne < 2) : sFound r ne nt nk (nI k) 5 = (nI (wrE r ne nt k (nI (plc r ne nt k)) (tmK r ne nt k (nI (plc r ne nt k))))).toInt64 := by
  have h0 := hI.e0; have h1 := hI.e1; have h2 := hI.e2; unfold sFound; rw [if_neg (ixN hk (by omega)), nI_c (j := k) (by omega), if_neg (by decide), if_neg (show ¬ (5 : Int32) = 3 by decide), if_neg hc, if_neg (show ¬ (5 : Int32) = 0 by decide), if_neg (show ¬ (5 : Int32) = 1 by decide), if_neg (show ¬ (5 : Int32) = 2 by decide), if_neg (show ¬ (5 : Int32) = 4 by decide)]
theorem vSn (hI : Inv r ne nt nk) (hk : k < nk) (hc : hC r k ne < 2) : sSpread r ne nt nk (nI k) 0 = -9223372036854775804 := by
  have h0 := hI.e0; have h1 := hI.e1; have h2 := hI.e2; unfold sSpread; rw [if_neg (ixN hk (by omega)), nI_c (j := k) (by omega), if_neg (by decide), if_pos hc]; decide
theorem vS (hI : Inv r ne nt nk) (hk : k < nk) (hc : ¬ hC r k ne < 2) {x : Nat} (hx : x ≤ 1000) : sSpread r ne nt nk (nI k) (nI x) = spW r ne nt k (nI x) := by
  have h0 := hI.e0; have h1 := hI.e1; have h2 := hI.e2; unfold sSpread; rw [if_neg (ixN hk (by omega)), nI_c (j := k) (by omega), if_neg (show ¬ ¬ (0 ≤ nI x ∧ nI x ≤ 1000) from fun h => h ⟨nI_pos' (by omega), nI_le (a := x) (b := 1000) hx (by omega)⟩), if_neg hc]
theorem vSb (hI : Inv r ne nt nk) (hk : k < nk) : sSpread r ne nt nk (nI k) 1001 = -9223372036854775806 := by
  have h0 := hI.e0; have h1 := hI.e1; have h2 := hI.e2; unfold sSpread; rw [if_neg (ixN hk (by omega)), nI_c (j := k) (by omega), if_pos (by decide)]; decide
theorem vT0 (hI : Inv r ne nt nk) (hk : k < nk) : sTruth r ne nt nk (nI k) 0 = r (46 + 50 * 1 + 5 * k + 0) := by
  have h0 := hI.e0; have h1 := hI.e1; have h2 := hI.e2; unfold sTruth; rw [if_neg (ixN hk (by omega)), nI_c (j := k) (by omega), if_neg (by decide), if_pos rfl]
theorem vT1 (hI : Inv r ne nt nk) (hk : k < nk) : sTruth r ne nt nk (nI k) 1 = r (46 + 50 * 1 + 5 * k + 1) := by
  have h0 := hI.e0; have h1 := hI.e1; have h2 := hI.e2; unfold sTruth; rw [if_neg (ixN hk (by omega)), nI_c (j := k) (by omega), if_neg (by decide), if_neg (show ¬ (1 : Int32) = 0 by decide), if_pos rfl]
theorem vTn (hI : Inv r ne nt nk) (hk : k < nk) (hc : hC r k ne < 2) : sTruth r ne nt nk (nI k) 2 = -4 := by
  have h0 := hI.e0; have h1 := hI.e1; have h2 := hI.e2; unfold sTruth; rw [if_neg (ixN hk (by omega)), nI_c (j := k) (by omega), if_neg (by decide), if_neg (show ¬ (2 : Int32) = 0 by decide), if_neg (show ¬ (2 : Int32) = 1 by decide), if_pos hc]
theorem vT2 (hI : Inv r ne nt nk) (hk : k < nk) (hc : ¬ hC r k ne < 2) : sTruth r ne nt nk (nI k) 2 = far (nI (plc r ne nt k)) (r (46 + 50 * 1 + 5 * k + 0)) := by
  have h0 := hI.e0; have h1 := hI.e1; have h2 := hI.e2; unfold sTruth; rw [if_neg (ixN hk (by omega)), nI_c (j := k) (by omega), if_neg (by decide), if_neg (show ¬ (2 : Int32) = 0 by decide), if_neg (show ¬ (2 : Int32) = 1 by decide), if_neg hc]
end VAL
