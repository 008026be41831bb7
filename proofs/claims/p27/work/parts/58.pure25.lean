/-- the same class over rows that say the same -/
theorem Core.cg {cA : Nat → ClassId} {ad : Nat → Nat} {E : Nat → va_E} {r r' : Nat → Int32} {ne nt nk nh : Nat} {H H' : Nat → Nat → Int32} {s1 : Int32} {asd asd' : Nat → Int32} {ln : Nat} {txt : Nat → Int32} (h : Core cA ad E r ne nt nk nh H s1 asd ln txt) (q1 : eqN 346 r' r) (q2 : eqH nh H' H) (q3 : s1 = 0 ∨ eqN 346 asd' asd) : Core cA ad E r' ne nt nk nh H' s1 asd' ln txt := by
  obtain ⟨v, vs, tg, vh, od, po, nu, ar, pla, ti, re, h0, hst, hsn, h73, h74, hhs, h219, h220, h221, h222, h223, h224, htg, hnh, hln, hcn, hhc, hss⟩ := h
  refine ⟨v, vs, tg, vh, od, po, nu, ar, pla, ti, re, h0, hst, hsn, h73, h74, hhs, h219, h220, h221, h222, h223, h224, htg, hnh, hln, hcn.cg q1, fun i hi => (hhc i hi).cg (q2 i hi), ?_⟩
  rcases q3 with q | q
  · exact Or.inl q
  · rcases hss with z | ⟨z, y⟩
    · exact Or.inl z
    · exact Or.inr ⟨z, y.cg q⟩
