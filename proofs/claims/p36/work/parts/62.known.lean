/-! the law's start -/
theorem w_known {s : State} {args : Array Value} (hts : ∀ w ∈ tT, w.before args s = true) : ∃ D : va_G, ∀ (c : Nat) (q : vw_C), vwCl[c]? = some q → u_Kn s q.1 q.2.1 q.2.2 (D.1 c) (D.2 c) := by
  have h : ∀ c : Nat, ∃ xy : ClassId × (Nat → Nat), ∀ q : vw_C, vwCl[c]? = some q → u_Kn s q.1 q.2.1 q.2.2 xy.1 xy.2 := by
    obtain ⟨x0, y0, h0⟩ := u_known hts uw_X0 (hts _ tw_48)
    obtain ⟨x1, y1, h1⟩ := u_known hts uw_X1 (hts _ tw_203)
    obtain ⟨x2, y2, h2⟩ := u_known hts uw_X2 (hts _ tw_34)
    obtain ⟨x3, y3, h3⟩ := u_known hts uw_X3 (hts _ tw_134)
    obtain ⟨x4, y4, h4⟩ := u_known hts uw_X4 (hts _ tw_28)
    obtain ⟨x5, y5, h5⟩ := u_known hts uw_X5 (hts _ tw_140)
    obtain ⟨x6, y6, h6⟩ := u_known hts uw_X6 (hts _ tw_177)
    obtain ⟨x7, y7, h7⟩ := u_known hts uw_X7 (hts _ tw_93)
    obtain ⟨x8, y8, h8⟩ := u_known hts uw_X8 (hts _ tw_18)
    intro c
    match c with
    | 0 => exact ⟨(x0, y0), fun q hq => by cases hq; exact h0⟩
    | 1 => exact ⟨(x1, y1), fun q hq => by cases hq; exact h1⟩
    | 2 => exact ⟨(x2, y2), fun q hq => by cases hq; exact h2⟩
    | 3 => exact ⟨(x3, y3), fun q hq => by cases hq; exact h3⟩
    | 4 => exact ⟨(x4, y4), fun q hq => by cases hq; exact h4⟩
    | 5 => exact ⟨(x5, y5), fun q hq => by cases hq; exact h5⟩
    | 6 => exact ⟨(x6, y6), fun q hq => by cases hq; exact h6⟩
    | 7 => exact ⟨(x7, y7), fun q hq => by cases hq; exact h7⟩
    | 8 => exact ⟨(x8, y8), fun q hq => by cases hq; exact h8⟩
    | n + 9 => exact ⟨(x0, y0), fun q hq => by cases hq⟩
  exact ⟨(fun c => (Classical.choose (h c)).1, fun c => (Classical.choose (h c)).2), fun c q hq => Classical.choose_spec (h c) q hq⟩
theorem w_tys {s : State} {args : Array Value} (hts : ∀ w ∈ lw_tbl, w.before args s = true) : ∃ cI cJ cO : ClassId, ∀ (k : Nat) (q : ClassId × FieldType), (z_tys cI cJ cO)[k]? = some q → ArrOfT s q.1 q.2 ∧ va_RA s q.1 q.2 := by
  obtain ⟨cI, kI, pI, i1, i2, i3⟩ := Cond.arrayClass_spec (hts _ (List.mem_filter.mp tw_46).1)
  obtain ⟨cJ, kJ, pJ, j1, j2, j3⟩ := Cond.arrayClass_spec (hts _ (List.mem_filter.mp tw_212).1)
  obtain ⟨pO, cO, kO, o1, -, o2, o3, o4⟩ := Cond.arrayOver_spec (hts _ tw_26)
  refine ⟨cI, cJ, cO, fun k q hq => ?_⟩
  match k with
  | 0 => cases hq; exact ⟨fun n z => ⟨fun k h => (by cases h), kI, i2, pI, i3⟩, i1⟩
  | 1 => cases hq; exact ⟨fun n z => ⟨fun k h => (by cases h), kJ, j2, pJ, j3⟩, j1⟩
  | 2 => cases hq; exact ⟨fun n z => ⟨fun k h => (by cases h), kO, o2, pO, o3⟩, kO, pO, o2, o3, o1, o4⟩
  | n + 3 => cases hq
theorem w_NI {s : State} {args : Array Value} (hts : ∀ w ∈ lw_tbl, w.before args s = true) : z_NI s := by
  refine ⟨fun w hw => ?_, va_AO.of (hts _ tw_26)⟩
  simp only [nwL, List.mem_cons, List.not_mem_nil, or_false] at hw
  rcases hw with rfl | rfl | rfl | rfl | rfl | rfl | rfl | rfl | rfl | rfl
  · exact va_Nw.of rfl (hts _ tw_29)
  · exact va_Nw.of rfl (hts _ tw_35)
  · exact va_Nw.of rfl (hts _ tw_49)
  · exact va_Nw.of rfl (hts _ tw_91)
  · exact va_Nw.of rfl (hts _ tw_94)
  · exact va_Nw.of rfl (hts _ tw_135)
  · exact va_Nw.of rfl (hts _ tw_141)
  · exact va_Nw.of rfl (hts _ tw_183)
  · exact va_Nw.of rfl (hts _ tw_204)
  · exact va_Nw.of rfl (hts _ tw_213)
theorem w_N {s : State} {args : Array Value} (hts : ∀ w ∈ lw_tbl, w.before args s = true) : z_N s := ⟨va_Nw.of rfl (hts _ tw_508), va_Nw.of rfl (hts _ tw_539)⟩
