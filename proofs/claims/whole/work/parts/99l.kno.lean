/-! the classes are known at the start -/
theorem kno_1 {s : State} {args : Array Value} (hts : ∀ w ∈ lw_tbl, w.before args s = true) {C : String} {T : u_T} {N : Nat} (hl : ∀ w ∈ u_ws C T N, WIn w) (hi : WIn (.instantiable C N)) : ∃ q : ClassId × (Nat → Nat), u_Kn s C T N q.1 q.2 := by
  obtain ⟨cC, iS, h⟩ := u_known hts (fun w hw => (hl w hw).1) (hts _ hi.1)
  exact ⟨(cC, iS), h⟩
theorem kno_9 {s : State} {args : Array Value} (hts : ∀ w ∈ lw_tbl, w.before args s = true) : ∃ D : va_G, ∀ (c : Nat) (q : vw_C), vwCl[c]? = some q → u_Kn s q.1 q.2.1 q.2.2 (D.1 c) (D.2 c) := by
  obtain ⟨a0, h0⟩ := kno_1 hts lay_X1 w_in_X1
  obtain ⟨a1, h1⟩ := kno_1 hts lay_X2 w_in_X2
  obtain ⟨a2, h2⟩ := kno_1 hts lay_X4 w_in_X4
  obtain ⟨a3, h3⟩ := kno_1 hts lay_X5 w_in_X5
  obtain ⟨a4, h4⟩ := kno_1 hts lay_X6 w_in_X6
  obtain ⟨a5, h5⟩ := kno_1 hts lay_X7 w_in_X7
  obtain ⟨a6, h6⟩ := kno_1 hts lay_X8 w_in_X8
  obtain ⟨a7, h7⟩ := kno_1 hts lay_X9 w_in_X9
  obtain ⟨a8, h8⟩ := kno_1 hts lay_X10 w_in_X10
  refine ⟨(fun c => ([a0, a1, a2, a3, a4, a5, a6, a7, a8].getD c a0).1, fun c => ([a0, a1, a2, a3, a4, a5, a6, a7, a8].getD c a0).2), fun c q hq => ?_⟩
  have hc : c < 9 := (List.getElem?_eq_some_iff.mp hq).1
  rcases (show c = 0 ∨ c = 1 ∨ c = 2 ∨ c = 3 ∨ c = 4 ∨ c = 5 ∨ c = 6 ∨ c = 7 ∨ c = 8 by omega) with rfl | rfl | rfl | rfl | rfl | rfl | rfl | rfl | rfl
  · cases hq; exact h0
  · cases hq; exact h1
  · cases hq; exact h2
  · cases hq; exact h3
  · cases hq; exact h4
  · cases hq; exact h5
  · cases hq; exact h6
  · cases hq; exact h7
  · cases hq; exact h8
theorem arr_int {s : State} {args : Array Value} (h : (Cond.arrayClass .int).before args s = true) : ∃ cA, ArrOfT s cA .int ∧ va_RA s cA .int := by
  obtain ⟨cA, kA, comp, hfind, hk, hkind⟩ := Cond.arrayClass_spec h
  exact ⟨cA, fun n z => ⟨(fun k hk9 => by cases hk9), kA, hk, comp, hkind⟩, hfind⟩
