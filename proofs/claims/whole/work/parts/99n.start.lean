/-! the facts of the start, put together -/
section FST
variable {s : State} {args : Array Value} {A : Nat → Prop}
theorem of_inj {o n d : String} {v v' : Value} {t : Nat} {U : State} {H : Heap} (h : va_OF o n d v t A U H) (h' : va_OF o n d v' t A U H) : v = v' := by
  obtain ⟨cf, k, i, f, cell, h1, h2, h3, h4, h5, h6⟩ := h
  obtain ⟨cf', k', i', f', cell', g1, g2, g3, g4, g5, g6⟩ := h'
  cases h1.symm.trans g1
  cases h3.symm.trans g3
  exact Option.some.inj (h5.symm.trans g5)
theorem tt_inj {ty : FieldType} {t N N' : Nat} {f f' : Nat → Value} {U : State} {H : Heap} (h : va_T ty t N f A U H) (h' : va_T ty t N' f' A U H) (hN : N < 2 ^ 31) (hN' : N' < 2 ^ 31) : N = N' ∧ ∀ j, j < N → f j = f' j := by
  obtain ⟨cell, h1, h2, h3, h4, h5, h6, h7⟩ := h
  obtain ⟨cell', g1, g2, g3, g4, g5, g6, g7⟩ := h'
  cases h1.symm.trans g1
  have e : Int32.ofNat N = Int32.ofNat N' := h5.symm.trans g5
  have e2 := congrArg Int32.toNatClampNeg e
  rw [Int32.toNatClampNeg_ofNat_of_lt hN, Int32.toNatClampNeg_ofNat_of_lt hN'] at e2
  subst e2
  exact ⟨rfl, fun j hj => Option.some.inj ((h6 j hj).symm.trans (g6 j hj))⟩
theorem f_en (hts : ∀ w ∈ lw_tbl, w.before args s = true) (hgv : (Jvm.Cond.and given_1 narrow_1).before args s = true) (hA : ∀ a : Nat, a < s.heap.size → ¬ A a) : ∃ ad : Nat → Nat, va_En "ForkWatch$Kind" "LForkWatch$Kind;" kNm kF ad A s s.heap ∧ ∀ i, i < 16 → (Term.static "ForkWatch$Kind" (kNm.getD i "") "LForkWatch$Kind;").eval args s none [] s = some (.ref (ad i)) := by
  refine va_Enof2 (fun i hi => fk_ly hts i hi) (fk_in hts) (fun i hi => fk_ex hgv i hi) (fun q hq i hi => ?_) (fun i j hi hj hij => ?_) hA
  · rcases List.mem_cons.mp hq with e | hq
    · cases e
      exact fk_or hgv i hi
    · cases List.mem_singleton.mp hq
      exact fk_os hgv i hi
  · have h9 : (decide (i = j) || fk_ne_l.contains (i, j) || fk_ne_l.contains (j, i)) = true := (by decide +kernel : ∀ i, i < 16 → ∀ j, j < 16 → (decide (i = j) || fk_ne_l.contains (i, j) || fk_ne_l.contains (j, i)) = true) i hi j hj
    rw [decide_eq_false hij, Bool.false_or, Bool.or_eq_true] at h9
    rcases h9 with h | h
    · exact Or.inl (fk_ne hgv (i, j) (List.contains_iff_mem.mp h))
    · exact Or.inr (fk_ne hgv (j, i) (List.contains_iff_mem.mp h))
theorem f_s1 (hgv : (Jvm.Cond.and given_1 narrow_1).before args s = true) (hA : ∀ a : Nat, a < s.heap.size → ¬ A a) (i : Nat) : ∃ q : Nat × Nat, i < 22 → (Term.string "ForkWatch$Kind" (kEn.getD i 0)).eval args s none [] s = some (.ref q.1) ∧ va_O "java/lang/String" q.1 A s s.heap ∧ va_OF "java/lang/String" "coder" "B" (.int 0) q.1 A s s.heap ∧ va_OF "java/lang/String" "value" "[B" (.ref q.2) q.1 A s s.heap ∧ va_T .byte q.2 (kLen.getD i 0) (fun j => .int ((kByt.getD i []).getD j 0)) A s s.heap := by
  by_cases hi : i < 22
  · have hz : ∀ k : Nat, k < 1 → k = 0 := fun k hk => by omega
    obtain ⟨aK, aV, hS, hE⟩ := vk_Sof (args := args) (s := s) (N := 1) (tm := fun _ => Term.string "ForkWatch$Kind" (kEn.getD i 0)) (len := [kLen.getD i 0]) (byt := [kByt.getD i []]) (A := A)
      (fun k hk => by
        cases hz k hk
        exact (by decide +kernel : ∀ i, i < 22 → kLen.getD i 0 < 2 ^ 31) i hi)
      (fun k hk => fs_ex hgv i hi) (fun k hk => fs_co hgv i hi) (fun k hk => fs_ar hgv i hi)
      (fun k hk => by
        cases hz k hk
        exact fs_le hgv i hi)
      (fun k hk j hj => by
        cases hz k hk
        exact fs_el hgv (i, j) ((by decide +kernel : ∀ i, i < 22 → ∀ j, j < kLen.getD i 0 → (i, j) ∈ fs_el_l) i hi j hj))
      (fun k j hk hj hkj => absurd ((hz k hk).trans (hz j hj).symm) hkj) hA
    have h0 : 0 < 1 := Nat.zero_lt_one
    exact ⟨(aK 0, aV 0), fun _ => ⟨hE 0 h0, hS.1 0 h0⟩⟩
  · exact ⟨(0, 0), fun h => absurd h hi⟩
theorem f_st (hgv : (Jvm.Cond.and given_1 narrow_1).before args s = true) (hA : ∀ a : Nat, a < s.heap.size → ¬ A a) : ∃ aK aV : Nat → Nat, vk_S 22 kLen kByt aK aV A s s.heap ∧ ∀ i : Nat, i < 22 → (Term.string "ForkWatch$Kind" (kEn.getD i 0)).eval args s none [] s = some (.ref (aK i)) := by
  obtain ⟨ad, had⟩ := Classical.axiomOfChoice (f_s1 (A := A) hgv hA)
  refine ⟨fun i => (ad i).1, fun i => (ad i).2, ⟨fun i hi => (had i hi).2, fun i j hi hj e => ?_⟩, fun i hi => (had i hi).1⟩
  have e1 : (ad i).1 = (ad j).1 := e
  have v1 := (had i hi).2.2.2.1
  have v2 := (had j hj).2.2.2.1
  have t1 := (had i hi).2.2.2.2
  have t2 := (had j hj).2.2.2.2
  rw [e1] at v1
  have e2 : (ad i).2 = (ad j).2 := Value.ref.inj (of_inj v1 v2)
  rw [e2] at t1
  have hln : ∀ i, i < 22 → kLen.getD i 0 < 2 ^ 31 := by decide +kernel
  obtain ⟨k1, k2⟩ := tt_inj t1 t2 (hln i hi) (hln j hj)
  have hd : ∀ i, i < 22 → ∀ j, j < 22 → kLen.getD i 0 = kLen.getD j 0 → (∀ k, k < kLen.getD i 0 → (kByt.getD i []).getD k 0 = (kByt.getD j []).getD k 0) → i = j := by decide +kernel
  exact hd i hi j hj k1 (fun k hk => Value.int.inj (k2 k hk))
theorem f_all (hts : ∀ w ∈ lw_tbl, w.before args s = true) (hgv : (Jvm.Cond.and given_1 narrow_1).before args s = true) (hA : ∀ a : Nat, a < s.heap.size → ¬ A a) {ad : Nat → Nat} (had : ∀ i, i < 16 → (Term.static "ForkWatch$Kind" (kNm.getD i "") "LForkWatch$Kind;").eval args s none [] s = some (.ref (ad i))) : ∃ t : Nat, va_Z "ForkWatch$Kind" "ALL" "[LForkWatch$Kind;" (.ref t) A s s.heap ∧ va_T (.object "ForkWatch$Kind") t 16 (fun j => .ref (ad j)) A s s.heap := by
  obtain ⟨t, ht, hT⟩ := va_Tof (N := 16) (f := fun j => .ref (ad j)) (A := A) (by decide) (fa_ar hgv) (va_eqt (fa_le hgv)) (fun j hj => va_eqv (fa_el hgv j hj) (had j hj)) hA
  exact ⟨t, va_Zof (fa_ly hts) (fk_in hts) ht hA, hT⟩
theorem f_map (hts : ∀ w ∈ lw_tbl, w.before args s = true) (hgv : (Jvm.Cond.and given_1 narrow_1).before args s = true) (hA : ∀ a : Nat, a < s.heap.size → ¬ A a) : ∃ t : Nat, va_Z "ForkWatch$1" "$SwitchMap$ForkWatch$Kind" "[I" (.ref t) A s s.heap ∧ va_T .int t 16 (fun j => .int (kSm.getD j 0)) A s s.heap := by
  obtain ⟨t, ht, hT⟩ := va_Tof (N := 16) (f := fun j => .int (kSm.getD j 0)) (A := A) (by decide) (fm_ar hgv) (va_eqt (fm_le hgv)) (fun j hj => va_eqt (fm_el hgv j hj)) hA
  exact ⟨t, va_Zof (fm_ly hts) (fm_in hts) ht hA, hT⟩
theorem f_sf (hts : ∀ w ∈ lw_tbl, w.before args s = true) (hgv : (Jvm.Cond.and given_1 narrow_1).before args s = true) (hA : ∀ a : Nat, a < s.heap.size → ¬ A a) : ∃ r, va_Z "jdk/internal/util/Preconditions" "SIOOBE_FORMATTER" "Ljava/util/function/BiFunction;" (va_rf r) A s s.heap := by
  rcases va_Zqof (ff_ly hts) (ff_in hts) (ff_rf hgv) hA with h | ⟨t, h⟩
  · exact ⟨none, h⟩
  · exact ⟨some t, h⟩
theorem f_KX (hts : ∀ w ∈ lw_tbl, w.before args s = true) (hgv : (Jvm.Cond.and given_1 narrow_1).before args s = true) : ∃ (ad : Nat → Nat) (KA : KAd), KX s.heap.size ad KA s s.heap := by
  have hA : ∀ a : Nat, a < s.heap.size → ¬ (fun q => s.heap.size ≤ q) a := fun a ha => Nat.not_le.mpr ha
  obtain ⟨ad, hEn, had⟩ := f_en hts hgv hA
  obtain ⟨aK, aV, hS, haK⟩ := f_st hgv hA
  obtain ⟨tA, hA1, hA2⟩ := f_all hts hgv hA had
  obtain ⟨tM, hM1, hM2⟩ := f_map hts hgv hA
  refine ⟨ad, (aK, aV, tA, tM), hEn, hS, ?_, ?_, ⟨hA1, hA2⟩, ⟨hM1, hM2⟩, va_Zof (fc_ly hts) (fc_in hts) (va_eqt (fc_eq hgv)) hA, f_sf hts hgv hA, va_Nw.of rfl (fn_al hts)⟩
  · exact va_Efof (tm := fun i => Term.string "ForkWatch$Kind" (kEn.getD (kSp.getD i 0) 0)) had (fun i hi => fk_sp hgv i hi) (fun i hi => haK _ ((by decide +kernel : ∀ i, i < 16 → kSp.getD i 0 < 22) i hi)) hA
  · exact va_Efof (tm := fun i => Term.string "ForkWatch$Kind" (kEn.getD (kOp.getD i 0) 0)) had (fun i hi => fk_op hgv i hi) (fun i hi => haK _ ((by decide +kernel : ∀ i, i < 16 → kOp.getD i 0 < 22) i hi)) hA
theorem f_Th (hts : ∀ w ∈ lw_tbl, w.before args s = true) (hgv : (Jvm.Cond.and given_1 narrow_1).before args s = true) : ThX s.heap.size s s.heap := by
  have hA : ∀ a : Nat, a < s.heap.size → ¬ (fun q => s.heap.size ≤ q) a := fun a ha => Nat.not_le.mpr ha
  refine ⟨⟨va_Nw.of rfl (fd_r hts), va_Nw.of rfl (fd_e hts), va_Nw.of rfl (fd_t hts)⟩, fun E hE => ?_, vx_Zqof (fu_ly hts) (fu_in hts) (fu_rf hgv) hA, vx_Zqof (fv_ly hts) (fu_in hts) (fv_rf hgv) hA, fun q hq => ?_⟩
  · rcases List.mem_cons.mp hE with e | hE
    · cases e
      exact va_Nw.of rfl (fe_i hts)
    · rcases List.mem_cons.mp hE with e | hE
      · cases e
        exact va_Nw.of rfl (fe_a hts)
      · cases List.mem_singleton.mp hE
        exact va_Nw.of rfl (fe_n hts)
  · obtain ⟨a, c, cell, k, q1, -⟩ := Cond.exactly_spec (args := args) (first := s) (o := none) (s := s) (idx := []) (fx_ex hgv q hq)
    exact ⟨a, vk_R.of (fx_rf hts q hq) q1⟩
theorem f_XX (hts : ∀ w ∈ lw_tbl, w.before args s = true) (hgv : (Jvm.Cond.and given_1 narrow_1).before args s = true) : ∃ (ad : Nat → Nat) (KA : KAd), XX s.heap.size ad KA s s.heap := by
  obtain ⟨ad, KA, h⟩ := f_KX hts hgv
  exact ⟨ad, KA, h, f_Th hts hgv, ⟨va_Nw.of rfl (fw_1 hts), va_Nw.of rfl (fw_2 hts), va_Nw.of rfl (fw_3 hts)⟩, ⟨va_Nw.of rfl (fw_4 hts), va_Nw.of rfl (fw_5 hts), va_Nw.of rfl (fw_6 hts), va_AO.of (fo_k hts), va_AO.of (fo_s hts), va_AO.of (fo_b hts), va_AO.of (fo_c hts)⟩, va_Nc.of (fz_1 hgv), va_Nc.of (fz_2 hgv), va_Nc.of (fz_3 hgv)⟩
theorem arr_byte (h : (Cond.arrayClass .byte).before args s = true) : ∃ cA, ArrOfT s cA .byte ∧ va_RA s cA .byte := by
  obtain ⟨cA, kA, comp, hfind, hk, hkind⟩ := Cond.arrayClass_spec h
  exact ⟨cA, fun n z => ⟨(fun k hk9 => by cases hk9), kA, hk, comp, hkind⟩, hfind⟩
theorem arr_boolean (h : (Cond.arrayClass .boolean).before args s = true) : ∃ cA, ArrOfT s cA .boolean ∧ va_RA s cA .boolean := by
  obtain ⟨cA, kA, comp, hfind, hk, hkind⟩ := Cond.arrayClass_spec h
  exact ⟨cA, fun n z => ⟨(fun k hk9 => by cases hk9), kA, hk, comp, hkind⟩, hfind⟩
theorem arr_long (h : (Cond.arrayClass .long).before args s = true) : ∃ cA, ArrOfT s cA .long ∧ va_RA s cA .long := by
  obtain ⟨cA, kA, comp, hfind, hk, hkind⟩ := Cond.arrayClass_spec h
  exact ⟨cA, fun n z => ⟨(fun k hk9 => by cases hk9), kA, hk, comp, hkind⟩, hfind⟩
theorem arr_obj {C : String} (h : (Cond.arrayOver (.object C)).before args s = true) : ∃ cA, ArrOfT s cA (.object C) ∧ va_RA s cA (.object C) := by
  obtain ⟨comp, cA, kA, hcomp, -, hk, hkind, hfind⟩ := Cond.arrayOver_spec h
  exact ⟨cA, fun n z => ⟨(fun k hk9 => by cases hk9), kA, hk, comp, hkind⟩, kA, comp, hk, hkind, hcomp, hfind⟩
theorem f_K (hts : ∀ w ∈ lw_tbl, w.before args s = true) (z0 : Nat) (ad : Nat → Nat) (X : State → Heap → Prop) : ∃ (D : va_G) (ac : Nat → ClassId), va_K D vwCl (tyG (gz D z0 ad ac X)) s := by
  obtain ⟨D, hD⟩ := kno_9 hts
  obtain ⟨c0, h0⟩ := arr_int (hts _ w_ac_int.1)
  obtain ⟨c1, h1⟩ := arr_byte (hts _ w_ac_byte.1)
  obtain ⟨c2, h2⟩ := arr_boolean (hts _ w_ac_boolean.1)
  obtain ⟨c3, h3⟩ := arr_long (hts _ w_ac_long.1)
  obtain ⟨c4, h4⟩ := arr_obj (fo_k hts)
  obtain ⟨c5, h5⟩ := arr_obj (fo_b hts)
  obtain ⟨c6, h6⟩ := arr_obj (fo_c hts)
  obtain ⟨c7, h7⟩ := arr_obj (fo_s hts)
  refine ⟨D, fun i => [c0, c1, c2, c3, c4, c5, c6, c7].getD i c0, hD, fun k q hq => ?_⟩
  have hk : k < 8 := (List.getElem?_eq_some_iff.mp hq).1
  rcases (show k = 0 ∨ k = 1 ∨ k = 2 ∨ k = 3 ∨ k = 4 ∨ k = 5 ∨ k = 6 ∨ k = 7 by omega) with rfl | rfl | rfl | rfl | rfl | rfl | rfl | rfl
  · cases hq; exact h0
  · cases hq; exact h1
  · cases hq; exact h2
  · cases hq; exact h3
  · cases hq; exact h4
  · cases hq; exact h5
  · cases hq; exact h6
  · cases hq; exact h7
end FST
