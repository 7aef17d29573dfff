/-! a turn of the law: what its calls leave -/
section LCL
variable {σ c' : St} {w : Option String} {val : Int64}
theorem cl_1 : (cI (w = none) (ul c' 33 0 val) c').1 = c'.1 := cI_a2 (Q := fun z : St => z.1 = c'.1) (fun _ => rfl) fun _ => rfl
theorem cl_A (hI : Inv σ σ) (hk : KU σ c') : Inv σ (cI (w = none) (ul c' 33 0 val) c') := hI.mg (fun a b h1 h2 => by rw [cl_1, hk.1 a (show ¬ OKc a by omega)])
theorem Inv.op {c m c' m' : St} (h : Inv c m) (hv : IV c' m') (hk : KU c c') (ho : OF m m') : Inv c' m' :=
  ⟨hv, fun k hk2 => by rw [hk.1 3 (show ¬ OKc 3 by omega), ho.1 31 k (by omega)]; exact h.2.1 k hk2, by rw [hk.1 0 (show ¬ OKc 0 by omega), ho.1 15 26 (by omega)]; exact h.2.2.1, by rw [hk.1 0 (show ¬ OKc 0 by omega), ho.1 15 5 (by omega)]; exact h.2.2.2.1, ⟨by rw [hk.1 1 (show ¬ OKc 1 by omega), ho.1 15 32 (by omega)]; exact h.2.2.2.2.1.1, by rw [hk.1 1 (show ¬ OKc 1 by omega), ho.1 15 33 (by omega)]; exact h.2.2.2.2.1.2⟩, nb_cg (ho.1 15 30 (by omega)) h.2.2.2.2.2 h.2.2.2.2.2.2⟩
/-- what the comparison needs -/
def CZ (S2 : St) (K R : Int32) : Prop := Inv S2 S2 ∧ S2.1 15 0 = K ∧ (K = 0 → S2.2.2 33 0 = R.toInt64)
theorem cl_val {S2 : St} (hw : w = none) (e : S2.2.2 33 0 = (cI (w = none) (ul c' 33 0 val) c').2.2 33 0) : S2.2.2 33 0 = val := by
  rw [e, cI_t hw]
  exact ul_same _ _ _ _
theorem cl_Z {S2 : St} {K R : Int32} (hI : Inv σ σ) (hk : KU σ c') (hv : IV c' S2) (ho : OF (cI (w = none) (ul c' 33 0 val) c') S2) (hK : K = 0 → w = none) (hth : S2.1 15 0 = K) (hr : w = none → val = R.toInt64) : CZ S2 K R := by
  have hB : Inv c' S2 := (cl_A (w := w) (val := val) hI hk).op hv hk ho
  refine ⟨hB.cg (fun a b q => by rw [ho.1 a b (by omega), cl_1]), hth, fun z => ?_⟩
  rw [cl_val (c' := c') (val := val) (hK z) (by rw [ho.2]), hr (hK z)]
theorem kof1_0 (w : Option String) : kof1 w = 0 → w = none := fun z => by
  unfold kof1 at z
  by_cases h : w = none
  · exact h
  · rw [if_neg h] at z; exact absurd z (by decide)
theorem kof2_0 (a : String) (w : Option String) : kof2 a w = 0 → w = none := fun z => by
  unfold kof2 at z
  by_cases h : w = none
  · exact h
  · rw [if_neg h] at z
    by_cases h2 : w = some a
    · rw [if_pos h2] at z; exact absurd z (by decide)
    · rw [if_neg h2] at z; exact absurd z (by decide)
theorem kof3_0 (a b : String) (w : Option String) : kof3 a b w = 0 → w = none := fun z => by
  unfold kof3 at z
  by_cases h : w = none
  · exact h
  · rw [if_neg h] at z
    by_cases h2 : w = some a
    · rw [if_pos h2] at z; exact absurd z (by decide)
    · rw [if_neg h2] at z
      by_cases h3 : w = some b
      · rw [if_pos h3] at z; exact absurd z (by decide)
      · rw [if_neg h3] at z; exact absurd z (by decide)
theorem wr_p {r : Int32} (h : 0 ≤ r) : wr9 r = none := by
  unfold wr9
  have a : ∀ k : Int32, k < 0 → ¬ r = k := fun k hk e => by rw [e] at h; exact absurd h (Int32.not_le.mpr hk)
  rw [if_neg (a (-1) (by decide)), if_neg (a (-2) (by decide)), if_neg (a (-3) (by decide))]
theorem nsN {E : String} (h : (none : Option String) = some E) : False := by cases h
theorem nsS {E : String} (h : some E = (none : Option String)) : False := by cases h
theorem oc_123 {rc Rm th : Int32} (h : OC rc Rm th 1 2 3) : (∀ E, wr9 rc = some E → E = exNo ∨ E = exA ∨ E = exI) ∧ th = kof3 exNo exA (wr9 rc) ∧ (wr9 rc = none → rc.toInt64 = Rm.toInt64) := by
  rcases h with ⟨e, p, t⟩ | ⟨-, e, t⟩ | ⟨-, e, t⟩ | ⟨-, e, t⟩
  · rw [wr_p p]; exact ⟨fun E z => (nsN z).elim, t, fun _ => by rw [e]⟩
  · subst e; exact ⟨fun E z => Or.inl (Option.some.inj z).symm, t, fun z => (nsS z).elim⟩
  · subst e; exact ⟨fun E z => Or.inr (Or.inl (Option.some.inj z).symm), t, fun z => (nsS z).elim⟩
  · subst e; exact ⟨fun E z => Or.inr (Or.inr (Option.some.inj z).symm), t, fun z => (nsS z).elim⟩
theorem oc_102 {rc Rm th : Int32} (h : OC rc Rm th 1 0 2) : (∀ E, wr9 rc = some E → E = exNo ∨ E = exI) ∧ th = kof2 exNo (wr9 rc) ∧ (wr9 rc = none → rc.toInt64 = Rm.toInt64) := by
  rcases h with ⟨e, p, t⟩ | ⟨-, e, t⟩ | ⟨y, e, t⟩ | ⟨-, e, t⟩
  · rw [wr_p p]; exact ⟨fun E z => (nsN z).elim, t, fun _ => by rw [e]⟩
  · subst e; exact ⟨fun E z => Or.inl (Option.some.inj z).symm, t, fun z => (nsS z).elim⟩
  · exact absurd rfl y
  · subst e; exact ⟨fun E z => Or.inr (Option.some.inj z).symm, t, fun z => (nsS z).elim⟩
theorem oc_120 {rc Rm th : Int32} (h : OC rc Rm th 1 2 0) : (∀ E, wr9 rc = some E → E = exNo ∨ E = exA) ∧ th = kof2 exNo (wr9 rc) ∧ (wr9 rc = none → rc.toInt64 = Rm.toInt64) := by
  rcases h with ⟨e, p, t⟩ | ⟨-, e, t⟩ | ⟨-, e, t⟩ | ⟨y, e, t⟩
  · rw [wr_p p]; exact ⟨fun E z => (nsN z).elim, t, fun _ => by rw [e]⟩
  · subst e; exact ⟨fun E z => Or.inl (Option.some.inj z).symm, t, fun z => (nsS z).elim⟩
  · subst e; exact ⟨fun E z => Or.inr (Option.some.inj z).symm, t, fun z => (nsS z).elim⟩
  · exact absurd rfl y
theorem oc_012 {rc Rm th : Int32} (h : OC rc Rm th 0 1 2) : (∀ E, wr9 rc = some E → E = exA ∨ E = exI) ∧ th = kof2 exA (wr9 rc) ∧ (wr9 rc = none → rc.toInt64 = Rm.toInt64) := by
  rcases h with ⟨e, p, t⟩ | ⟨y, e, t⟩ | ⟨-, e, t⟩ | ⟨-, e, t⟩
  · rw [wr_p p]; exact ⟨fun E z => (nsN z).elim, t, fun _ => by rw [e]⟩
  · exact absurd rfl y
  · subst e; exact ⟨fun E z => Or.inl (Option.some.inj z).symm, t, fun z => (nsS z).elim⟩
  · subst e; exact ⟨fun E z => Or.inr (Option.some.inj z).symm, t, fun z => (nsS z).elim⟩
theorem oc_100 {rc Rm th : Int32} (h : OC rc Rm th 1 0 0) : (∀ E, wr9 rc = some E → E = exNo) ∧ th = kof1 (wr9 rc) ∧ (wr9 rc = none → rc.toInt64 = Rm.toInt64) := by
  rcases h with ⟨e, p, t⟩ | ⟨-, e, t⟩ | ⟨y, e, t⟩ | ⟨y, e, t⟩
  · rw [wr_p p]; exact ⟨fun E z => (nsN z).elim, t, fun _ => by rw [e]⟩
  · subst e; exact ⟨fun E z => (Option.some.inj z).symm, t, fun z => (nsS z).elim⟩
  · exact absurd rfl y
  · exact absurd rfl y
theorem qd_c {Rc Rm th : Int32} (h : QD w Rc Rm th) : (∀ E, w = some E → E = exNo) ∧ th = kof1 w ∧ (w = none → Rc.toInt64 = Rm.toInt64) := by
  rcases h with ⟨rfl, e, t⟩ | ⟨rfl, t⟩
  · exact ⟨fun E z => (nsN z).elim, t, fun _ => by rw [e]⟩
  · exact ⟨fun E z => (Option.some.inj z).symm, t, fun z => (nsS z).elim⟩
theorem qc_c {Rc Rm th : Int32} (h : QC w Rc Rm th) : (∀ E, w = some E → E = exNo ∨ E = exA) ∧ th = kof2 exNo w ∧ (w = none → Rc.toInt64 = Rm.toInt64) := by
  rcases h with ⟨rfl, e, t⟩ | ⟨rfl, t⟩ | ⟨rfl, t⟩
  · exact ⟨fun E z => (nsN z).elim, t, fun _ => by rw [e]⟩
  · exact ⟨fun E z => Or.inl (Option.some.inj z).symm, t, fun z => (nsS z).elim⟩
  · exact ⟨fun E z => Or.inr (Option.some.inj z).symm, t, fun z => (nsS z).elim⟩
theorem ql_c {Rc Rm th : Int32} (h : QL w Rc Rm th) : (∀ E, w = some E → E = exA ∨ E = exI) ∧ th = kof2 exA w ∧ (w = none → Rc.toInt64 = Rm.toInt64) := by
  rcases h with ⟨rfl, e, t⟩ | ⟨rfl, t⟩ | ⟨rfl, t⟩
  · exact ⟨fun E z => (nsN z).elim, t, fun _ => by rw [e]⟩
  · exact ⟨fun E z => Or.inl (Option.some.inj z).symm, t, fun z => (nsS z).elim⟩
  · exact ⟨fun E z => Or.inr (Option.some.inj z).symm, t, fun z => (nsS z).elim⟩
end LCL
section LCL2
variable {x : Ctx} {g : Lay} {z0 n1 n2 m1 m2 : Nat} {Q : State → Prop} {σ S1 S2 : St} {pc pc' : Nat} {st0 : List Value} {rt : Option FieldType} {b j : Nat} {y : MethodName} {cc' : ByteArray} {nL' h' idx n k' : Nat} {ret' : Option FieldType} {As : List Value} {hh' : List (Nat × Nat × Nat × Nat)} {K R : Int32}
/-- a helper's call, its answer kept -/
theorem l_call (hC : Cx x RL cL_law 7 rt 11 g z0) (hM : CH x.2.1 y cc' nL' hh' 10 k' g z0 As σ (FI K S1)) (hk : CalH y cc' nL' hh' n) (hw : WIn (.methodLink RL idx y)) (hn : As.length = n) (hst : st0 = As.reverse ++ []) (d0 : decode cL_law pc = .ok (.invokestatic idx, 3)) (d1 : decode cL_law (pc + 3) = .ok (.istore 5, 2)) (d2 : decode cL_law (pc + 5) = .ok (.aload_n 2, 1)) (hp : pc + 6 = pc') (hc1 : n1 + k' ≤ x.2.2.2.1.cells) (hc2 : n2 + 6 * k' ≤ x.2.2.2.1.slots) (kk : GG x g z0 7 (n1 + k') (n2 + 6 * k') Q S1 pc' ((5, .int K) :: LV0 g b j) [.ref (g.2.1 15)]) : GG x g z0 7 n1 n2 Q σ pc (LV0 g b j) st0 := by
  refine f_H (pc' := pc + 3) hC hM hk hw (by decide) hn hst (Nat.le_of_ble_eq_true rfl) d0 rfl hc1 hc2 ?_
  refine g_istore (pc' := pc + 5) (lv' := (5, .int K) :: LV0 g b j) hC d1 rfl (by decide) rfl ?_
  exact g_aload_n (j := 3) hC d2 hp rfl rfl kk
/-- the reference's call, and the comparison -/
theorem l_mod {q : Nat} {ci : Nat} {fs : List Value} {r : vw_C} (hC : Cx x RL cL_law 7 rt 11 g z0) (hM : CTi x.2.1 y cc' nL' ret' h' g z0 (.ref (g.2.1 15) :: As) S1 (FI R S2)) (hk : CalV y cc' nL' ret' n) (hw : WIn (.methodLink RL idx y)) (hh : h' < 11) (he : ct g S1 15 = .inr (ci, fs)) (hcl : vwCl[ci]? = some r) (hrc : r.1 = y.cls) (hn : As.length = n) (hst : st0 = As.reverse ++ .ref (g.2.1 15) :: []) (d0 : decode cL_law pc = .ok (.invokevirtual idx, 3)) (hp : pc + 3 = pc') (hD : TlD pc' q) (hm1 : n1 ≤ m1) (hm2 : n2 ≤ m2) (hc1 : m1 ≤ x.2.2.2.1.cells) (hc2 : m2 ≤ x.2.2.2.1.slots) (hz : CZ S2 K R) (kk : ∀ σ', Inv σ' σ' → GG x g z0 7 m1 m2 Q σ' q (LV0 g b j) []) : GG x g z0 7 n1 n2 Q S1 pc ((5, .int K) :: LV0 g b j) st0 := by
  refine gg_widen hm1 hm2 ?_
  refine f_Vi (pc' := pc') (k := 15) (st := []) hC hM hk hw hh (by decide) he hcl hrc hn hst (Nat.le_of_ble_eq_true rfl) d0 hp hc1 hc2 ?_
  exact l_tail hC hD hc1 hc2 hz.2.1 hz.2.2 (kk S2 hz.1)
end LCL2
