/-! a turn of the law: questions change nothing, answers that are booleans, bare questions -/
theorem OF_m0 (σ : St) : OF σ (m0 σ) := (OF.rf σ).u _ (by omega)
theorem OF_m0t (σ : St) (v : Int32) : OF σ (uv (m0 σ) 15 0 v) := (OF_m0 σ).u _ (by omega)
theorem OF_t (σ : St) (v : Int32) : OF σ (uv σ 15 0 v) := (OF.rf σ).u _ (by omega)
theorem OF_mo1 (σ : St) (c : Nat) : OF σ (mo1 (m0 σ) c) := (OF_m0 σ).u _ (by omega)
theorem OFq_mln (σ : St) (a : Int32) : OF σ (mln σ a).2 := by
  unfold mln
  repeat' first | exact OF_m0 σ | exact OF_m0t σ _ | exact OF_mo1 σ _ | exact OF_t σ _ | refine cI_a2 (Q := fun z : Int32 × St => OF σ z.2) (fun _ => ?_) (fun _ => ?_)
theorem OFq_mbo (σ : St) (a : Int32) : OF σ (mbo σ a).2 := by
  unfold mbo
  repeat' first | exact OF_m0 σ | exact OF_m0t σ _ | exact OF_mo1 σ _ | exact OF_t σ _ | refine cI_a2 (Q := fun z : Int32 × St => OF σ z.2) (fun _ => ?_) (fun _ => ?_)
theorem OFq_mvl (σ : St) (a b : Int32) : OF σ (mvl σ a b).2 := by
  unfold mvl
  repeat' first | exact OF_m0 σ | exact OF_m0t σ _ | exact OF_mo1 σ _ | exact OF_t σ _ | refine cI_a2 (Q := fun z : Int32 × St => OF σ z.2) (fun _ => ?_) (fun _ => ?_)
theorem OFq_mcl (σ : St) (a b : Int32) : OF σ (mcl σ a b).2 := by
  unfold mcl
  repeat' first | exact OF_m0 σ | exact OF_m0t σ _ | exact OF_mo1 σ _ | exact OF_t σ _ | refine cI_a2 (Q := fun z : Int32 × St => OF σ z.2) (fun _ => ?_) (fun _ => ?_)
theorem OFq_mcn (σ : St) (a b : Int32) : OF σ (mcn σ a b).2 := by
  unfold mcn
  repeat' first | exact OF_m0 σ | exact OF_m0t σ _ | exact OF_mo1 σ _ | exact OF_t σ _ | refine cI_a2 (Q := fun z : Int32 × St => OF σ z.2) (fun _ => ?_) (fun _ => ?_)
theorem OFq_mvc (σ : St) (a b : Int32) : OF σ (mvc σ a b).2 := by
  unfold mvc
  repeat' first | exact OF_m0 σ | exact OF_m0t σ _ | exact OF_mo1 σ _ | exact OF_t σ _ | refine cI_a2 (Q := fun z : Int32 × St => OF σ z.2) (fun _ => ?_) (fun _ => ?_)
theorem OFq_mor (σ : St) (a b : Int32) : OF σ (mor σ a b).2 := by
  unfold mor
  repeat' first | exact OF_m0 σ | exact OF_m0t σ _ | exact OF_mo1 σ _ | exact OF_t σ _ | refine cI_a2 (Q := fun z : Int32 × St => OF σ z.2) (fun _ => ?_) (fun _ => ?_)
theorem OFq_mha (σ : St) (a b : Int32) : OF σ (mha σ a b).2 := by
  unfold mha
  repeat' first | exact OF_m0 σ | exact OF_m0t σ _ | exact OF_mo1 σ _ | exact OF_t σ _ | refine cI_a2 (Q := fun z : Int32 × St => OF σ z.2) (fun _ => ?_) (fun _ => ?_)
theorem OFq_msn (σ : St) (a : Int32) : OF σ (msn σ a).2 := by
  unfold msn
  repeat' first | exact OF_m0 σ | exact OF_m0t σ _ | exact OF_mo1 σ _ | exact OF_t σ _ | refine cI_a2 (Q := fun z : Int32 × St => OF σ z.2) (fun _ => ?_) (fun _ => ?_)
theorem OFq_mwf (σ : St) (a : Int32) : OF σ (mwf σ a).2 := by
  unfold mwf
  repeat' first | exact OF_m0 σ | exact OF_m0t σ _ | exact OF_mo1 σ _ | exact OF_t σ _ | refine cI_a2 (Q := fun z : Int32 × St => OF σ z.2) (fun _ => ?_) (fun _ => ?_)
theorem OFq_mrc (σ : St) (a b : Int32) : OF σ (mrc σ a b).2 := by
  unfold mrc
  repeat' first | exact OF_m0 σ | exact OF_m0t σ _ | exact OF_mo1 σ _ | exact OF_t σ _ | refine cI_a2 (Q := fun z : Int32 × St => OF σ z.2) (fun _ => ?_) (fun _ => ?_)
theorem OFq_mbm (σ : St) (a b : Int32) : OF σ (mbm σ a b).2 := by
  unfold mbm
  repeat' first | exact OF_m0 σ | exact OF_m0t σ _ | exact OF_mo1 σ _ | exact OF_t σ _ | refine cI_a2 (Q := fun z : Int32 × St => OF σ z.2) (fun _ => ?_) (fun _ => ?_)
theorem OFq_mbp (σ : St) (a b : Int32) : OF σ (mbp σ a b).2 := by
  unfold mbp
  repeat' first | exact OF_m0 σ | exact OF_m0t σ _ | exact OF_mo1 σ _ | exact OF_t σ _ | refine cI_a2 (Q := fun z : Int32 × St => OF σ z.2) (fun _ => ?_) (fun _ => ?_)
theorem OFq_mcp9 (σ : St) (a b : Int32) : OF σ (mcp' σ a b).2 := by
  unfold mcp'
  repeat' first | exact OF_m0 σ | exact OF_m0t σ _ | exact OF_mo1 σ _ | exact OF_t σ _ | refine cI_a2 (Q := fun z : Int32 × St => OF σ z.2) (fun _ => ?_) (fun _ => ?_)
theorem OFq_men (σ : St) (a b c : Int32) : OF σ (men σ a b c).2 := by
  unfold men
  repeat' first | exact OF_m0 σ | exact OF_m0t σ _ | exact OF_mo1 σ _ | exact OF_t σ _ | refine cI_a2 (Q := fun z : Int32 × St => OF σ z.2) (fun _ => ?_) (fun _ => ?_)
theorem OFq_mis (σ : St) (a : Int32) : OF σ (mis σ a).2 := by
  unfold mis
  repeat' first | exact OF_m0 σ | exact OF_m0t σ _ | exact OF_mo1 σ _ | exact OF_t σ _ | refine cI_a2 (Q := fun z : Int32 × St => OF σ z.2) (fun _ => ?_) (fun _ => ?_)
/-- what a turn knows -/
def EN (x : Ctx) (g : Lay) (z0 b L : Nat) (xs : Nat → Int32) (KA : KAd) (rt : Option FieldType) : Prop := Cx x RL cL_law 7 rt 11 g z0 ∧ SF x z0 b L xs ∧ x.2.1.stackTraces = false ∧ GT g z0 ∧ GK g z0 KA ∧ GX g ∧ GX3 g
section LCQ
variable {x : Ctx} {g : Lay} {z0 n1 n2 m1 m2 : Nat} {Q : State → Prop} {σ S1 S2 : St} {pc pc' : Nat} {st0 : List Value} {rt : Option FieldType} {b L j : Nat} {xs : Nat → Int32} {y : MethodName} {cc' : ByteArray} {nL' h' idx n k' : Nat} {ret' : Option FieldType} {As : List Value} {K R v : Int32}
def TbD (p q : Nat) : Prop :=
  decode cL_law p = .ok (.istore 6, 2) ∧ decode cL_law (p + 2) = .ok (.aload_n 2, 1) ∧ decode cL_law (p + 3) = .ok (.invokevirtual 120, 3) ∧ decode cL_law (p + 6) = .ok (.iload 5, 2) ∧ decode cL_law (p + 8) = .ok (.if_icmp .eq 5, 3) ∧ decode cL_law (p + 13) = .ok (.iload 5, 2) ∧ decode cL_law (p + 15) = .ok (.ifCond .ne 22, 3) ∧ decode cL_law (p + 18) = .ok (.aload_n 3, 1) ∧ decode cL_law (p + 19) = .ok (.iconst 0, 1) ∧ decode cL_law (p + 20) = .ok (.laload, 1) ∧ decode cL_law (p + 21) = .ok (.iload 6, 2) ∧ decode cL_law (p + 23) = .ok (.ifCond .eq 7, 3) ∧ decode cL_law (p + 26) = .ok (.lconst 1, 1) ∧ decode cL_law (p + 27) = .ok (.goto 4, 3) ∧ decode cL_law (p + 30) = .ok (.lconst 0, 1) ∧ decode cL_law (p + 31) = .ok (.lcmp, 1) ∧ decode cL_law (p + 32) = .ok (.ifCond .eq 5, 3) ∧ ∃ off : Int, decode cL_law (p + 37) = .ok (.goto off, 3) ∧ ((p + 37 : Nat) : Int) + off = (q : Int)
theorem l_tailb {p q : Nat} (hC : Cx x RL cL_law 7 rt 11 g z0) (hD : TbD p q) (hc1 : n1 ≤ x.2.2.2.1.cells) (hc2 : n2 ≤ x.2.2.2.1.slots) (hth : σ.1 15 0 = K) (hv : K = 0 → σ.2.2 33 0 = cI (v = 0) 0 1) (kk : GG x g z0 7 n1 n2 Q σ q (LV0 g b j) []) : GG x g z0 7 n1 n2 Q σ p ((5, .int K) :: LV0 g b j) [.int v] := by
  obtain ⟨d0, d1, d2, d3, d4, d5, d6, d7, d8, d9, d10, e1, e2, e3, e4, d12, d13, off, d14, d15⟩ := hD
  have kx : GG x g z0 7 n1 n2 Q σ (p + 37) ((6, .int v) :: (5, .int K) :: LV0 g b j) [] := g_goto hC d14 d15 (gg_lv kk [2, 3, 4, 5, 6] rfl)
  refine g_istore (pc' := p + 2) (lv' := (6, .int v) :: (5, .int K) :: LV0 g b j) hC d0 rfl (by decide) rfl ?_
  refine g_aload_n (pc' := p + 3) (j := 4) hC d1 rfl rfl rfl ?_
  refine f_Vi (pc' := p + 6) (k := 15) (st := []) hC (m_thrown x.2.1 g z0 σ) k_X10_thrown wM_L_120 (by decide) (by decide) (ct_15 g σ) rfl rfl rfl rfl (Nat.le_of_ble_eq_true rfl) d2 rfl hc1 hc2 ?_
  refine g_iload (pc' := p + 8) (j := 1) hC d3 rfl rfl ?_
  refine g_icmp_eq (pc' := p + 11) (tgt := p + 13) hC d4 (by omega) rfl (fun _ => ?_) (fun z => absurd hth z)
  refine g_iload (pc' := p + 15) (j := 1) hC d5 rfl rfl ?_
  refine g_if_ne (pc' := p + 18) (tgt := p + 37) hC d6 (by omega) rfl (fun _ => kx) (fun z => ?_)
  refine g_aload_n (pc' := p + 19) (j := 3) hC d7 rfl rfl rfl ?_
  refine g_iconst (pc' := p + 20) (v := nI 0) hC d8 rfl rfl ?_
  refine a_ldl (pc' := p + 21) hC d9 rfl ?_
  refine g_iload (pc' := p + 23) (j := 0) hC d10 rfl rfl ?_
  refine g_if_eq (pc' := p + 26) (tgt := p + 30) hC e1 (by omega) rfl (fun e => ?_) (fun e => ?_)
  · refine g_lconst (pc' := p + 31) (v := 0) hC e4 rfl rfl ?_
    refine g_lcmp (pc' := p + 32) hC d12 rfl ?_
    exact c_if_eq (pc' := p + 35) (tgt := p + 37) hC d13 (by omega) rfl (fun _ => kx) (fun y => absurd ((hv z).trans (cI_t e)) y)
  · refine g_lconst (pc' := p + 27) (v := 1) hC e2 rfl rfl ?_
    refine g_goto (tgt := p + 31) hC e3 (by omega) ?_
    refine g_lcmp (pc' := p + 32) hC d12 rfl ?_
    exact c_if_eq (pc' := p + 35) (tgt := p + 37) hC d13 (by omega) rfl (fun _ => kx) (fun y => absurd ((hv z).trans (cI_f e)) y)
def CB (S2 : St) (K R : Int32) : Prop := Inv S2 S2 ∧ S2.1 15 0 = K ∧ (K = 0 → S2.2.2 33 0 = cI (R = 0) 0 1)
theorem cl_B {c' : St} {w : Option String} {val : Int64} (hI : Inv σ σ) (hk : KU σ c') (hv : IV c' S2) (ho : OF (cI (w = none) (ul c' 33 0 val) c') S2) (hK : K = 0 → w = none) (hth : S2.1 15 0 = K) (hr : w = none → val = cI (R = 0) 0 1) : CB S2 K R := by
  have hB : Inv c' S2 := (cl_A (w := w) (val := val) hI hk).op hv hk ho
  refine ⟨hB.cg (fun a b q => by rw [ho.1 a b (by omega), cl_1]), hth, fun z => ?_⟩
  rw [cl_val (c' := c') (val := val) (hK z) (by rw [ho.2]), hr (hK z)]
theorem l_modb {q : Nat} {ci : Nat} {fs : List Value} {r : vw_C} (hC : Cx x RL cL_law 7 rt 11 g z0) (hM : CTi x.2.1 y cc' nL' ret' h' g z0 (.ref (g.2.1 15) :: As) S1 (FI R S2)) (hk : CalV y cc' nL' ret' n) (hw : WIn (.methodLink RL idx y)) (hh : h' < 11) (he : ct g S1 15 = .inr (ci, fs)) (hcl : vwCl[ci]? = some r) (hrc : r.1 = y.cls) (hn : As.length = n) (hst : st0 = As.reverse ++ .ref (g.2.1 15) :: []) (d0 : decode cL_law pc = .ok (.invokevirtual idx, 3)) (hp : pc + 3 = pc') (hD : TbD pc' q) (hm1 : n1 ≤ m1) (hm2 : n2 ≤ m2) (hc1 : m1 ≤ x.2.2.2.1.cells) (hc2 : m2 ≤ x.2.2.2.1.slots) (hz : CB S2 K R) (kk : ∀ σ', Inv σ' σ' → GG x g z0 7 m1 m2 Q σ' q (LV0 g b j) []) : GG x g z0 7 n1 n2 Q S1 pc ((5, .int K) :: LV0 g b j) st0 := by
  refine gg_widen hm1 hm2 ?_
  refine f_Vi (pc' := pc') (k := 15) (st := []) hC hM hk hw hh (by decide) he hcl hrc hn hst (Nat.le_of_ble_eq_true rfl) d0 hp hc1 hc2 ?_
  exact l_tailb hC hD hc1 hc2 hz.2.1 hz.2.2 (kk S2 hz.1)
theorem Inv.m0s (hI : Inv σ σ) : Inv (m0 σ) (m0 σ) := (hI.u0 (nI 0)).cg (fun a b q => uv_cell _ _ _ _ (by omega))
end LCQ
