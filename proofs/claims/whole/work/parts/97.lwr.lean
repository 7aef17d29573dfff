/-! rows of the law: the script, the comparison behind a call -/
def SF (x : Ctx) (z0 b L : Nat) (xs : Nat → Int32) : Prop := va_X b L xs x.2.2.2.2.1 x.2.2.2.2.1.heap ∧ b < x.2.2.2.2.1.heap.size ∧ ¬ z0 ≤ b ∧ L ≤ 3072
/-- the law's locals at the head of a turn -/
abbrev LV0 (g : Lay) (b j : Nat) : List (Nat × Value) := [(4, .int (nI j)), (3, .ref (g.2.1 33)), (2, .ref (g.2.1 15)), (1, .ref (g.2.1 0)), (0, .ref b)]
section LWR
variable {x : Ctx} {g : Lay} {z0 n1 n2 : Nat} {Q : State → Prop} {σ : St} {pc : Nat} {lv : List (Nat × Value)} {st : List Value} {rt : Option FieldType} {b L j : Nat} {xs : Nat → Int32}
theorem a_scr {i pc' : Nat} (hC : Cx x RL cL_law 7 rt 11 g z0) (hF : SF x z0 b L xs) (hi : i < L) (hd : decode cL_law pc = .ok (.iaload, 1)) (hp : pc + 1 = pc') (kk : GG x g z0 7 n1 n2 Q σ pc' lv (.int (xs i) :: st)) : GG x g z0 7 n1 n2 Q σ pc lv (.int (nI i) :: .ref b :: st) := fun H locs ls hP hS hl => by
  have hL := hF.2.2.2
  refine va_sld hC.1 hC.2.1 hF.1 hF.2.1 hF.2.2.1 hS (vp_in_nI hi (by omega)) hd ?_
  rw [cl_nI hi (by omega)]
  exact hp ▸ kk H locs ls hP hS hl
theorem a_slen {pc' : Nat} (hC : Cx x RL cL_law 7 rt 11 g z0) (hF : SF x z0 b L xs) (hd : decode cL_law pc = .ok (.arraylength, 1)) (hp : pc + 1 = pc') (kk : GG x g z0 7 n1 n2 Q σ pc' lv (.int (nI L) :: st)) : GG x g z0 7 n1 n2 Q σ pc lv (.ref b :: st) := fun H locs ls hP hS hl =>
  va_slen hC.1 hC.2.1 hF.1 hF.2.1 hF.2.2.1 hS hd (hp ▸ kk H locs ls hP hS hl)
theorem a_arg {k j0 j4 pc' : Nat} {k' : Int} (hC : Cx x RL cL_law 7 rt 11 g z0) (hF : SF x z0 b L xs) (hj : j + k < L) (hv : Int32.ofInt k' = nI k) (h0 : lv[j0]? = some (0, .ref b)) (h4 : lv[j4]? = some (4, .int (nI j))) (d1 : decode cL_law pc = .ok (.aload_n 0, 1)) (d2 : decode cL_law (pc + 1) = .ok (.iload 4, 2)) (d3 : decode cL_law (pc + 3) = .ok (.iconst k', 1)) (d4 : decode cL_law (pc + 4) = .ok (.iadd, 1)) (d5 : decode cL_law (pc + 5) = .ok (.iaload, 1)) (hp : pc + 6 = pc') (kk : GG x g z0 7 n1 n2 Q σ pc' lv (.int (xs (j + k)) :: st)) : GG x g z0 7 n1 n2 Q σ pc lv st := by
  refine g_aload_n (pc' := pc + 1) hC d1 rfl rfl h0 ?_
  refine g_iload (pc' := pc + 3) hC d2 rfl h4 ?_
  refine g_iconst (pc' := pc + 4) (v := nI k) hC d3 rfl hv ?_
  refine g_iadd (pc' := pc + 5) hC d4 rfl ?_
  rw [nI_add]
  exact a_scr hC hF hj d5 hp kk
/-- the rows behind a call that answers an int -/
def TlD (p q : Nat) : Prop :=
  decode cL_law p = .ok (.istore 6, 2) ∧ decode cL_law (p + 2) = .ok (.aload_n 2, 1) ∧ decode cL_law (p + 3) = .ok (.invokevirtual 120, 3) ∧ decode cL_law (p + 6) = .ok (.iload 5, 2) ∧ decode cL_law (p + 8) = .ok (.if_icmp .eq 5, 3) ∧ decode cL_law (p + 13) = .ok (.iload 5, 2) ∧ decode cL_law (p + 15) = .ok (.ifCond .ne 15, 3) ∧ decode cL_law (p + 18) = .ok (.aload_n 3, 1) ∧ decode cL_law (p + 19) = .ok (.iconst 0, 1) ∧ decode cL_law (p + 20) = .ok (.laload, 1) ∧ decode cL_law (p + 21) = .ok (.iload 6, 2) ∧ decode cL_law (p + 23) = .ok (.i2l, 1) ∧ decode cL_law (p + 24) = .ok (.lcmp, 1) ∧ decode cL_law (p + 25) = .ok (.ifCond .eq 5, 3) ∧ ∃ off : Int, decode cL_law (p + 30) = .ok (.goto off, 3) ∧ ((p + 30 : Nat) : Int) + off = (q : Int)
theorem l_tail {p q : Nat} {K v : Int32} (hC : Cx x RL cL_law 7 rt 11 g z0) (hD : TlD p q) (hc1 : n1 ≤ x.2.2.2.1.cells) (hc2 : n2 ≤ x.2.2.2.1.slots) (hth : σ.1 15 0 = K) (hv : K = 0 → σ.2.2 33 0 = v.toInt64) (kk : GG x g z0 7 n1 n2 Q σ q (LV0 g b j) []) : GG x g z0 7 n1 n2 Q σ p ((5, .int K) :: LV0 g b j) [.int v] := by
  obtain ⟨d0, d1, d2, d3, d4, d5, d6, d7, d8, d9, d10, d11, d12, d13, off, d14, d15⟩ := hD
  have kx : GG x g z0 7 n1 n2 Q σ (p + 30) ((6, .int v) :: (5, .int K) :: LV0 g b j) [] := g_goto hC d14 d15 (gg_lv kk [2, 3, 4, 5, 6] rfl)
  refine g_istore (pc' := p + 2) (lv' := (6, .int v) :: (5, .int K) :: LV0 g b j) hC d0 rfl (by decide) rfl ?_
  refine g_aload_n (pc' := p + 3) (j := 4) hC d1 rfl rfl rfl ?_
  refine f_Vi (pc' := p + 6) (k := 15) (st := []) hC (m_thrown x.2.1 g z0 σ) k_X10_thrown wM_L_120 (by decide) (by decide) (ct_15 g σ) rfl rfl rfl rfl (Nat.le_of_ble_eq_true rfl) d2 rfl hc1 hc2 ?_
  refine g_iload (pc' := p + 8) (j := 1) hC d3 rfl rfl ?_
  refine g_icmp_eq (pc' := p + 11) (tgt := p + 13) hC d4 (by omega) rfl (fun _ => ?_) (fun z => absurd hth z)
  refine g_iload (pc' := p + 15) (j := 1) hC d5 rfl rfl ?_
  refine g_if_ne (pc' := p + 18) (tgt := p + 30) hC d6 (by omega) rfl (fun _ => kx) (fun z => ?_)
  refine g_aload_n (pc' := p + 19) (j := 3) hC d7 rfl rfl rfl ?_
  refine g_iconst (pc' := p + 20) (v := nI 0) hC d8 rfl rfl ?_
  refine a_ldl (pc' := p + 21) hC d9 rfl ?_
  refine g_iload (pc' := p + 23) (j := 0) hC d10 rfl rfl ?_
  refine g_i2l (pc' := p + 24) hC d11 rfl ?_
  refine g_lcmp (pc' := p + 25) hC d12 rfl ?_
  exact c_if_eq (pc' := p + 28) (tgt := p + 30) hC d13 (by omega) rfl (fun _ => kx) (fun y => absurd (hv z) y)
end LWR
