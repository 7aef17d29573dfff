/-! the two parsers in step -/
def TKS (c F : St) : Prop := c.2.1 4 = F.2.1 4 ∧ c.1 5 = F.1 5 ∧ c.1 6 = F.1 6 ∧ c.1 2 4 = F.1 2 4
def PRL (c m : St) : Prop := (c.1 1 7 = nI 0 ∧ c.1 1 8 = -1) ∧ (m.1 15 32 = nI 0 ∧ m.1 15 33 = -1) ∧ PV c ∧ PI m ∧ TB (c.1 3) (mB m) (rd m 15 28) ∧ ∃ F, TKS c F ∧ AT F (c.1 3) (rd m 15 28) (rd c 1 2) (rd m 15 27) (m.1 15 29)
def ERR (c m : St) : Prop := c.1 1 7 = m.1 15 32 ∧ c.1 1 8 = m.1 15 33 ∧ ¬ c.1 1 7 = 0
/-- what the token here is -/
def TOK (c m F : St) : Prop :=
  c.1 5 (rd c 1 2) = nI (msk m) ∧ (kdH c = 0 ↔ mB m (msk m) = -1) ∧ (kdH c = 3 ↔ pN0 m ∧ mnl m ≤ 6) ∧ (kdH c = 3 → c.1 6 (rd c 1 2) = mnv m) ∧
  (∀ k, 4 ≤ k → k < 16 → (kdH c = k ↔ pW m ∧ wvl (mB m) (msk m) (mwl m) = Int64.ofNat (WV.getD k 0))) ∧ (kdH c = 2 ↔ pS m) ∧
  (¬ kdH c = 0 → rd c 1 2 < rd c 2 4 - 1) ∧ (kdH c = 3 → AT F (c.1 3) (rd m 15 28) (rd c 1 2 + 1) (msk m + mnl m) (nI (msk m + mnl m))) ∧ (4 ≤ kdH c → AT F (c.1 3) (rd m 15 28) (rd c 1 2 + 1) (msk m + mwl m) (nI (msk m + mwl m))) ∧ (kdH c = 2 → AT F (c.1 3) (rd m 15 28) (rd c 1 2 + 1) (msk m + 1) (-1))
theorem PRL.tok {c m : St} (h : PRL c m) : ∃ F, TKS c F ∧ TOK c m F := by
  obtain ⟨h1, h2, hV, hP, hT, F, hF, hA⟩ := h
  refine ⟨F, hF, ?_⟩
  have he : rd m 15 28 ≤ 900 := hP.2.1.2
  obtain ⟨hA2, a1, a2, a3⟩ := AT_skip hT hA
  have es : skp (mB m) (rd m 15 27) = msk m := rfl
  rw [es] at hA2 a1 a2 a3
  obtain ⟨t1, t2⟩ := AT_tok he hT hA2 a3
  have hk : c.2.1 4 (rd c 1 2) = some (kdH c) := hV.kd
  rw [hF.1] at hk
  have ms : ∀ x y, nI x = nI y → x ≤ 900 → y ≤ 900 → x = y := fun x y q hx hy => (nI_eq (by omega) (by omega)).mp q
  by_cases q : msk m = rd m 15 28
  · obtain ⟨k1, k2, k3⟩ := t1 q
    have k0 : kdH c = 0 := Option.some.inj (hk.symm.trans k1)
    have hB : mB m (msk m) = -1 := hT.2 _ (by omega)
    have nd : ¬ dgt (mB m (msk m)) := by rw [hB]; exact m1_dgt
    have nl : ¬ ltr (mB m (msk m)) := by rw [hB]; exact m1_ltr
    refine ⟨?_, ⟨fun _ => hB, fun _ => k0⟩, ⟨fun z => by omega, fun z => absurd z.1.1 nd⟩, fun z => by omega, fun k h4 h16 => ⟨fun z => by omega, fun z => absurd z.1.1 nl⟩, ⟨fun z => by omega, fun z => ?_⟩, fun z => absurd k0 z, fun z => by omega, fun z => by omega, fun z => by omega⟩
    · rw [hF.2.1, k2, q]
    · have z' : mB m (msk m) = nI 59 := z
      rw [hB] at z'
      exact absurd z' (by decide)
  · have hlt : msk m < rd m 15 28 := by omega
    obtain ⟨k1, k2, k3, ⟨N, n1, n2, n3⟩, k5⟩ := t2 hlt
    have kE : kdH c = scK (c.1 3) (msk m) (max (msk m + 1) (eor (c.1 3) (msk m) (rd m 15 28))) (m.1 15 29) := Option.some.inj (hk.symm.trans k1)
    have hB : ¬ mB m (msk m) = -1 := fun z => by
      have w := (hT.1 _ hlt).2
      rw [z] at w
      exact absurd w.1 (by decide)
    have hcnt : rd c 1 2 < rd c 2 4 - 1 := by
      have : rd c 2 4 = N := rd_of (hF.2.2.2.trans n3) (by omega)
      omega
    have hst : c.1 5 (rd c 1 2) = nI (msk m) := by rw [hF.2.1, k2]
    rw [← kE] at k3
    have hnum : c.1 6 (rd c 1 2) = if kdH c = 3 then nmv (c.1 3) (msk m) (max (msk m + 1) (eor (c.1 3) (msk m) (rd m 15 28)) - msk m) else nI 0 := by rw [hF.2.2.1, k3]
    by_cases ql : ltr (mB m (msk m))
    · -- a word
      obtain ⟨x1, x2, x3⟩ := nx_l hT hlt ql
      have tl := (hT.l hlt).mpr ql
      have nd : ¬ dgt (mB m (msk m)) := fun z => by have a := ltr_n ql; have b := dgt_n z; omega
      have ntd : ¬ dgt (c.1 3 (msk m)) := fun z => nd ((hT.d hlt).mp z)
      have ns : ¬ mB m (msk m) = nI 59 := fun z => by rw [z] at ql; exact absurd ql.1 (by decide)
      rw [x1] at kE k5
      rw [cI_t (Or.inl tl)] at k5
      obtain ⟨f1, f2⟩ := kfi_l hT hlt ql
      have kk : kdH c = cI (nI (msk m) = m.1 15 29) 1 (kfi (c.1 3) (msk m) (msk m + rnl ltr (mB m) (msk m))) := by
        rw [kE]
        unfold scK kdo
        by_cases z : nI (msk m) = m.1 15 29
        · rw [cI_t ⟨Or.inl tl, z⟩, cI_t z]
        · rw [cI_f (fun y => z y.2), cI_f z, cI_f ntd]
      have k14 : kdH c = 1 ∨ 4 ≤ kdH c := by
        rw [kk]
        by_cases z : nI (msk m) = m.1 15 29
        · rw [cI_t z]; exact Or.inl rfl
        · rw [cI_f z]; exact f2
      refine ⟨hst, ⟨fun z => by omega, fun z => absurd z hB⟩, ⟨fun z => by omega, fun z => absurd z.1.1 nd⟩, fun z => by omega, fun k h4 h16 => ?_, ⟨fun z => by omega, fun z => absurd z ns⟩, fun _ => hcnt, fun z => by omega, fun _ => k5, fun z => by omega⟩
      rw [kk]
      by_cases z : nI (msk m) = m.1 15 29
      · rw [cI_t z]
        exact ⟨fun y => by omega, fun y => absurd z y.1.2⟩
      · rw [cI_f z]
        have := f1 k h4 h16
        exact ⟨fun y => ⟨⟨ql, z⟩, this.mp y⟩, fun y => this.mpr y.2⟩
    · have ntl : ¬ ltr (c.1 3 (msk m)) := fun z => ql ((hT.l hlt).mp z)
      by_cases qd : dgt (mB m (msk m))
      · -- a number
        obtain ⟨x1, x2, x3⟩ := nx_d hT hlt qd
        have td := (hT.d hlt).mpr qd
        have ns : ¬ mB m (msk m) = nI 59 := fun z => by rw [z] at qd; exact absurd qd.2 (by decide)
        rw [x1] at kE k5 hnum
        rw [cI_t (Or.inr td)] at k5
        rw [show msk m + rnl dgt (mB m) (msk m) - msk m = rnl dgt (mB m) (msk m) by omega] at hnum
        have kk : kdH c = cI (nI (msk m) = m.1 15 29) 1 (cI (6 < rnl dgt (mB m) (msk m)) 1 3) := by
          rw [kE]
          unfold scK kdo
          by_cases z : nI (msk m) = m.1 15 29
          · rw [cI_t ⟨Or.inr td, z⟩, cI_t z]
          · rw [cI_f (fun y => z y.2), cI_f z, cI_t td, show msk m + rnl dgt (mB m) (msk m) - msk m = rnl dgt (mB m) (msk m) by omega]
        have k13 : (kdH c = 1 ∨ kdH c = 3) ∧ (kdH c = 3 ↔ pN0 m ∧ mnl m ≤ 6) := by
          rw [kk]
          by_cases z : nI (msk m) = m.1 15 29
          · rw [cI_t z]
            exact ⟨Or.inl rfl, fun y => by omega, fun y => absurd z y.1.2⟩
          · rw [cI_f z]
            by_cases y : 6 < rnl dgt (mB m) (msk m)
            · rw [cI_t y]
              exact ⟨Or.inl rfl, fun w => by omega, fun w => by have w2 : rnl dgt (mB m) (msk m) ≤ 6 := w.2; omega⟩
            · rw [cI_f y]
              exact ⟨Or.inr rfl, fun _ => ⟨⟨qd, z⟩, by show rnl dgt (mB m) (msk m) ≤ 6; omega⟩, fun _ => rfl⟩
        refine ⟨hst, ⟨fun z => by omega, fun z => absurd z hB⟩, k13.2, fun z => ?_, fun k h4 h16 => ⟨fun z => by omega, fun z => absurd z.1.1 ql⟩, ⟨fun z => by omega, fun z => absurd z ns⟩, fun _ => hcnt, fun _ => k5, fun z => by omega, fun z => by omega⟩
        rw [hnum, if_pos z]
        obtain ⟨r1, r2, r3⟩ := rnl_ok (P := dgt) m1_dgt (Nat.le_of_lt hlt) (hT.2 _ (Nat.le_refl _))
        exact nmv_nvl hT _ (k13.2.mp z).2 (by omega) r3
      · -- another sign
        have ntd : ¬ dgt (c.1 3 (msk m)) := fun z => qd ((hT.d hlt).mp z)
        have x1 := nx_o (e := rd m 15 28) ntl ntd
        rw [x1] at kE k5
        rw [cI_f (fun z => z.elim ntl ntd)] at k5
        have kk : kdH c = cI (c.1 3 (msk m) = nI 59) 2 1 := by
          rw [kE]
          unfold scK kdo
          rw [cI_f (fun y => y.1.elim ntl ntd), cI_f ntd, kfi_o]
        have ts := hT.s hlt
        have k12 : (kdH c = 1 ∨ kdH c = 2) ∧ (kdH c = 2 ↔ pS m) := by
          rw [kk]
          by_cases z : c.1 3 (msk m) = nI 59
          · rw [cI_t z]; exact ⟨Or.inr rfl, fun _ => ts.mp z, fun _ => rfl⟩
          · rw [cI_f z]; exact ⟨Or.inl rfl, fun y => by omega, fun y => absurd (ts.mpr y) z⟩
        exact ⟨hst, ⟨fun z => by omega, fun z => absurd z hB⟩, ⟨fun z => by omega, fun z => absurd z.1.1 qd⟩, fun z => by omega, fun k h4 h16 => ⟨fun z => by omega, fun z => absurd z.1.1 ql⟩, k12.2, fun _ => hcnt, fun z => by omega, fun z => by omega, fun _ => k5⟩
section PRS
variable {c m : St}
/-- what holds of the reference's state behind a reading that succeeds -/
def RDN (m m' : St) (nx : Nat) (r : Int32) : Prop := PI m' ∧ (∀ k, mB m' k = mB m k) ∧ m'.1 15 28 = m.1 15 28 ∧ m'.1 15 27 = nI nx ∧ m'.1 15 29 = r ∧ m'.1 15 32 = nI 0 ∧ m'.1 15 33 = -1
theorem PRL.adv {F m' : St} {nx : Nat} {r : Int32} (h : PRL c m) (hF : TKS c F) (hj : rd c 1 2 < rd c 2 4 - 1) (hA : AT F (c.1 3) (rd m 15 28) (rd c 1 2 + 1) nx r) (hR : RDN m m' nx r) : PRL (ctt c) m' := by
  obtain ⟨h1, h2, hV, hP, hT, -⟩ := h
  have he : rd m 15 28 ≤ 900 := hP.2.1.2
  have hnx : nx ≤ rd m 15 28 := by obtain ⟨f, σ, -, -, y, -⟩ := hA; exact y
  have ec : ctt c = uv c 1 2 (nI (rd c 1 2 + 1)) := cI_t ⟨h1.1.trans nI_0, hj⟩
  have hx := PX_ctt c
  have hj2 : rd (ctt c) 1 2 = rd c 1 2 + 1 := by
    rw [ec]
    exact rd_of (uv_same _ _ _ _) (by have := hV.1.2; omega)
  obtain ⟨r1, r2, r3, r4, r5, r6⟩ := hR
  have e28 : rd m' 15 28 = rd m 15 28 := rd_eq r3
  have e27 : rd m' 15 27 = nx := rd_of r4 (by omega)
  have c3 : (ctt c).1 3 = c.1 3 := funext fun k => hx.1 _ _ (by omega)
  have emB : mB m' = mB m := funext r2
  refine ⟨?_, r6, hx.2.2 hV, r1, ?_, F, ⟨?_, ?_, ?_, ?_⟩, ?_⟩
  · rw [ec, uv_idx _ _ _ _ (by decide), uv_idx _ _ _ _ (by decide)]; exact h1
  · rw [c3, emB, e28]; exact hT
  · rw [hx.2.1]; exact hF.1
  · exact (funext fun k => hx.1 _ _ (by omega)).trans hF.2.1
  · exact (funext fun k => hx.1 _ _ (by omega)).trans hF.2.2.1
  · exact (hx.1 _ _ (by omega)).trans hF.2.2.2
  · rw [c3, e28, e27, hj2, r5]; exact hA
theorem cfa_t (h : c.1 1 7 = 0) (v : Int32) : cfa c v = uv (uv c 1 7 v) 1 8 (c.1 5 (rd c 1 2)) := cI_t h
theorem ctt_e (h : ¬ c.1 1 7 = 0) : ctt c = c := cI_f (fun z => h z.1)
theorem cfa_e (h : ¬ c.1 1 7 = 0) (v : Int32) : cfa c v = c := cI_f h
/-- a failure at the token here -/
theorem PRL.err {F m' : St} {v : Int32} (h : PRL c m) (hK : TOK c m F) (hv : ¬ v = 0) (h1 : m'.1 15 32 = v) (h2 : m'.1 15 33 = nI (msk m)) : ERR (ctt (cfa c v)) m' ∧ ERR (cfa c v) m' := by
  have e := cfa_t (h.1.1.trans nI_0) v
  have a1 : (cfa c v).1 1 7 = v := by rw [e, uv_idx _ _ _ _ (by decide), uv_same]
  have a2 : (cfa c v).1 1 8 = nI (msk m) := by rw [e, uv_same, hK.1]
  have hE : ERR (cfa c v) m' := ⟨a1.trans h1.symm, a2.trans h2.symm, by rw [a1]; exact hv⟩
  rw [ctt_e hE.2.2]
  exact ⟨hE, hE⟩
theorem mB_lx {m' : St} (h : LX m m') (k : Nat) : mB m' k = mB m k := mB_cg (h.1 15 28 (by omega)) (fun k => h.1 31 k (by omega)) k
theorem mfl_32 (s : St) (v w : Int32) : (mfl s v w).1 15 32 = v ∧ (mfl s v w).1 15 33 = w := ⟨(uv_idx _ _ _ _ (by decide)).trans (uv_same _ _ _ _), uv_same _ _ _ _⟩
theorem mpk_o (s : St) {j : Nat} (h : j ≠ 27 ∧ j ≠ 30) : (mpk s).1 15 j = s.1 15 j := by
  unfold mpk
  rw [uv_idx _ _ _ _ h.2, uv_idx _ _ _ _ h.1]
/-- a word of the grammar -/
theorem prs_T (h : PRL c m) {k : Nat} (hk : 4 ≤ k) (hk2 : k < 16) {W : Int64} (hW : W = Int64.ofNat (WV.getD k 0)) : (pT m W ∧ PRL (ctK c k) (sT m W)) ∨ (¬ pT m W ∧ ERR (ctK c k) (sT m W)) := by
  obtain ⟨F, hF, hK⟩ := h.tok
  have hk4 := hK.2.2.2.2.1 k hk hk2
  have ew : pW m → (sW m).2.2 15 34 = wvl (mB m) (msk m) (mwl m) := fun z => by
    rw [sW_t z]
    unfold sW1
    show (ul (mpk m) 15 34 (wvl (mB m) (msk m) (mwl m))).2.2 15 34 = _
    exact ul_same _ _ _ _
  unfold ctK
  by_cases q : pW m ∧ wvl (mB m) (msk m) (mwl m) = Int64.ofNat (WV.getD k 0)
  · left
    have kd := hk4.mpr q
    have pt : pT m W := ⟨q.1, by rw [ew q.1, hW]; exact q.2⟩
    refine ⟨pt, ?_⟩
    rw [cI_t kd]
    have e1 : sT m W = sW m := by unfold sT; rw [cI_t q.1, cI_t pt.2]
    rw [e1]
    refine h.adv hF (hK.2.2.2.2.2.2.1 (by omega)) (hK.2.2.2.2.2.2.2.2.1 (by omega)) ⟨PI_sW h.2.2.2.1, fun k => mB_lx (LX_sW m) k, (LX_sW m).1 15 28 (by omega), ?_, ?_, ?_⟩
    · rw [sW_t q.1]; unfold sW1; rw [uv_idx _ _ _ _ (by decide), uv_same]
    · rw [sW_t q.1]; unfold sW1; rw [uv_same]
    · rw [sW_t q.1]; unfold sW1
      rw [uv_idx _ _ _ _ (by decide), uv_idx _ _ _ _ (by decide), uv_idx _ _ _ _ (by decide), uv_idx _ _ _ _ (by decide), ul_c, ul_c, mpk_o _ (by decide), mpk_o _ (by decide)]
      exact h.2.1
  · right
    have kd : ¬ kdH c = k := fun z => q (hk4.mp z)
    rw [cI_f kd]
    have e : (sT m W).1 15 32 = nI 1 ∧ (sT m W).1 15 33 = nI (msk m) := by
      unfold sT
      by_cases z : pW m
      · rw [cI_t z, cI_f (fun y => q ⟨z, by rw [← ew z, ← hW]; exact y⟩)]
        exact mfl_32 _ _ _
      · rw [cI_f z]
        unfold sW
        rw [cI_f z]
        exact mfl_32 _ _ _
    refine ⟨fun z => q ⟨z.1, by rw [← ew z.1, ← hW]; exact z.2⟩, (h.err hK (by decide) e.1 e.2).1⟩
/-- a number -/
theorem prs_N (h : PRL c m) (lo hi : Int32) : (pN m lo hi ∧ PRL (ctN c lo hi) (sN m lo hi) ∧ c.1 6 (rd c 1 2) = mnv m ∧ (sN m lo hi).1 15 31 = mnv m ∧ ccN c lo hi = c) ∨ (¬ pN m lo hi ∧ ERR (ctN c lo hi) (sN m lo hi) ∧ ERR (ccN c lo hi) (sN m lo hi)) := by
  obtain ⟨F, hF, hK⟩ := h.tok
  have hk3 := hK.2.2.1
  unfold ctN
  by_cases q : pN0 m ∧ mnl m ≤ 6
  · have kd := hk3.mpr q
    have en := hK.2.2.2.1 kd
    unfold ccN
    rw [cI_t kd, en]
    by_cases q2 : lo ≤ mnv m ∧ mnv m ≤ hi
    · left
      have pn : pN m lo hi := ⟨q.1, q.2, q2⟩
      rw [cI_f (show ¬ (mnv m < lo ∨ ¬ mnv m ≤ hi) from fun z => z.elim (fun z => absurd q2.1 (Int32.not_le.mpr z)) (fun z => z q2.2))]
      have e1 : sN m lo hi = uv (uv (sN1 m) 15 27 (nI (msk m + mnl m))) 15 29 (nI (msk m + mnl m)) := by unfold sN; rw [cI_t q.1, cI_t q.2, cI_t q2]
      refine ⟨pn, h.adv hF (hK.2.2.2.2.2.2.1 (by omega)) (hK.2.2.2.2.2.2.2.1 kd) ⟨PI_sN h.2.2.2.1 _ _, fun k => mB_lx (LX_sN m lo hi) k, (LX_sN m lo hi).1 15 28 (by omega), ?_, ?_, ?_⟩, rfl, sN_num pn, rfl⟩
      · rw [e1, uv_idx _ _ _ _ (by decide), uv_same]
      · rw [e1, uv_same]
      · rw [e1, uv_idx _ _ _ _ (by decide), uv_idx _ _ _ _ (by decide), uv_idx _ _ _ _ (by decide), uv_idx _ _ _ _ (by decide)]
        unfold sN1
        rw [uv_idx _ _ _ _ (by decide), uv_idx _ _ _ _ (by decide), mpk_o _ (by decide), mpk_o _ (by decide)]
        exact h.2.1
    · right
      rw [cI_t (show mnv m < lo ∨ ¬ mnv m ≤ hi from by
        by_cases z : lo ≤ mnv m
        · exact Or.inr (fun y => q2 ⟨z, y⟩)
        · exact Or.inl (Int32.not_le.mp z))]
      have e : (sN m lo hi).1 15 32 = nI 2 ∧ (sN m lo hi).1 15 33 = nI (msk m) := by
        unfold sN
        rw [cI_t q.1, cI_t q.2, cI_f q2]
        exact mfl_32 _ _ _
      exact ⟨fun z => q2 z.2.2, h.err hK (by decide) e.1 e.2⟩
  · right
    have kd : ¬ kdH c = 3 := fun z => q (hk3.mp z)
    unfold ccN
    rw [cI_f kd]
    have e : (sN m lo hi).1 15 32 = nI 1 ∧ (sN m lo hi).1 15 33 = nI (msk m) := by
      unfold sN
      by_cases z : pN0 m
      · rw [cI_t z, cI_f (fun y => q ⟨z, y⟩)]
        exact mfl_32 _ _ _
      · rw [cI_f z]
        exact mfl_32 _ _ _
    exact ⟨fun z => q ⟨z.1, z.2.1⟩, h.err hK (by decide) e.1 e.2⟩
/-- a semicolon -/
theorem prs_S (h : PRL c m) : (pS m ∧ PRL (ctK c 2) (sS m)) ∨ (¬ pS m ∧ ERR (ctK c 2) (sS m)) := by
  obtain ⟨F, hF, hK⟩ := h.tok
  have hk2 := hK.2.2.2.2.2.1
  unfold ctK
  by_cases q : pS m
  · left
    have kd := hk2.mpr q
    rw [cI_t kd]
    have e1 : sS m = uv (uv (mpk m) 15 27 (nI (msk m + 1))) 15 29 (-1) := cI_t q
    refine ⟨q, h.adv hF (hK.2.2.2.2.2.2.1 (by omega)) (hK.2.2.2.2.2.2.2.2.2 kd) ⟨PI_sS h.2.2.2.1, fun k => mB_lx (LX_sS m) k, (LX_sS m).1 15 28 (by omega), ?_, ?_, ?_⟩⟩
    · rw [e1, uv_idx _ _ _ _ (by decide), uv_same]
    · rw [e1, uv_same]
    · rw [e1, uv_idx _ _ _ _ (by decide), uv_idx _ _ _ _ (by decide), uv_idx _ _ _ _ (by decide), uv_idx _ _ _ _ (by decide), mpk_o _ (by decide), mpk_o _ (by decide)]
      exact h.2.1
  · right
    have kd : ¬ kdH c = 2 := fun z => q (hk2.mp z)
    rw [cI_f kd]
    have e : (sS m).1 15 32 = nI 1 ∧ (sS m).1 15 33 = nI (msk m) := by
      unfold sS
      rw [cI_f q]
      exact mfl_32 _ _ _
    exact ⟨q, (h.err hK (by decide) e.1 e.2).1⟩
/-- the end -/
theorem prs_E (h : PRL c m) : ((mPk m).1 ∧ ((ctK c 0).1 1 7 = nI 0 ∧ (ctK c 0).1 1 8 = -1) ∧ (mPk m).2.1 15 32 = nI 0 ∧ (mPk m).2.1 15 33 = -1) ∨ (¬ (mPk m).1 ∧ ERR (ctK c 0) (mPk m).2) := by
  obtain ⟨F, hF, hK⟩ := h.tok
  unfold ctK mPk
  by_cases q : mB m (msk m) = -1
  · left
    rw [cI_t (hK.2.1.mpr q)]
    refine ⟨q, ?_, ?_⟩
    · unfold ctt
      refine cI_a2 (Q := fun z : St => z.1 1 7 = nI 0 ∧ z.1 1 8 = -1) (fun _ => ?_) fun _ => h.1
      rw [uv_idx _ _ _ _ (by decide), uv_idx _ _ _ _ (by decide)]
      exact h.1
    · show (cI _ _ _ : St).1 15 32 = nI 0 ∧ (cI _ _ _ : St).1 15 33 = -1
      rw [cI_t q, mpk_o _ (by decide), mpk_o _ (by decide)]
      exact h.2.1
  · right
    rw [cI_f (fun z => q (hK.2.1.mp z))]
    have e : (cI (mB m (msk m) = -1) (mpk m) (mfl (mpk m) (nI 1) (nI (msk m)))).1 15 32 = nI 1 ∧ (cI (mB m (msk m) = -1) (mpk m) (mfl (mpk m) (nI 1) (nI (msk m)))).1 15 33 = nI (msk m) := by
      rw [cI_f q]
      exact mfl_32 _ _ _
    exact ⟨q, (h.err hK (by decide) e.1 e.2).1⟩
end PRS
