/-! the questions -/
def QC (w : Option String) (Rc Rm th : Int32) : Prop := (w = none ∧ Rc = Rm ∧ th = nI 0) ∨ (w = some exNo ∧ th = nI 1) ∨ (w = some exA ∧ th = nI 2)
def QD (w : Option String) (Rc Rm th : Int32) : Prop := (w = none ∧ Rc = Rm ∧ th = nI 0) ∨ (w = some exNo ∧ th = nI 1)
section SIM9
variable {c m : St}
theorem qr_br (h : IV c m) (b : Int32) : (vl2 (nI (rd c 8 6)) b ↔ vlt (m.1 15 4) b) := h.1.vbr h.2.1.1 b
theorem iq_ln (h : IV c m) (b : Int32) : IV c (mln m b).2 ∧ QD (wBr c b) (c.1 (34 + 7 * cn b) 6) (mln m b).1 ((mln m b).2.1 15 0) := by
  have hM := h.2.1.1
  unfold mln wBr
  by_cases q : vlt (m.1 15 4) b
  · obtain ⟨c1, c2, c3⟩ := hM.br q
    rw [cI_t ((h.1.vbr hM b).mpr q), cI_t q]
    exact ⟨h.th _, Or.inl ⟨rfl, h.1.len (by omega), th_s _ _⟩⟩
  · rw [cI_f (fun z => q ((h.1.vbr hM b).mp z)), cI_f q]
    exact ⟨h.th2 _, Or.inr ⟨rfl, th_s _ _⟩⟩
theorem iq_bo (h : IV c m) (a : Int32) : IV c (mbo m a).2 ∧ QD (wCl c a) (c.1 (90 + 3 * cn a) 3) (mbo m a).1 ((mbo m a).2.1 15 0) := by
  have hM := h.2.1.1
  unfold mbo wCl
  by_cases q : vlt (m.1 15 1) a
  · obtain ⟨c1, c2, c3⟩ := hM.cl q
    rw [cI_t ((h.1.vcl hM a).mpr q), cI_t q]
    exact ⟨h.th _, Or.inl ⟨rfl, h.1.see (by omega), th_s _ _⟩⟩
  · rw [cI_f (fun z => q ((h.1.vcl hM a).mp z)), cI_f q]
    exact ⟨h.th2 _, Or.inr ⟨rfl, th_s _ _⟩⟩
theorem bI_eq {v : Int32} (h : v = nI 0 ∨ v = nI 1) : v = bI (¬ v = 0) := by
  rcases h with rfl | rfl
  · rw [bI_f (fun z => z nI_0)]; exact nI_0
  · rw [bI_t (by decide)]; rfl
theorem iq_is (h : IV c m) (a : Int32) : IV c (mis m a).2 ∧ QD (wCl c a) (c.1 (90 + 3 * cn a) 5) (mis m a).1 ((mis m a).2.1 15 0) ∧ (wCl c a = none → c.1 (90 + 3 * cn a) 5 = nI 0 ∨ c.1 (90 + 3 * cn a) 5 = nI 1) := by
  have hM := h.2.1.1
  unfold mis wCl
  by_cases q : vlt (m.1 15 1) a
  · obtain ⟨c1, c2, c3⟩ := hM.cl q
    rw [cI_t ((h.1.vcl hM a).mpr q), cI_t q]
    have e := hM.v28 (cn a) (by omega)
    refine ⟨h.th _, Or.inl ⟨rfl, ?_, th_s _ _⟩, fun _ => ?_⟩
    · rw [h.1.sus (by omega)]
      exact bI_eq e
    · rw [h.1.sus (by omega)]; exact e
  · rw [cI_f (fun z => q ((h.1.vcl hM a).mp z)), cI_f q]
    exact ⟨h.th _, Or.inr ⟨rfl, th_s _ _⟩, fun z => by cases z⟩
theorem IV.n24 (h : IV c m) (v : Int32) : IV c (uv m 15 24 v) := by
  have e4 : rd (uv m 15 24 v) 15 4 = rd m 15 4 := rd_idx _ _ _ _ (by decide)
  refine IV_of h (MK_of h.2.1 (MI_uv h.2.1.1 _ (by omega)) ((OF.rf m).u _ (by omega)) ((SB.rf m).u _ (by omega))) (h.1.m15 v (by omega)) (MV_same h.2.2.1 (fun i => uv_cell _ _ _ _ (by decide))) ?_
  rw [e4]
  exact MA_same h.2.2.2 (uv_idx _ _ _ _ (by decide)) (fun _ _ => uv_cell _ _ _ _ (by decide)) (fun _ => uv_cell _ _ _ _ (by decide)) (fun _ => uv_cell _ _ _ _ (by decide))
theorem iq_wf (h : IV c m) (a : Int32) : IV c (mwf m a).2 ∧ QD (wCl c a) (nI (cfc c (cn a))) (mwf m a).1 ((mwf m a).2.1 15 0) := by
  have hM := h.2.1.1
  unfold mwf wCl
  by_cases q : vlt (m.1 15 1) a
  · obtain ⟨c1, c2, c3⟩ := hM.cl q
    rw [cI_t ((h.1.vcl hM a).mpr q), cI_t q]
    have h0 := h.th (nI 0)
    refine ⟨h0.n24 _, Or.inl ⟨rfl, ?_, ?_⟩⟩
    · rw [h0.1.fc h0.2.1.1 h0.2.2.1 (by omega)]
    · show (mo1 (m0 m) (cn a)).1 15 0 = nI 0
      unfold mo1
      rw [uv_idx _ _ _ _ (by decide)]
      exact th_s _ _
  · rw [cI_f (fun z => q ((h.1.vcl hM a).mp z)), cI_f q]
    exact ⟨h.th2 _, Or.inr ⟨rfl, th_s _ _⟩⟩
theorem iq_vl (h : IV c m) (b w : Int32) : IV c (mvl m b w).2 ∧ QD (wVa c b w) (cval c (cn b) w (rd c (34 + 7 * cn b) 6)) (mvl m b w).1 ((mvl m b w).2.1 15 0) := by
  have hM := h.2.1.1
  unfold mvl wVa
  by_cases q : vlt (m.1 15 4) b
  · obtain ⟨c1, c2, c3⟩ := hM.br q
    rw [cI_t ((h.1.vbr hM b).mpr q)]
    by_cases q2 : vlt (m.1 15 2) w
    · rw [cI_t ((h.1.vbk hM w).mpr q2), cI_t ⟨q, q2⟩]
      refine ⟨h.th _, Or.inl ⟨rfl, ?_, th_s _ _⟩⟩
      rw [h.1.rlen (by omega)]
      exact h.1.val (by omega) w _ (hM.len (by omega)).2
    · rw [cI_f (fun z => q2 ((h.1.vbk hM w).mp z)), cI_f (fun z => q2 z.2)]
      exact ⟨h.th2 _, Or.inr ⟨rfl, th_s _ _⟩⟩
  · rw [cI_f (fun z => q ((h.1.vbr hM b).mp z)), cI_f (fun z => q z.1)]
    exact ⟨h.th2 _, Or.inr ⟨rfl, th_s _ _⟩⟩
theorem iq_cl (h : IV c m) (a b : Int32) : IV c (mcl m a b).2 ∧ QD (w2B c a b) (nI (csh c (cn a) (cn b))) (mcl m a b).1 ((mcl m a b).2.1 15 0) := by
  have hM := h.2.1.1
  unfold mcl w2B wBr
  by_cases q : vlt (m.1 15 4) a
  · obtain ⟨c1, c2, c3⟩ := hM.br q
    rw [cI_t ((h.1.vbr hM a).mpr q)]
    by_cases q2 : vlt (m.1 15 4) b
    · obtain ⟨d1, d2, d3⟩ := hM.br q2
      rw [cI_t ((h.1.vbr hM b).mpr q2), cI_t ⟨q, q2⟩]
      refine ⟨h.th _, Or.inl ⟨rfl, ?_, th_s _ _⟩⟩
      rw [h.1.shr hM (by omega) (by omega)]
    · rw [cI_f (fun z => q2 ((h.1.vbr hM b).mp z)), cI_f (fun z => q2 z.2)]
      exact ⟨h.th2 _, Or.inr ⟨rfl, th_s _ _⟩⟩
  · rw [cI_f (fun z => q ((h.1.vbr hM a).mp z)), cI_f (fun z => q z.1)]
    exact ⟨h.th2 _, Or.inr ⟨rfl, th_s _ _⟩⟩
theorem iq_cn (h : IV c m) (a b : Int32) : IV c (mcn m a b).2 ∧ QD (w2B c a b) (ccf c (cn a) (cn b)) (mcn m a b).1 ((mcn m a b).2.1 15 0) := by
  have hM := h.2.1.1
  unfold mcn w2B wBr
  by_cases q : vlt (m.1 15 4) a
  · obtain ⟨c1, c2, c3⟩ := hM.br q
    rw [cI_t ((h.1.vbr hM a).mpr q)]
    by_cases q2 : vlt (m.1 15 4) b
    · obtain ⟨d1, d2, d3⟩ := hM.br q2
      rw [cI_t ((h.1.vbr hM b).mpr q2), cI_t ⟨q, q2⟩]
      exact ⟨h.th _, Or.inl ⟨rfl, h.1.cnf hM (by omega) (by omega), th_s _ _⟩⟩
    · rw [cI_f (fun z => q2 ((h.1.vbr hM b).mp z)), cI_f (fun z => q2 z.2)]
      exact ⟨h.th2 _, Or.inr ⟨rfl, th_s _ _⟩⟩
  · rw [cI_f (fun z => q ((h.1.vbr hM a).mp z)), cI_f (fun z => q z.1)]
    exact ⟨h.th2 _, Or.inr ⟨rfl, th_s _ _⟩⟩
theorem iq_vc (h : IV c m) (a b : Int32) : IV c (mvc m a b).2 ∧ QD (w2C c a b) (c.1 (90 + 3 * cn a + 2) (cn b)) (mvc m a b).1 ((mvc m a b).2.1 15 0) := by
  have hM := h.2.1.1
  unfold mvc w2C wCl
  by_cases q : vlt (m.1 15 1) a
  · obtain ⟨c1, c2, c3⟩ := hM.cl q
    rw [cI_t ((h.1.vcl hM a).mpr q)]
    by_cases q2 : vlt (m.1 15 1) b
    · obtain ⟨d1, d2, d3⟩ := hM.cl q2
      rw [cI_t ((h.1.vcl hM b).mpr q2), cI_t ⟨q, q2⟩]
      exact ⟨h.th _, Or.inl ⟨rfl, h.1.vec (by omega) (by omega), th_s _ _⟩⟩
    · rw [cI_f (fun z => q2 ((h.1.vcl hM b).mp z)), cI_f (fun z => q2 z.2)]
      exact ⟨h.th2 _, Or.inr ⟨rfl, th_s _ _⟩⟩
  · rw [cI_f (fun z => q ((h.1.vcl hM a).mp z)), cI_f (fun z => q z.1)]
    exact ⟨h.th2 _, Or.inr ⟨rfl, th_s _ _⟩⟩
theorem gtx_eq {f e f' e' : Nat → Int32} {n : Nat} (hn : n ≤ 6) (h : ∀ j, j < 6 → f j = f' j ∧ e j = e' j) (h0 : ∀ j, n ≤ j → j < 6 → f' j = nI 0 ∧ e' j = nI 0) : gtx f e 6 ↔ gtx f' e' n := by
  unfold gtx
  constructor
  · rintro ⟨j, h1, h2⟩
    obtain ⟨e1, e2⟩ := h j h1
    rw [e1, e2] at h2
    rcases Nat.lt_or_ge j n with z | z
    · exact ⟨j, z, h2⟩
    · obtain ⟨z1, z2⟩ := h0 j z h1
      rw [z1, z2] at h2
      exact absurd h2 (by decide)
  · rintro ⟨j, h1, h2⟩
    obtain ⟨e1, e2⟩ := h j (by omega)
    exact ⟨j, by omega, by rw [e1, e2]; exact h2⟩
theorem iq_or (h : IV c m) (a b : Int32) : IV c (mor m a b).2 ∧ QD (w2C c a b) (ordF (c.1 (90 + 3 * cn a + 2)) (c.1 (90 + 3 * cn b + 2)) 6) (mor m a b).1 ((mor m a b).2.1 15 0) := by
  have hM := h.2.1.1
  have h6 := hM.1.1.2
  unfold mor w2C wCl
  by_cases q : vlt (m.1 15 1) a
  · obtain ⟨c1, c2, c3⟩ := hM.cl q
    rw [cI_t ((h.1.vcl hM a).mpr q)]
    by_cases q2 : vlt (m.1 15 1) b
    · obtain ⟨d1, d2, d3⟩ := hM.cl q2
      rw [cI_t ((h.1.vcl hM b).mpr q2), cI_t ⟨q, q2⟩]
      refine ⟨h.th _, Or.inl ⟨rfl, ?_, th_s _ _⟩⟩
      have g1 : gtx (c.1 (90 + 3 * cn a + 2)) (c.1 (90 + 3 * cn b + 2)) 6 ↔ gtx (fun j => m.1 26 (6 * cn a + j)) (fun j => m.1 26 (6 * cn b + j)) (rd m 15 1) := gtx_eq h6 (fun j hj => ⟨h.1.vec (by omega) hj, h.1.vec (by omega) hj⟩) (fun j z1 z2 => ⟨h.2.2.2.2 _ _ (by omega) z1 z2, h.2.2.2.2 _ _ (by omega) z1 z2⟩)
      have g2 : gtx (c.1 (90 + 3 * cn b + 2)) (c.1 (90 + 3 * cn a + 2)) 6 ↔ gtx (fun j => m.1 26 (6 * cn b + j)) (fun j => m.1 26 (6 * cn a + j)) (rd m 15 1) := gtx_eq h6 (fun j hj => ⟨h.1.vec (by omega) hj, h.1.vec (by omega) hj⟩) (fun j z1 z2 => ⟨h.2.2.2.2 _ _ (by omega) z1 z2, h.2.2.2.2 _ _ (by omega) z1 z2⟩)
      unfold ordF
      by_cases u1 : gtx (fun j => m.1 26 (6 * cn a + j)) (fun j => m.1 26 (6 * cn b + j)) (rd m 15 1)
      · rw [cI_t (g1.mpr u1), cI_t u1]
        by_cases u2 : gtx (fun j => m.1 26 (6 * cn b + j)) (fun j => m.1 26 (6 * cn a + j)) (rd m 15 1)
        · rw [cI_t (g2.mpr u2), cI_t u2]
        · rw [cI_f (fun z => u2 (g2.mp z)), cI_f u2]
      · rw [cI_f (fun z => u1 (g1.mp z)), cI_f u1]
        by_cases u2 : gtx (fun j => m.1 26 (6 * cn b + j)) (fun j => m.1 26 (6 * cn a + j)) (rd m 15 1)
        · rw [cI_t (g2.mpr u2), cI_t u2]
        · rw [cI_f (fun z => u2 (g2.mp z)), cI_f u2]
    · rw [cI_f (fun z => q2 ((h.1.vcl hM b).mp z)), cI_f (fun z => q2 z.2)]
      exact ⟨h.th2 _, Or.inr ⟨rfl, th_s _ _⟩⟩
  · rw [cI_f (fun z => q ((h.1.vcl hM a).mp z)), cI_f (fun z => q z.1)]
    exact ⟨h.th2 _, Or.inr ⟨rfl, th_s _ _⟩⟩
theorem iq_ha (h : IV c m) (a n : Int32) : IV c (mha m a n).2 ∧ QD (wHa c a n) (c.1 (90 + 3 * cn a + 1) (cn n)) (mha m a n).1 ((mha m a n).2.1 15 0) := by
  have hM := h.2.1.1
  unfold mha wHa
  by_cases q : vlt (m.1 15 1) a
  · obtain ⟨c1, c2, c3⟩ := hM.cl q
    have hp := hM.pos (c := cn a) (by omega)
    have hp2 := hp.2
    rw [cI_t ((h.1.vcl hM a).mpr q), h.1.rpos (by omega), ← hp.1]
    by_cases q2 : nI 0 ≤ n ∧ n ≤ m.1 24 (cn a)
    · rw [cI_t (show ¬ n < 0 ∧ n ≤ m.1 24 (cn a) from ⟨(lt0_iff n).mpr q2.1, q2.2⟩), cI_t ⟨q, q2⟩]
      obtain ⟨e1, -, e3⟩ := in_n (a := 0) (by decide) (by omega) q2.1 (hp.1 ▸ q2.2)
      exact ⟨h.th _, Or.inl ⟨rfl, h.1.his (by omega) (by omega), th_s _ _⟩⟩
    · rw [cI_f (show ¬ (¬ n < 0 ∧ n ≤ m.1 24 (cn a)) from fun z => q2 ⟨(lt0_iff n).mp z.1, z.2⟩), cI_f (show ¬ (vlt (m.1 15 1) a ∧ nI 0 ≤ n ∧ n ≤ m.1 24 (cn a)) from fun z => q2 z.2)]
      exact ⟨h.th2 _, Or.inr ⟨rfl, th_s _ _⟩⟩
  · rw [cI_f (fun z => q ((h.1.vcl hM a).mp z)), cI_f (fun z => q z.1)]
    exact ⟨h.th2 _, Or.inr ⟨rfl, th_s _ _⟩⟩
theorem cpq_iff {w : Int32} {k : Nat} (hk : 1 ≤ k ∧ k < 2 ^ 30) : cpq w k ↔ (nI 0 ≤ w ∧ w ≤ nI (k - 1)) := by
  unfold cpq
  constructor
  · rintro ⟨a, b⟩
    obtain ⟨e, l⟩ := cpq_n (by omega) ⟨a, b⟩
    rw [e]
    exact ⟨nI_le (Nat.zero_le _) (by omega), nI_le (by omega) (by omega)⟩
  · rintro ⟨a, b⟩
    obtain ⟨e, -, l⟩ := in_n (by decide) (by omega) a b
    refine ⟨(lt0_iff w).mpr a, ?_⟩
    rw [e]
    exact (nI_ltI (by omega) (by omega)).mpr (by omega)
theorem iq_rc (h : IV c m) (a w : Int32) : IV c (mrc m a w).2 ∧ QC (wRc c a w) (crc c a w) (mrc m a w).1 ((mrc m a w).2.1 15 0) := by
  have hM := h.2.1.1
  unfold mrc wRc wPt
  by_cases q : vlt (m.1 15 1) a
  · obtain ⟨c1, c2, c3⟩ := hM.cl q
    have hp := hM.pos (c := cn a) (by omega)
    have hp2 := hp.2
    rw [cI_t ((h.1.vcl hM a).mpr q), cI_t q]
    have ec : crc c a w = cI (w = 0) (m.1 24 (cn a)) (cI (w = nI 1) (m.1 27 (201 * cn a + rd m 24 (cn a))) (sgn a (m.1 24 (cn a)) (m.1 27 (201 * cn a + rd m 24 (cn a))))) := by
      unfold crc
      rw [h.1.rpos (by omega), h.1.his (by omega) hp2, ← hp.1]
    rw [ec]
    by_cases q2 : cpq w 3
    · rw [cI_t q2]
      obtain ⟨e, l⟩ := cpq_n (by decide) q2
      rcases (show cn w = 0 ∨ cn w = 1 ∨ cn w = 2 by omega) with z | z | z
      · rw [z] at e
        rw [cI_t (e.trans nI_0), cI_t e]
        exact ⟨h.th _, Or.inl ⟨rfl, rfl, th_s _ _⟩⟩
      · rw [z] at e
        have f0 : ¬ w = 0 := by rw [e]; decide
        have f1 : ¬ w = nI 0 := by rw [e]; decide
        rw [cI_f f0, cI_t e, cI_f f1, cI_t e]
        exact ⟨h.th _, Or.inl ⟨rfl, rfl, th_s _ _⟩⟩
      · rw [z] at e
        have f0 : ¬ w = 0 := by rw [e]; decide
        have f1 : ¬ w = nI 0 := by rw [e]; decide
        have f2 : ¬ w = nI 1 := by rw [e]; decide
        rw [cI_f f0, cI_f f2, cI_f f1, cI_f f2, cI_t e]
        exact ⟨h.th _, Or.inl ⟨rfl, rfl, th_s _ _⟩⟩
    · have n : ∀ k, k < 3 → ¬ w = nI k := fun k hk z => q2 ((cpq_iff (by decide)).mpr (by rw [z]; exact ⟨nI_le (Nat.zero_le _) (by omega), nI_le (by omega) (by omega)⟩))
      rw [cI_f q2, cI_f (n 0 (by decide)), cI_f (n 1 (by decide)), cI_f (n 2 (by decide))]
      exact ⟨h.th2 _, Or.inr (Or.inr ⟨rfl, th_s _ _⟩)⟩
  · rw [cI_f (fun z => q ((h.1.vcl hM a).mp z)), cI_f q]
    exact ⟨h.th2 _, Or.inr (Or.inl ⟨rfl, th_s _ _⟩)⟩
theorem iq_bm (h : IV c m) (i w : Int32) : IV c (mbm m i w).2 ∧ QC (wBm c i w) (c.1 12 (cn i * 6 + cn w)) (mbm m i w).1 ((mbm m i w).2.1 15 0) := by
  have hM := h.2.1.1
  unfold mbm wBm wPt
  have hb := hM.2.1.2.1
  have hb2 := hb.2
  by_cases q : vlt (m.1 15 22) i
  · have hv := vlt_n hb.1 hb2 (by decide) q
    rw [cI_t ((h.1.vbm hM i).mpr q), cI_t q]
    by_cases q2 : nI 0 ≤ w ∧ w ≤ nI 5
    · rw [cI_t ((cpq_iff (k := 6) (by decide)).mpr q2), cI_t q2]
      obtain ⟨e1, -, e3⟩ := in_n (a := 0) (by decide) (by decide) q2.1 q2.2
      refine ⟨h.th _, Or.inl ⟨rfl, ?_, th_s _ _⟩⟩
      have hl := hv.2
      rw [show cn i * 6 + cn w = 6 * cn i + cn w by omega]
      exact h.1.bla (by omega)
    · rw [cI_f (fun z => q2 ((cpq_iff (k := 6) (by decide)).mp z)), cI_f q2]
      exact ⟨h.th2 _, Or.inr (Or.inr ⟨rfl, th_s _ _⟩)⟩
  · rw [cI_f (fun z => q ((h.1.vbm hM i).mp z)), cI_f q]
    exact ⟨h.th2 _, Or.inr (Or.inl ⟨rfl, th_s _ _⟩)⟩
theorem iq_bp (h : IV c m) (i w : Int32) : IV c (mbp m i w).2 ∧ QC (wBp c i w) (c.1 14 (cn i * 4 + cn w)) (mbp m i w).1 ((mbp m i w).2.1 15 0) := by
  have hM := h.2.1.1
  unfold mbp wBp wPt
  have hb := hM.2.1.1
  have hb2 := hb.2
  by_cases q : vlt (m.1 15 21) i
  · have hv := vlt_n hb.1 hb2 (by decide) q
    rw [cI_t ((h.1.vpo hM i).mpr q), cI_t q]
    by_cases q2 : nI 0 ≤ w ∧ w ≤ nI 3
    · rw [cI_t ((cpq_iff (k := 4) (by decide)).mpr q2), cI_t q2]
      obtain ⟨e1, -, e3⟩ := in_n (a := 0) (by decide) (by decide) q2.1 q2.2
      refine ⟨h.th _, Or.inl ⟨rfl, ?_, th_s _ _⟩⟩
      have hl := hv.2
      rw [show cn i * 4 + cn w = 4 * cn i + cn w by omega]
      exact h.1.pst (by omega)
    · rw [cI_f (fun z => q2 ((cpq_iff (k := 4) (by decide)).mp z)), cI_f q2]
      exact ⟨h.th2 _, Or.inr (Or.inr ⟨rfl, th_s _ _⟩)⟩
  · rw [cI_f (fun z => q ((h.1.vpo hM i).mp z)), cI_f q]
    exact ⟨h.th2 _, Or.inr (Or.inl ⟨rfl, th_s _ _⟩)⟩
theorem iq_cp (h : IV c m) (a i : Int32) : IV c (mcp' m a i).2 ∧ QD (wCp c a i) (ccp' c a i) (mcp' m a i).1 ((mcp' m a i).2.1 15 0) := by
  have hM := h.2.1.1
  have hb := hM.2.1.1
  have hb2 := hb.2
  unfold mcp' wCp wPo
  by_cases q : vlt (m.1 15 1) a
  · obtain ⟨c1, c2, c3⟩ := hM.cl q
    rw [cI_t ((h.1.vcl hM a).mpr q)]
    by_cases q2 : vlt (m.1 15 21) i
    · have hv := (vlt_n hb.1 hb2 (by decide) q2).2
      have hp := (hM.pos (c := cn a) (by omega)).2
      have hn := (hM.2.2.2.2.1 (cn i) (by omega)).2
      rw [cI_t ((h.1.vpo hM i).mpr q2), cI_t ⟨q, q2⟩]
      have ec : ccp' c a i = cI (rd m 24 (cn a) < rd m 29 (4 * cn i + 1)) (nI 2) (cI (m.1 27 (201 * cn a + rd m 29 (4 * cn i + 1)) = m.1 29 (4 * cn i + 2)) (nI 0) (nI 1)) := by
        unfold ccp'
        rw [h.1.rpos (by omega), h.1.rp14 (by omega), h.1.his (by omega) hn, h.1.pst (by omega), show cn i * 4 + 2 = 4 * cn i + 2 by omega]
      rw [ec]
      by_cases u1 : rd m 24 (cn a) < rd m 29 (4 * cn i + 1)
      · rw [cI_t u1, cI_t u1]; exact ⟨h.th _, Or.inl ⟨rfl, rfl, th_s _ _⟩⟩
      · rw [cI_f u1, cI_f u1]
        by_cases u2 : m.1 27 (201 * cn a + rd m 29 (4 * cn i + 1)) = m.1 29 (4 * cn i + 2)
        · rw [cI_t u2, cI_t u2]; exact ⟨h.th _, Or.inl ⟨rfl, rfl, th_s _ _⟩⟩
        · rw [cI_f u2, cI_f u2]; exact ⟨h.th _, Or.inl ⟨rfl, rfl, th_s _ _⟩⟩
    · rw [cI_f (fun z => q2 ((h.1.vpo hM i).mp z)), cI_f (fun z => q2 z.2)]
      exact ⟨h.th2 _, Or.inr ⟨rfl, th_s _ _⟩⟩
  · rw [cI_f (fun z => q ((h.1.vcl hM a).mp z)), cI_f (fun z => q z.1)]
    exact ⟨h.th2 _, Or.inr ⟨rfl, th_s _ _⟩⟩
theorem iq_en (h : IV c m) (b n w : Int32) : IV c (men m b n w).2 ∧ QC (wEn c b n w) (cpt c (cn b) (cn n) w) (men m b n w).1 ((men m b n w).2.1 15 0) := by
  have hM := h.2.1.1
  have en := h.1.enx hM b n
  unfold men wEn wPt
  by_cases q : mex m b n
  · obtain ⟨c1, c2, c3, c4, c5⟩ := mex_n hM q
    have q' := en.mpr q
    rw [cI_t q'.1, cI_t q'.2, cI_t q]
    have e := fun i h1 h2 => h.1.ent (b := cn b) (i := i) (n := cn n) c1 h1 h2 c3 (by omega)
    have ecm := h.1.cmp h.2.2.1 (b := cn b) (n := cn n) c1 c3 (by omega)
    have ec : cpt c (cn b) (cn n) w = cI (w = nI 0) (m.1 17 (200 * cn b + cn n - 1)) (cI (w = nI 1) (m.1 18 (200 * cn b + cn n - 1)) (cI (w = nI 2) (m.1 19 (200 * cn b + cn n - 1)) (cI (w = nI 3) (m.1 20 (200 * cn b + cn n - 1)) (cI (w = nI 4) (m.1 22 (200 * cn b + cn n - 1)) (cI (w = nI 5) (m.1 21 (200 * cn b + cn n - 1)) (bI (m.1 22 (200 * cn b + cn n - 1) = mcomp m (cn b) (cn n)))))))) := by
      unfold cpt
      rw [e 1 (by decide) (by decide), e 2 (by decide) (by decide), e 3 (by decide) (by decide), e 4 (by decide) (by decide), e 5 (by decide) (by decide), e 6 (by decide) (by decide), ecm]
    rw [ec]
    by_cases q2 : cpq w 7
    · rw [cI_t q2]
      obtain ⟨e9, l⟩ := cpq_n (by decide) q2
      rcases (show cn w = 0 ∨ cn w = 1 ∨ cn w = 2 ∨ cn w = 3 ∨ cn w = 4 ∨ cn w = 5 ∨ cn w = 6 by omega) with z | z | z | z | z | z | z
      · rw [z] at e9
        rw [cI_t e9, cI_t e9]
        exact ⟨h.th _, Or.inl ⟨rfl, rfl, th_s _ _⟩⟩
      · rw [z] at e9
        have f := fun k (hk : ¬ nI 1 = nI k) => show ¬ w = nI k from by rw [e9]; exact hk
        rw [cI_f (f 0 (by decide)), cI_t e9, cI_f (f 0 (by decide)), cI_t e9]
        exact ⟨h.th _, Or.inl ⟨rfl, rfl, th_s _ _⟩⟩
      · rw [z] at e9
        have f := fun k (hk : ¬ nI 2 = nI k) => show ¬ w = nI k from by rw [e9]; exact hk
        rw [cI_f (f 0 (by decide)), cI_f (f 1 (by decide)), cI_t e9, cI_f (f 0 (by decide)), cI_f (f 1 (by decide)), cI_t e9]
        exact ⟨h.th _, Or.inl ⟨rfl, rfl, th_s _ _⟩⟩
      · rw [z] at e9
        have f := fun k (hk : ¬ nI 3 = nI k) => show ¬ w = nI k from by rw [e9]; exact hk
        rw [cI_f (f 0 (by decide)), cI_f (f 1 (by decide)), cI_f (f 2 (by decide)), cI_t e9, cI_f (f 0 (by decide)), cI_f (f 1 (by decide)), cI_f (f 2 (by decide)), cI_t e9]
        exact ⟨h.th _, Or.inl ⟨rfl, rfl, th_s _ _⟩⟩
      · rw [z] at e9
        have f := fun k (hk : ¬ nI 4 = nI k) => show ¬ w = nI k from by rw [e9]; exact hk
        rw [cI_f (f 0 (by decide)), cI_f (f 1 (by decide)), cI_f (f 2 (by decide)), cI_f (f 3 (by decide)), cI_t e9, cI_f (f 0 (by decide)), cI_f (f 1 (by decide)), cI_f (f 2 (by decide)), cI_f (f 3 (by decide)), cI_t e9]
        exact ⟨h.th _, Or.inl ⟨rfl, rfl, th_s _ _⟩⟩
      · rw [z] at e9
        have f := fun k (hk : ¬ nI 5 = nI k) => show ¬ w = nI k from by rw [e9]; exact hk
        rw [cI_f (f 0 (by decide)), cI_f (f 1 (by decide)), cI_f (f 2 (by decide)), cI_f (f 3 (by decide)), cI_f (f 4 (by decide)), cI_t e9, cI_f (f 0 (by decide)), cI_f (f 1 (by decide)), cI_f (f 2 (by decide)), cI_f (f 3 (by decide)), cI_f (f 4 (by decide)), cI_t e9]
        exact ⟨h.th _, Or.inl ⟨rfl, rfl, th_s _ _⟩⟩
      · rw [z] at e9
        have f := fun k (hk : ¬ nI 6 = nI k) => show ¬ w = nI k from by rw [e9]; exact hk
        rw [cI_f (f 0 (by decide)), cI_f (f 1 (by decide)), cI_f (f 2 (by decide)), cI_f (f 3 (by decide)), cI_f (f 4 (by decide)), cI_f (f 5 (by decide)), cI_f (f 0 (by decide)), cI_f (f 1 (by decide)), cI_f (f 2 (by decide)), cI_f (f 3 (by decide)), cI_f (f 4 (by decide)), cI_f (f 5 (by decide)), cI_t e9]
        refine ⟨h.th _, Or.inl ⟨rfl, ?_, th_s _ _⟩⟩
        show bI _ = cI _ _ _
        by_cases u : mcomp m (cn b) (cn n) = m.1 22 (200 * cn b + cn n - 1)
        · rw [bI_t u.symm, cI_t u]; rfl
        · rw [bI_f (fun z => u z.symm), cI_f u]; rfl
    · have n9 : ∀ k, k < 7 → ¬ w = nI k := fun k hk z => q2 ((cpq_iff (by decide)).mpr (by rw [z]; exact ⟨nI_le (Nat.zero_le _) (by omega), nI_le (by omega) (by omega)⟩))
      rw [cI_f q2]
      have em : ∀ (A0 A1 A2 A3 A4 A5 A6 A7 : Int32 × St), cI (w = nI 0) A0 (cI (w = nI 1) A1 (cI (w = nI 2) A2 (cI (w = nI 3) A3 (cI (w = nI 4) A4 (cI (w = nI 5) A5 (cI (w = nI 6) A6 A7)))))) = A7 := by
        intro A0 A1 A2 A3 A4 A5 A6 A7
        rw [cI_f (n9 0 (by decide)), cI_f (n9 1 (by decide)), cI_f (n9 2 (by decide)), cI_f (n9 3 (by decide)), cI_f (n9 4 (by decide)), cI_f (n9 5 (by decide)), cI_f (n9 6 (by decide))]
      rw [em]
      exact ⟨h.th2 _, Or.inr (Or.inr ⟨rfl, th_s _ _⟩)⟩
  · rw [cI_f q]
    refine ⟨h.th2 _, Or.inr (Or.inl ⟨?_, th_s _ _⟩)⟩
    by_cases u : vl2 (nI (rd c 8 6)) b
    · rw [cI_t u, cI_f (fun z => q (en.mp ⟨u, z⟩))]
    · rw [cI_f u]
theorem iq_sb (h : IV c m) (a : Int32) : IV c (msn m a).2 ∧ QD (wCl c a) (csb c (cn a) (rd c 8 4)) (msn m a).1 ((msn m a).2.1 15 0) := by
  have hM := h.2.1.1
  have h6 := hM.1.1.2
  unfold msn wCl
  by_cases q : vlt (m.1 15 1) a
  · obtain ⟨c1, c2, c3⟩ := hM.cl q
    rw [cI_t ((h.1.vcl hM a).mpr q), cI_t q]
    refine ⟨h.th _, Or.inl ⟨rfl, ?_, th_s _ _⟩⟩
    have key : ∀ n, n ≤ 6 → csb c (cn a) n = msb m (cn a) n := by
      intro n
      induction n with
      | zero => intro _; rfl
      | succ n ih =>
        intro hn
        show cI _ _ _ = cI _ _ _
        rw [ih (by omega), h.1.vec (q := n) (by omega) (by omega), h.1.vec (q := cn a) (by omega) (by omega)]
        have e : (¬ n = cn a ∧ ¬ m.1 26 (6 * n + cn a) < m.1 26 (6 * cn a + cn a) ∧ ¬ cfk c n (cn a)) ↔ (n ≠ cn a ∧ m.1 26 (6 * cn a + cn a) ≤ m.1 26 (6 * n + cn a) ∧ ¬ mfk m n (cn a)) := by
          rw [Int32.not_lt, h.1.fkd hM (by omega) (by omega)]
        by_cases u : n ≠ cn a ∧ m.1 26 (6 * cn a + cn a) ≤ m.1 26 (6 * n + cn a) ∧ ¬ mfk m n (cn a)
        · rw [cI_t (e.mpr u), cI_t u]
        · rw [cI_f (fun z => u (e.mp z)), cI_f u]
    rw [h.1.rcl]
    exact key _ h6
  · rw [cI_f (fun z => q ((h.1.vcl hM a).mp z)), cI_f q]
    exact ⟨h.th2 _, Or.inr ⟨rfl, th_s _ _⟩⟩
theorem lgc_lt {t : Int32} : (¬ (0 ≤ lg_cmp t.toInt64 2147483647)) ↔ t ≤ nI 2147483646 := by
  have e1 : t.toInt64.toInt = t.toInt := Int32.toInt_toInt64 t
  have e2 : (2147483647 : Int64).toInt = 2147483647 := rfl
  have e3 : (nI 2147483646).toInt = 2147483646 := nI_toInt (by decide)
  have hb := Int32.toInt_lt t
  rw [lg_cmp_ge, Int64.le_iff_toInt_le, e1, e2, Int32.le_iff_toInt_le, e3]
  constructor <;> intro z <;> omega
theorem iq_sg (h : IV c m) (a n t s : Int32) : csg c a n t s ↔ msg m a n t s := by
  unfold csg msg
  rw [h.1.vcl h.2.1.1 a, lgc_lt, lt0_iff, lt0_iff, Int32.not_lt]
  constructor
  · rintro ⟨⟨x1, x2, x3, x4, x5⟩, x6⟩; exact ⟨x1, ⟨x2, x3⟩, ⟨x4, x5⟩, x6.symm⟩
  · rintro ⟨x1, ⟨x2, x3⟩, ⟨x4, x5⟩, x6⟩; exact ⟨⟨x1, x2, x3, x4, x5⟩, x6.symm⟩
theorem mfk_sym (m : St) (a b : Nat) : mfk m a b ↔ mfk m b a := by
  unfold mfk
  rw [Nat.min_comm]
  exact ⟨Ne.symm, Ne.symm⟩
theorem iq_fp (h : IV c m) : cfp c (rd c 8 4) (rd c 8 4) = mfp m := by
  have hM := h.2.1.1
  have h6 := hM.1.1.2
  have eF : ∀ a b, a < 6 → b < 6 → (cI (cfk c a b) 1 0 : Nat) = cI (mfk m a b) 1 0 := by
    intro a b ha hb
    have := h.1.fkd hM ha hb
    by_cases u : mfk m a b
    · rw [cI_t (this.mpr u), cI_t u]
    · rw [cI_f (fun z => u (this.mp z)), cI_f u]
  have eS : ∀ a b, (cI (mfk m a b) 1 0 : Nat) = cI (mfk m b a) 1 0 := by
    intro a b
    by_cases u : mfk m b a
    · rw [cI_t ((mfk_sym m a b).mpr u), cI_t u]
    · rw [cI_f (fun z => u ((mfk_sym m a b).mp z)), cI_f u]
  unfold mfp
  rw [h.1.rcl]
  generalize rd m 15 1 = n at h6
  have s10 := eS 0 1
  have s20 := eS 0 2
  have s21 := eS 1 2
  have s30 := eS 0 3
  have s31 := eS 1 3
  have s32 := eS 2 3
  have s40 := eS 0 4
  have s41 := eS 1 4
  have s42 := eS 2 4
  have s43 := eS 3 4
  have s50 := eS 0 5
  have s51 := eS 1 5
  have s52 := eS 2 5
  have s53 := eS 3 5
  have s54 := eS 4 5
  rcases (show n = 0 ∨ n = 1 ∨ n = 2 ∨ n = 3 ∨ n = 4 ∨ n = 5 ∨ n = 6 by omega) with rfl | rfl | rfl | rfl | rfl | rfl | rfl <;> simp only [cfp, cfr1, sumN, cntP, Nat.reduceSub, Nat.reduceAdd, eF _ _ (by decide : (0:Nat) < 6) (by decide : (1:Nat) < 6), eF _ _ (by decide : (0:Nat) < 6) (by decide : (2:Nat) < 6), eF _ _ (by decide : (0:Nat) < 6) (by decide : (3:Nat) < 6), eF _ _ (by decide : (0:Nat) < 6) (by decide : (4:Nat) < 6), eF _ _ (by decide : (0:Nat) < 6) (by decide : (5:Nat) < 6), eF _ _ (by decide : (1:Nat) < 6) (by decide : (2:Nat) < 6), eF _ _ (by decide : (1:Nat) < 6) (by decide : (3:Nat) < 6), eF _ _ (by decide : (1:Nat) < 6) (by decide : (4:Nat) < 6), eF _ _ (by decide : (1:Nat) < 6) (by decide : (5:Nat) < 6), eF _ _ (by decide : (2:Nat) < 6) (by decide : (3:Nat) < 6), eF _ _ (by decide : (2:Nat) < 6) (by decide : (4:Nat) < 6), eF _ _ (by decide : (2:Nat) < 6) (by decide : (5:Nat) < 6), eF _ _ (by decide : (3:Nat) < 6) (by decide : (4:Nat) < 6), eF _ _ (by decide : (3:Nat) < 6) (by decide : (5:Nat) < 6), eF _ _ (by decide : (4:Nat) < 6) (by decide : (5:Nat) < 6)] <;> omega
end SIM9
