/-! the two parsers in step: what changes nothing, the start, a service -/
theorem PRL.cg {c c' m : St} (h : PRL c m) (h1 : c'.1 1 7 = c.1 1 7) (h2 : c'.1 1 8 = c.1 1 8) (h3 : c'.1 1 2 = c.1 1 2) (h4 : c'.1 2 4 = c.1 2 4) (h5 : c'.1 3 = c.1 3) (h6 : c'.2.1 4 = c.2.1 4) (h7 : c'.1 5 = c.1 5) (h8 : c'.1 6 = c.1 6) : PRL c' m := by
  obtain ⟨a1, a2, a3, a4, a5, F, ⟨f1, f2, f3, f4⟩, a6⟩ := h
  refine ⟨⟨h1.trans a1.1, h2.trans a1.2⟩, a2, PV_cg a3 h4 h3 h6, a4, by rw [h5]; exact a5, F, ⟨h6.trans f1, h7.trans f2, h8.trans f3, h4.trans f4⟩, ?_⟩
  rw [h5, rd_eq h3]
  exact a6
theorem PRL.mg {c m m' : St} (h : PRL c m) (hP : PI m') (hB : ∀ k, mB m' k = mB m k) (h1 : m'.1 15 27 = m.1 15 27) (h2 : m'.1 15 28 = m.1 15 28) (h3 : m'.1 15 29 = m.1 15 29) (h4 : m'.1 15 32 = m.1 15 32) (h5 : m'.1 15 33 = m.1 15 33) : PRL c m' := by
  obtain ⟨a1, a2, a3, a4, a5, F, a7, a6⟩ := h
  refine ⟨a1, ⟨h4.trans a2.1, h5.trans a2.2⟩, a3, hP, ?_, F, a7, ?_⟩
  · rw [show mB m' = mB m from funext hB, rd_eq h2]; exact a5
  · rw [rd_eq h1, rd_eq h2, h3]; exact a6
/-- a peek changes nothing -/
theorem PRL.pk {c m : St} (h : PRL c m) : PRL c (mpk m) := by
  obtain ⟨a1, a2, a3, a4, a5, F, a7, a6⟩ := h
  have hs := a4.sk
  obtain ⟨b1, b2, b3, -⟩ := AT_skip a5 a6
  have h9 := a4.2.1.2
  have e28 : rd (mpk m) 15 28 = rd m 15 28 := rd28_mpk m
  have e27' : (mpk m).1 15 27 = nI (msk m) := by
    unfold mpk
    rw [uv_idx _ _ _ _ (by decide), uv_same]
  have e27 : rd (mpk m) 15 27 = msk m := rd_of e27' (by have : msk m ≤ rd m 15 28 := b3; omega)
  refine ⟨a1, ⟨(mpk_o _ (by decide)).trans a2.1, (mpk_o _ (by decide)).trans a2.2⟩, a3, PI_mpk a4, ?_, F, a7, ?_⟩
  · rw [show mB (mpk m) = mB m from funext (mB_mpk m), e28]; exact a5
  · rw [e28, e27, mpk_o _ (by decide)]; exact b1
/-- behind an error -/
theorem ctK_e {c : St} (h : ¬ c.1 1 7 = 0) (k : Nat) : ctK c k = c := by
  unfold ctK
  rw [cfa_e h]
  rw [show (cI (kdH c = k) c c : St) = c from cI_a2 (Q := fun z : St => z = c) (fun _ => rfl) fun _ => rfl]
  exact ctt_e h
theorem ccN_e {c : St} (h : ¬ c.1 1 7 = 0) (lo hi : Int32) : ccN c lo hi = c := by
  unfold ccN
  rw [cfa_e h, cfa_e h]
  exact cI_a2 (Q := fun z : St => z = c) (fun _ => cI_a2 (Q := fun z : St => z = c) (fun _ => rfl) fun _ => rfl) fun _ => rfl
theorem ctN_e {c : St} (h : ¬ c.1 1 7 = 0) (lo hi : Int32) : ctN c lo hi = c := by
  unfold ctN
  rw [ccN_e h, ctt_e h]
theorem ERR.cg {c c' m : St} (h : ERR c m) (h1 : c'.1 1 7 = c.1 1 7) (h2 : c'.1 1 8 = c.1 1 8) : ERR c' m := ⟨h1.trans h.1, h2.trans h.2.1, by rw [h1]; exact h.2.2⟩
theorem ERR.mg {c m m' : St} (h : ERR c m) (h1 : m'.1 15 32 = m.1 15 32) (h2 : m'.1 15 33 = m.1 15 33) : ERR c m' := ⟨h.1.trans h1.symm, h.2.1.trans h2.symm, h.2.2⟩
theorem ERR.tK {c m : St} (h : ERR c m) (k : Nat) : ERR (ctK c k) m := by rw [ctK_e h.2.2]; exact h
theorem ERR.v1 {c m : St} (h : ERR c m) (lo hi : Int32) {j : Nat} (hj : j ≠ 7 ∧ j ≠ 8) : ERR (cv1 c lo hi j) m := by
  unfold cv1
  rw [ctN_e h.2.2]
  exact h.cg (uv_idx _ _ _ _ (Ne.symm hj.1)) (uv_idx _ _ _ _ (Ne.symm hj.2))
/-- the texts agree -/
def TX (c m : St) : Prop := ∀ k, k < 900 → c.1 3 k = b8 (m.1 31 k) ∧ vb (m.1 31 k) 255
theorem PRL_start {σ s : St} {e : Nat} (he : e ≤ 900) (hX : TX σ s) (h30 : nb s 15 30 900) : PRL (cbe σ e) (mopn s (nI e)) := by
  have c1 : ∀ j, (cbe σ e).1 1 j = (uv (uv (uv (uv σ 1 7 (nI 0)) 1 8 (-1)) 1 3 (nI 0)) 1 2 (nI 0)).1 1 j := fun j => by
    unfold cbe
    rw [csc_o _ _ (by decide)]
  have c3 : (cbe σ e).1 3 = σ.1 3 := by
    unfold cbe
    rw [csc_o _ _ (by decide)]
    rfl
  have o : ∀ j, j ≠ 26 ∧ j ≠ 27 ∧ j ≠ 28 ∧ j ≠ 29 ∧ j ≠ 32 ∧ j ≠ 33 → (mopn s (nI e)).1 15 j = s.1 15 j := fun j q => by
    unfold mopn
    rw [uv_idx _ _ _ _ (by omega), uv_idx _ _ _ _ (by omega), uv_idx _ _ _ _ (by omega), uv_idx _ _ _ _ (by omega), uv_idx _ _ _ _ (by omega), uv_idx _ _ _ _ (by omega)]
  have m28 : (mopn s (nI e)).1 15 28 = nI e := by
    unfold mopn
    rw [uv_idx _ _ _ _ (by decide), uv_idx _ _ _ _ (by decide), uv_idx _ _ _ _ (by decide), uv_idx _ _ _ _ (by decide), uv_idx _ _ _ _ (by decide), uv_same]
  have m27 : (mopn s (nI e)).1 15 27 = nI 0 := by
    unfold mopn
    rw [uv_idx _ _ _ _ (by decide), uv_idx _ _ _ _ (by decide), uv_idx _ _ _ _ (by decide), uv_idx _ _ _ _ (by decide), uv_same]
  have m29 : (mopn s (nI e)).1 15 29 = -1 := by
    unfold mopn
    rw [uv_idx _ _ _ _ (by decide), uv_idx _ _ _ _ (by decide), uv_idx _ _ _ _ (by decide), uv_same]
  have m32 : (mopn s (nI e)).1 15 32 = nI 0 := by
    unfold mopn
    rw [uv_idx _ _ _ _ (by decide), uv_idx _ _ _ _ (by decide), uv_same]
  have m33 : (mopn s (nI e)).1 15 33 = -1 := by
    unfold mopn
    rw [uv_idx _ _ _ _ (by decide), uv_same]
  have r28 : rd (mopn s (nI e)) 15 28 = e := rd_of m28 (by omega)
  have r27 : rd (mopn s (nI e)) 15 27 = 0 := rd_of m27 (by omega)
  have c12 : (cbe σ e).1 1 2 = nI 0 := (c1 2).trans (uv_same _ _ _ _)
  have r2 : rd (cbe σ e) 1 2 = 0 := rd_of c12 (by omega)
  refine ⟨⟨?_, ?_⟩, ⟨m32, m33⟩, PV_cbe σ he, PI_of m27 m28 ((o 30 (by decide)).trans h30.1) (Nat.zero_le _) he h30.2, ?_, cbe σ e, ⟨rfl, rfl, rfl, rfl⟩, ?_⟩
  · rw [c1, uv_idx _ _ _ _ (by decide), uv_idx _ _ _ _ (by decide), uv_idx _ _ _ _ (by decide), uv_same]
  · rw [c1, uv_idx _ _ _ _ (by decide), uv_idx _ _ _ _ (by decide), uv_same]
  · rw [c3, r28]
    refine ⟨fun k hk => ?_, fun k hk => mB_end (by rw [r28]; exact hk)⟩
    have e1 : mB (mopn s (nI e)) k = s.1 31 k := by
      unfold mB
      rw [if_pos (by rw [r28]; exact hk)]
      rfl
    rw [e1]
    exact hX k (by omega)
  · rw [c3, r28, r27, r2, m29]
    exact ⟨e, uv (uv (uv (uv (uv σ 1 7 (nI 0)) 1 8 (-1)) 1 3 (nI 0)) 1 2 (nI 0)) 2 4 (nI 0), by omega, Nat.le_refl _, Nat.zero_le _, uv_same _ _ _ _, rfl, rfl⟩
/-- a number of the service -/
theorem prs_V {c m : St} (h : PRL c m) (lo hi : Int32) {j l : Nat} (hj : j = 4 ∨ j = 5 ∨ j = 6) (hl : l = 35 ∨ l = 36 ∨ l = 37) :
    (pN m lo hi ∧ PRL (cv1 c lo hi j) (uv (sN m lo hi) 15 l ((sN m lo hi).1 15 31)) ∧ (cv1 c lo hi j).1 1 j = (uv (sN m lo hi) 15 l ((sN m lo hi).1 15 31)).1 15 l) ∨ (¬ pN m lo hi ∧ ERR (cv1 c lo hi j) (sN m lo hi)) := by
  rcases prs_N h lo hi with ⟨p, q, r1, r2, -⟩ | ⟨p, q, -⟩
  · refine Or.inl ⟨p, ?_, ?_⟩
    · unfold cv1
      refine PRL.mg (PRL.cg q (uv_idx _ _ _ _ (by omega)) (uv_idx _ _ _ _ (by omega)) (uv_idx _ _ _ _ (by omega)) (uv_cell _ _ _ _ (by decide)) (uv_fun _ _ _ (by decide)) rfl (uv_fun _ _ _ (by decide)) (uv_fun _ _ _ (by decide))) (PI_hi q.2.2.2.1 _ (by omega)) (fun k => ?_) (uv_idx _ _ _ _ (by omega)) (uv_idx _ _ _ _ (by omega)) (uv_idx _ _ _ _ (by omega)) (uv_idx _ _ _ _ (by omega)) (uv_idx _ _ _ _ (by omega))
      exact mB_cg (uv_idx _ _ _ _ (by omega)) (fun k => uv_cell _ _ _ _ (by decide)) k
    · unfold cv1
      rw [uv_same, uv_same, r1, r2]
  · refine Or.inr ⟨p, ?_⟩
    unfold cv1
    exact q.cg (uv_idx _ _ _ _ (by omega)) (uv_idx _ _ _ _ (by omega))
/-- a service -/
def SR (C M : St) (p : Prop) : Prop := (p ∧ (C.1 1 7 = nI 0 ∧ C.1 1 8 = -1) ∧ (M.1 15 32 = nI 0 ∧ M.1 15 33 = -1) ∧ C.1 1 4 = M.1 15 35 ∧ C.1 1 5 = M.1 15 36 ∧ C.1 1 6 = M.1 15 37) ∨ (¬ p ∧ ERR C M)
theorem SR_n {C s : St} {p : Prop} {f : St → Prop × St} (h : ¬ p) (q : ERR C s) : SR C (sq p s f).2 (sq p s f).1 := Or.inr ⟨fun z => h z.1, by rw [(sq_n h).2]; exact q⟩
theorem SR_y {C s : St} {p : Prop} {f : St → Prop × St} (h : p) (q : SR C (f s).2 (f s).1) : SR C (sq p s f).2 (sq p s f).1 := by rw [sq_yy h]; exact q
theorem cv1_o (c : St) (lo hi : Int32) {j i : Nat} (h : i ≠ j) (h2 : i ≠ 2 ∧ i ≠ 7 ∧ i ≠ 8) : (cv1 c lo hi j).1 1 i = c.1 1 i := (uv_idx _ _ _ _ h).trans ((PX_ctN c lo hi).1 1 i (by omega))
theorem ctK_o (c : St) (k : Nat) {i : Nat} (h2 : i ≠ 2 ∧ i ≠ 7 ∧ i ≠ 8) : (ctK c k).1 1 i = c.1 1 i := (PX_ctK c k).1 1 i (by omega)
theorem prs_srv {c m : St} (h : PRL c m) : SR (ctK (ctK (cv1 (ctK (cv1 (ctK (cv1 (ctK c 4) (nI 2) (nI 6) 4) 5) (nI 1) (nI 16) 5) 6) (nI 1) (nI 50) 6) 2) 0) (mSrv m).2 (mSrv m).1 := by
  unfold mSrv
  rcases prs_T h (k := 4) (by decide) (by decide) (W := 3633494675) (by decide) with ⟨p, q⟩ | ⟨p, q⟩
  case inr => exact SR_n p (((((((q.v1 _ _ (by decide)).tK _).v1 _ _ (by decide)).tK _).v1 _ _ (by decide)).tK _).tK _)
  refine SR_y p ?_
  clear h p
  generalize ctK c 4 = c1 at q ⊢
  generalize sT m 3633494675 = m1 at q ⊢
  rcases prs_V q (nI 2) (nI 6) (j := 4) (l := 35) (by decide) (by decide) with ⟨p, q1, k1⟩ | ⟨p, q1⟩
  case inr => exact SR_n p ((((((q1.tK _).v1 _ _ (by decide)).tK _).v1 _ _ (by decide)).tK _).tK _)
  refine SR_y p ?_
  clear q p
  generalize uv (sN m1 (nI 2) (nI 6)) 15 35 ((sN m1 (nI 2) (nI 6)).1 15 31) = m2 at q1 k1 ⊢
  generalize cv1 c1 (nI 2) (nI 6) 4 = c2 at q1 k1 ⊢
  rcases prs_T q1 (k := 5) (by decide) (by decide) (W := 80186739) (by decide) with ⟨p, q⟩ | ⟨p, q⟩
  case inr => exact SR_n p (((((q.v1 _ _ (by decide)).tK _).v1 _ _ (by decide)).tK _).tK _)
  refine SR_y p ?_
  have k2 : (ctK c2 5).1 1 4 = (sT m2 80186739).1 15 35 := by rw [ctK_o _ _ (by decide), (LX_sT m2 _).1 15 35 (by omega)]; exact k1
  clear q1 p k1
  generalize ctK c2 5 = c3 at q k2 ⊢
  generalize sT m2 80186739 = m3 at q k2 ⊢
  rcases prs_V q (nI 1) (nI 16) (j := 5) (l := 36) (by decide) (by decide) with ⟨p, q1, k1⟩ | ⟨p, q1⟩
  case inr => exact SR_n p ((((q1.tK _).v1 _ _ (by decide)).tK _).tK _)
  refine SR_y p ?_
  have k3 : (cv1 c3 (nI 1) (nI 16) 5).1 1 4 = (uv (sN m3 (nI 1) (nI 16)) 15 36 ((sN m3 (nI 1) (nI 16)).1 15 31)).1 15 35 := by rw [cv1_o _ _ _ (by decide) (by decide), uv_idx _ _ _ _ (by decide), (LX_sN m3 _ _).1 15 35 (by omega)]; exact k2
  clear q p k2
  generalize uv (sN m3 (nI 1) (nI 16)) 15 36 ((sN m3 (nI 1) (nI 16)).1 15 31) = m4 at q1 k1 k3 ⊢
  generalize cv1 c3 (nI 1) (nI 16) 5 = c4 at q1 k1 k3 ⊢
  rcases prs_T q1 (k := 6) (by decide) (by decide) (W := 25019487859) (by decide) with ⟨p, q⟩ | ⟨p, q⟩
  case inr => exact SR_n p (((q.v1 _ _ (by decide)).tK _).tK _)
  refine SR_y p ?_
  have k4 : (ctK c4 6).1 1 4 = (sT m4 25019487859).1 15 35 := by rw [ctK_o _ _ (by decide), (LX_sT m4 _).1 15 35 (by omega)]; exact k3
  have k5 : (ctK c4 6).1 1 5 = (sT m4 25019487859).1 15 36 := by rw [ctK_o _ _ (by decide), (LX_sT m4 _).1 15 36 (by omega)]; exact k1
  clear q1 p k1 k3
  generalize ctK c4 6 = c5 at q k4 k5 ⊢
  generalize sT m4 25019487859 = m5 at q k4 k5 ⊢
  rcases prs_V q (nI 1) (nI 50) (j := 6) (l := 37) (by decide) (by decide) with ⟨p, q1, k6⟩ | ⟨p, q1⟩
  case inr => exact SR_n p ((q1.tK _).tK _)
  refine SR_y p ?_
  have k7 : (cv1 c5 (nI 1) (nI 50) 6).1 1 4 = (uv (sN m5 (nI 1) (nI 50)) 15 37 ((sN m5 (nI 1) (nI 50)).1 15 31)).1 15 35 := by rw [cv1_o _ _ _ (by decide) (by decide), uv_idx _ _ _ _ (by decide), (LX_sN m5 _ _).1 15 35 (by omega)]; exact k4
  have k8 : (cv1 c5 (nI 1) (nI 50) 6).1 1 5 = (uv (sN m5 (nI 1) (nI 50)) 15 37 ((sN m5 (nI 1) (nI 50)).1 15 31)).1 15 36 := by rw [cv1_o _ _ _ (by decide) (by decide), uv_idx _ _ _ _ (by decide), (LX_sN m5 _ _).1 15 36 (by omega)]; exact k5
  clear q p k4 k5
  generalize uv (sN m5 (nI 1) (nI 50)) 15 37 ((sN m5 (nI 1) (nI 50)).1 15 31) = m6 at q1 k6 k7 k8 ⊢
  generalize cv1 c5 (nI 1) (nI 50) 6 = c6 at q1 k6 k7 k8 ⊢
  rcases prs_S q1 with ⟨p, q⟩ | ⟨p, q⟩
  case inr => exact SR_n p (q.tK _)
  refine SR_y p ?_
  have o : ∀ i, i = 4 ∨ i = 5 ∨ i = 6 → (ctK (ctK c6 2) 0).1 1 i = c6.1 1 i := fun i z => (ctK_o _ _ (by omega)).trans (ctK_o _ _ (by omega))
  have o2 : ∀ i, i = 35 ∨ i = 36 ∨ i = 37 → (mPk (sS m6)).2.1 15 i = m6.1 15 i := fun i z => ((LX_mPk (sS m6)).1 15 i (by omega)).trans ((LX_sS m6).1 15 i (by omega))
  rcases prs_E q with ⟨y1, y2, y3⟩ | ⟨y1, y2⟩
  · refine Or.inl ⟨y1, y2, y3, ?_, ?_, ?_⟩
    · rw [o _ (by decide), o2 _ (by decide)]; exact k7
    · rw [o _ (by decide), o2 _ (by decide)]; exact k8
    · rw [o _ (by decide), o2 _ (by decide)]; exact k6
  · exact Or.inr ⟨y1, y2⟩
theorem prs_cpv {σ s : St} {e : Nat} (he : e ≤ 900) (hX : TX σ s) (h30 : nb s 15 30 900) : SR (cpv σ e) (mSrv (mopn s (nI e))).2 (mSrv (mopn s (nI e))).1 := prs_srv (PRL_start he hX h30)
