/-! each operation keeps class and reference together -/
def IV (c m : St) : Prop := Sim (rd m 15 1 ≠ 0) c m ∧ MJ m ∧ MV m ∧ MA m (rd m 15 4)
def OC (rc Rm th : Int32) (t1 t2 t3 : Nat) : Prop := (rc = Rm ∧ 0 ≤ rc ∧ th = nI 0) ∨ (t1 ≠ 0 ∧ rc = -1 ∧ th = nI t1) ∨ (t2 ≠ 0 ∧ rc = -2 ∧ th = nI t2) ∨ (t3 ≠ 0 ∧ rc = -3 ∧ th = nI t3)
theorem nI_ge0 (n : Nat) (h : n < 2 ^ 31) : (0 : Int32) ≤ nI n := (nI_z h).2.2.1.mpr trivial
theorem moS_0 (m : St) (q : Nat) (kd w v : Int32) : (moS m q kd w v).1 15 0 = m.1 15 0 ∧ (moS m q kd w v).1 15 4 = m.1 15 4 := by
  have key : ∀ j, j = 0 ∨ j = 4 → (moS m q kd w v).1 15 j = m.1 15 j := by
    intro j hj
    have e1 : (mo1 m q).1 15 j = m.1 15 j := by unfold mo1; rw [uv_idx _ _ _ _ (by omega)]
    have e3 : (mo3 m q kd w v).1 15 j = m.1 15 j := by
      unfold mo3 mo2
      rw [uv_cell _ _ _ _ (by decide), mtk_o _ _ _ _ (by omega), mapp_o _ _ _ _ _ _ _ _ (by omega), e1]
    unfold moS
    refine cI_a2 (Q := fun z : St => z.1 15 j = m.1 15 j) (fun _ => cI_a2 (Q := fun z : St => z.1 15 j = m.1 15 j) (fun _ => cI_a2 (Q := fun z : St => z.1 15 j = m.1 15 j) (fun _ => e1) fun _ => cI_a2 (Q := fun z : St => z.1 15 j = m.1 15 j) (fun _ => (mpst_o _ _ _ (by omega)).trans e3) fun _ => e3) fun _ => ?_) fun _ => rfl
    unfold msus
    rw [uv_cell _ _ _ _ (by decide)]
    split
    · rw [mblm_o _ _ _ _ _ _ _ _ (by omega), e1]
    · split
      · rw [mblm_o _ _ _ _ _ _ _ _ (by omega), e1]
      · split
        · rw [mblm_o _ _ _ _ _ _ _ _ (by omega), e1]
        · rw [mblm_o _ _ _ _ _ _ _ _ (by omega), e1]
  exact ⟨key 0 (Or.inl rfl), key 4 (Or.inr rfl)⟩
theorem MA_oS {m : St} {q : Nat} (hJ : MJ m) (hA : MA m (rd m 15 4)) (hq : q < rd m 15 1) (kd w v : Int32) : MA (moS m q kd w v) (rd m 15 4) := by
  have h6 := hJ.1.1.1.2
  have h8 := hJ.1.1.2.2.2.1.2
  have hs := hJ.2 q hq
  have hl := (hJ.1.len (b := rd m 23 q) (by omega)).2
  have a1 : MA (mo1 m q) (rd m 15 4) := MA_same hA (uv_idx _ _ _ _ (by decide)) (fun _ _ => uv_cell _ _ _ _ (by decide)) (fun _ => uv_cell _ _ _ _ (by decide)) (fun _ => uv_cell _ _ _ _ (by decide))
  have e1 : rd (mo1 m q) 15 1 = rd m 15 1 := rd_idx _ _ _ _ (by decide)
  have er : ∀ b, rd (mo1 m q) 16 b = rd m 16 b := fun b => rd_uv (by decide) _ _ _ _
  have o : ∀ {s s' : St}, MA s (rd m 15 4) → (∀ a x, (a = 15 ∧ x = 1) ∨ a = 16 ∨ a = 18 ∨ a = 26 → s'.1 a x = s.1 a x) → MA s' (rd m 15 4) := fun h z => MA_same h (z _ _ (by omega)) (fun _ _ => z _ _ (by omega)) (fun _ => z _ _ (by omega)) (fun _ => z _ _ (by omega))
  unfold moS
  refine cI_a2 (Q := fun z : St => MA z (rd m 15 4)) (fun _ => cI_a2 (Q := fun z : St => MA z (rd m 15 4)) (fun _ => cI_a2 (Q := fun z : St => MA z (rd m 15 4)) (fun _ => a1) fun q3 => ?_) fun _ => ?_) fun _ => hA
  · have a2 : MA (mapp (mo1 m q) (rd m 23 q) kd (nI q) w v (nI 0)) (rd m 15 4) := MA_app a1 hs h8 (by rw [er]; omega) (fun b hb => by rw [er]; exact (hJ.1.len (by omega)).2) _ _ _ _ (Or.inr ⟨q, by rw [e1]; exact hq, rfl⟩)
    have a3 : MA (mo2 m q kd w v) (rd m 15 4) := MA_tk a2 hs (by omega) (by unfold rd; rw [mapp_o _ _ _ _ _ _ _ _ (by omega)]; rw [show (mo1 m q).1 15 1 = m.1 15 1 from uv_idx _ _ _ _ (by decide)]; exact h6)
    have a4 : MA (mo3 m q kd w v) (rd m 15 4) := o a3 (fun a x z => by unfold mo3; rw [uv_cell _ _ _ _ (by omega)])
    exact cI_a2 (Q := fun z : St => MA z (rd m 15 4)) (fun _ => o a4 (fun a x z => mpst_o _ _ _ (by omega))) fun _ => a4
  · refine o a1 (fun a x z => ?_)
    unfold msus
    rw [uv_cell _ _ _ _ (by omega)]
    split
    · exact mblm_o _ _ _ _ _ _ _ _ (by omega)
    · split
      · exact mblm_o _ _ _ _ _ _ _ _ (by omega)
      · split
        · exact mblm_o _ _ _ _ _ _ _ _ (by omega)
        · exact mblm_o _ _ _ _ _ _ _ _ (by omega)
section SIM4
variable {c m : St}
/-- IV behind an operation, out of its pieces -/
theorem IV_of {c' m' : St} (h : IV c m) (hK : MK m m') (hS : Sim (rd m 15 1 ≠ 0) c' m') (hV : MV m') (hA : MA m' (rd m' 15 4)) : IV c' m' := by
  have e : rd m' 15 1 = rd m 15 1 := by unfold rd; rw [hK.2.1 15 1 (by omega)]
  exact ⟨hS.mono (fun z => by rw [← e]; exact z), hK.1, hV, hA⟩
theorem IV.th (h : IV c m) (v : Int32) : IV c (uv m 15 0 v) := by
  have e4 : rd (uv m 15 0 v) 15 4 = rd m 15 4 := rd_idx _ _ _ _ (by decide)
  refine IV_of h (MK_0 h.2.1 v) (h.1.m15 v (by omega)) (MV_same h.2.2.1 (fun i => uv_cell _ _ _ _ (by decide))) ?_
  rw [e4]
  exact MA_same h.2.2.2 (uv_idx _ _ _ _ (by decide)) (fun _ _ => uv_cell _ _ _ _ (by decide)) (fun _ => uv_cell _ _ _ _ (by decide)) (fun _ => uv_cell _ _ _ _ (by decide))
theorem IV.th2 (h : IV c m) (v : Int32) : IV c (uv (m0 m) 15 0 v) := (h.th _).th v
theorem th_s (m : St) (v : Int32) : (uv m 15 0 v).1 15 0 = v := uv_same _ _ _ _
theorem IV.oS (h : IV c m) {q : Nat} (hq : q < rd m 15 1) (kd w : Int32) {v : Int32} (hv : vb v 999999) : IV (coS c q kd w v) (moS (m0 m) q kd w v) := by
  have h6 := h.2.1.1.1.1.2
  have h0 := h.th (nI 0)
  have e1 : rd (m0 m) 15 1 = rd m 15 1 := rd_idx _ _ _ _ (by decide)
  have e3 : rd (m0 m) 15 3 = rd m 15 3 := rd_idx _ _ _ _ (by decide)
  have e4 : rd (m0 m) 15 4 = rd m 15 4 := rd_idx _ _ _ _ (by decide)
  have hn : rd m 15 1 ≠ 0 := by omega
  obtain ⟨s1, s2⟩ := (h.1.m15 (x := 0) (nI 0) (by omega)).oS hn h0.2.1.1 h0.2.2.1 (by rw [e3]; exact h.2.1.1.2.2.2.2.2.2.1 hn) (q := q) (by omega) kd w hv
  have e5 : rd (moS (m0 m) q kd w v) 15 4 = rd (m0 m) 15 4 := by unfold rd; rw [(moS_0 (m0 m) q kd w v).2]
  refine IV_of h (MK_mop h.2.1 (by omega) kd w v) s1 s2 ?_
  rw [e5]
  exact MA_oS h0.2.1 h0.2.2.2 (by rw [e1]; exact hq) kd w v
theorem in_vb {v : Int32} (h : nI 0 ≤ v ∧ v ≤ nI 999999) : vb v 999999 := by
  obtain ⟨a, -, b⟩ := in_n (by decide) (by decide) h.1 h.2
  exact ⟨a, b⟩
theorem vb_ge0 {v : Int32} {n : Nat} (h : vb v n) (hn : n < 2 ^ 31) : 0 ≤ v := by
  rw [h.1]
  exact nI_ge0 _ (by have := h.2; omega)
theorem lt0_iff (v : Int32) : (¬ v < 0) ↔ nI 0 ≤ v := by rw [nI_0]; exact Int32.not_lt
theorem iv_wr (h : IV c m) (a w v : Int32) : IV (cwr c a w v).2 (mwr m a w v).2 ∧ OC (cwr c a w v).1 (mwr m a w v).1 ((mwr m a w v).2.1 15 0) 1 2 3 := by
  have hM := h.2.1.1
  unfold cwr mwr
  by_cases q1 : vlt (m.1 15 1) a ∧ vlt (m.1 15 2) w
  · rw [cI_t (show vl2 (nI (rd c 8 4)) a ∧ vl2 (nI (rd c 8 5)) w from ⟨(h.1.vcl hM a).mpr q1.1, (h.1.vbk hM w).mpr q1.2⟩), cI_t q1]
    obtain ⟨c1, c2, c3⟩ := hM.cl q1.1
    by_cases q2 : nI 0 ≤ v ∧ v ≤ nI 999999
    · rw [cI_t (show ¬ v < 0 ∧ v ≤ nI 999999 from ⟨(lt0_iff v).mpr q2.1, q2.2⟩), cI_t q2]
      have hv := in_vb q2
      have h0 := h.th (nI 0)
      have s := h.oS c2 (nI 1) w hv
      have ok := (h.1.m15 (x := 0) (nI 0) (by omega)).ok h0.2.1.1 h0.2.2.1 (q := cn a) (by omega)
      by_cases q3 : mokP (m0 m) (cn a)
      · rw [cI_t (ok.mpr q3), cI_t q3]
        have hp := s.2.1.1.pos (c := cn a) (by omega)
        have hp2 := hp.2
        refine ⟨s, Or.inl ⟨s.1.pos (by omega), ?_, ?_⟩⟩
        · show 0 ≤ (coS c (cn a) (nI 1) w v).1 (90 + 3 * cn a) 2
          rw [s.1.pos (by omega), hp.1]
          exact nI_ge0 _ (by omega)
        · show (moS (m0 m) (cn a) (nI 1) w v).1 15 0 = nI 0
          rw [(moS_0 _ _ _ _ _).1]
          exact th_s _ _
      · rw [cI_f (fun z => q3 (ok.mp z)), cI_f q3]
        exact ⟨s.th _, Or.inr (Or.inr (Or.inr ⟨by decide, rfl, th_s _ _⟩))⟩
    · rw [cI_f (fun z => q2 ⟨(lt0_iff v).mp z.1, z.2⟩), cI_f q2]
      exact ⟨h.th2 _, Or.inr (Or.inr (Or.inl ⟨by decide, rfl, th_s _ _⟩))⟩
  · rw [cI_f (fun z => q1 ⟨(h.1.vcl hM a).mp z.1, (h.1.vbk hM w).mp z.2⟩), cI_f q1]
    exact ⟨h.th2 _, Or.inr (Or.inl ⟨by decide, rfl, th_s _ _⟩)⟩
theorem iv_rd (h : IV c m) (a w : Int32) : IV (crd c a w).2 (mrd m a w).2 ∧ OC (crd c a w).1 (mrd m a w).1 ((mrd m a w).2.1 15 0) 1 0 2 := by
  have hM := h.2.1.1
  unfold crd mrd
  by_cases q1 : vlt (m.1 15 1) a ∧ vlt (m.1 15 2) w
  · rw [cI_t (show vl2 (nI (rd c 8 4)) a ∧ vl2 (nI (rd c 8 5)) w from ⟨(h.1.vcl hM a).mpr q1.1, (h.1.vbk hM w).mpr q1.2⟩), cI_t q1]
    obtain ⟨c1, c2, c3⟩ := hM.cl q1.1
    have h0 := h.th (nI 0)
    have s := h.oS c2 (nI 0) w (v := nI 0) (vb_nI (by decide) (by decide))
    have ok := (h.1.m15 (x := 0) (nI 0) (by omega)).ok h0.2.1.1 h0.2.2.1 (q := cn a) (by omega)
    by_cases q3 : mokP (m0 m) (cn a)
    · rw [cI_t (ok.mpr q3), cI_t q3]
      have hs := (s.2.1.1.see (c := cn a) (by omega)).2
      have hl := (s.2.1.1.len (b := rd (moS (m0 m) (cn a) (nI 0) w (nI 0)) 23 (cn a)) (by omega)).2
      have e : cval (coS c (cn a) (nI 0) w (nI 0)) (rd (coS c (cn a) (nI 0) w (nI 0)) (90 + 3 * cn a) 3) w (rd (coS c (cn a) (nI 0) w (nI 0)) (34 + 7 * (rd (coS c (cn a) (nI 0) w (nI 0)) (90 + 3 * cn a) 3)) 6) = mval (moS (m0 m) (cn a) (nI 0) w (nI 0)) (rd (moS (m0 m) (cn a) (nI 0) w (nI 0)) 23 (cn a)) w (rd (moS (m0 m) (cn a) (nI 0) w (nI 0)) 16 (rd (moS (m0 m) (cn a) (nI 0) w (nI 0)) 23 (cn a))) := by
        rw [s.1.rsee (by omega), s.1.rlen (by omega)]
        exact s.1.val (by omega) w _ hl
      refine ⟨s, Or.inl ⟨e, ?_, ?_⟩⟩
      · show 0 ≤ cval _ _ _ _
        rw [e]
        exact vb_ge0 (mval_vb s.2.2.1 (by omega) w _ hl) (by decide)
      · show (moS (m0 m) (cn a) (nI 0) w (nI 0)).1 15 0 = nI 0
        rw [(moS_0 _ _ _ _ _).1]
        exact th_s _ _
    · rw [cI_f (fun z => q3 (ok.mp z)), cI_f q3]
      exact ⟨s.th _, Or.inr (Or.inr (Or.inr ⟨by decide, rfl, th_s _ _⟩))⟩
  · rw [cI_f (fun z => q1 ⟨(h.1.vcl hM a).mp z.1, (h.1.vbk hM w).mp z.2⟩), cI_f q1]
    exact ⟨h.th2 _, Or.inr (Or.inl ⟨by decide, rfl, th_s _ _⟩)⟩
/-- a state that differs from m in places that MA and MV don't speak of -/
theorem MAV {m m' : St} (h1 : MV m) (h2 : MA m (rd m 15 4)) (z : ∀ a x, (a = 15 ∧ (x = 1 ∨ x = 4)) ∨ a = 16 ∨ a = 18 ∨ a = 20 ∨ a = 26 → m'.1 a x = m.1 a x) : MV m' ∧ MA m' (rd m' 15 4) := by
  have e : rd m' 15 4 = rd m 15 4 := by unfold rd; rw [z 15 4 (by omega)]
  rw [e]
  exact ⟨MV_same h1 (fun i => z _ _ (by omega)), MA_same h2 (z _ _ (by omega)) (fun _ _ => z _ _ (by omega)) (fun _ => z _ _ (by omega)) (fun _ => z _ _ (by omega))⟩
theorem iv_po (h : IV c m) (a : Int32) : IV (cpo c a).2 (mpo m a).2 ∧ OC (cpo c a).1 (mpo m a).1 ((mpo m a).2.1 15 0) 1 0 0 := by
  have hM := h.2.1.1
  have hK := MK_mpo h.2.1 a
  unfold cpo mpo at *
  by_cases q1 : vlt (m.1 15 1) a
  · rw [cI_t ((h.1.vcl hM a).mpr q1), cI_t q1]
    rw [cI_t q1] at hK
    obtain ⟨c1, c2, c3⟩ := hM.cl q1
    have h0 := h.th (nI 0)
    have s : Sim (rd m 15 1 ≠ 0) (cps c (cn a)) (mpst (m0 m) (cn a)) := (h.1.m15 (x := 0) (nI 0) (by omega)).pstP (by omega) h0.2.1.1 (by omega)
    obtain ⟨v1, v2⟩ := MAV (m' := mpst (m0 m) (cn a)) h0.2.2.1 h0.2.2.2 (fun a x z => mpst_o _ _ _ (by omega))
    have hp := hK.1.1.posts
    have hp2 := hp.2
    refine ⟨IV_of h hK s v1 v2, Or.inl ⟨s.nps, ?_, ?_⟩⟩
    · show 0 ≤ (cps c (cn a)).1 13 3
      rw [s.nps, hp.1]
      exact nI_ge0 _ (by omega)
    · show (mpst (m0 m) (cn a)).1 15 0 = nI 0
      rw [mpst_o _ _ _ (by omega)]
      exact th_s _ _
  · rw [cI_f (fun z => q1 ((h.1.vcl hM a).mp z)), cI_f q1]
    exact ⟨h.th2 _, Or.inr (Or.inl ⟨by decide, rfl, th_s _ _⟩)⟩
theorem iv_mv (h : IV c m) (a b : Int32) : IV (cmv c a b).2 (mmv m a b).2 ∧ OC (cmv c a b).1 (mmv m a b).1 ((mmv m a b).2.1 15 0) 1 0 0 := by
  have hM := h.2.1.1
  have hK := MK_mmv h.2.1 a b
  unfold cmv mmv at *
  by_cases q1 : vlt (m.1 15 1) a ∧ vlt (m.1 15 4) b
  · rw [cI_t (show vl2 (nI (rd c 8 4)) a ∧ vl2 (nI (rd c 8 6)) b from ⟨(h.1.vcl hM a).mpr q1.1, (h.1.vbr hM b).mpr q1.2⟩), cI_t q1]
    rw [cI_t q1] at hK
    obtain ⟨c1, c2, c3⟩ := hM.cl q1.1
    have h0 := h.th (nI 0)
    have s : Sim (rd m 15 1 ≠ 0) (uv c (90 + 3 * cn a) 3 b) (uv (m0 m) 23 (cn a) b) := (h.1.m15 (x := 0) (nI 0) (by omega)).put b (Cor.see (by omega))
    obtain ⟨v1, v2⟩ := MAV (m' := uv (m0 m) 23 (cn a) b) h0.2.2.1 h0.2.2.2 (fun a x z => uv_cell _ _ _ _ (by omega))
    have hp := hM.see (c := cn a) (by omega)
    have hp2 := hp.2
    refine ⟨IV_of h hK s v1 v2, Or.inl ⟨h.1.see (by omega), ?_, ?_⟩⟩
    · show 0 ≤ c.1 (90 + 3 * cn a) 3
      rw [h.1.see (by omega), hp.1]
      exact nI_ge0 _ (by omega)
    · show (uv (m0 m) 23 (cn a) b).1 15 0 = nI 0
      rw [uv_cell _ _ _ _ (by decide)]
      exact th_s _ _
  · rw [cI_f (fun z => q1 ⟨(h.1.vcl hM a).mp z.1, (h.1.vbr hM b).mp z.2⟩), cI_f q1]
    exact ⟨h.th2 _, Or.inr (Or.inl ⟨by decide, rfl, th_s _ _⟩)⟩
theorem iv_rw (h : IV c m) (b n : Int32) : IV (crw c b n).2 (mrw m b n).2 ∧ OC (crw c b n).1 (mrw m b n).1 ((mrw m b n).2.1 15 0) 1 2 0 := by
  have hM := h.2.1.1
  have hK := MK_mrw h.2.1 b n
  unfold crw mrw at *
  by_cases q1 : vlt (m.1 15 4) b
  · rw [cI_t ((h.1.vbr hM b).mpr q1), cI_t q1]
    rw [cI_t q1] at hK
    obtain ⟨c1, c2, c3⟩ := hM.br q1
    have hl := hM.len (b := cn b) (by omega)
    have hl2 := hl.2
    rw [h.1.len (b := cn b) (by omega)]
    by_cases q2 : nI 1 ≤ n ∧ n ≤ m.1 16 (cn b)
    · rw [cI_t (show ¬ n < nI 1 ∧ n ≤ m.1 16 (cn b) from ⟨Int32.not_lt.mpr q2.1, q2.2⟩), cI_t q2]
      rw [cI_t q2] at hK
      obtain ⟨e1, e2, e3⟩ := in_n (by decide) (by omega) q2.1 (hl.1 ▸ q2.2)
      have e : m.1 16 (cn b) - n = nI (rd m 16 (cn b) - cn n) := (congr (congrArg HSub.hSub hl.1) e1).trans (pk_sub e3)
      have h0 := h.th (nI 0)
      have s : Sim (rd m 15 1 ≠ 0) (uv c (34 + 7 * cn b) 6 (m.1 16 (cn b) - n)) (uv (m0 m) 16 (cn b) (m.1 16 (cn b) - n)) := (h.1.m15 (x := 0) (nI 0) (by omega)).put _ (Cor.size (by omega))
      have r4 : rd (uv (m0 m) 16 (cn b) (m.1 16 (cn b) - n)) 15 4 = rd m 15 4 := (rd_uv (by decide) _ _ _ _).trans (rd_idx _ _ _ _ (by decide))
      have r1 : rd (uv (m0 m) 16 (cn b) (m.1 16 (cn b) - n)) 15 1 = rd m 15 1 := (rd_uv (by decide) _ _ _ _).trans (rd_idx _ _ _ _ (by decide))
      refine ⟨IV_of h hK s (MV_same h0.2.2.1 (fun i => uv_cell _ _ _ _ (by decide))) ?_, Or.inl ⟨rfl, ?_, ?_⟩⟩
      · rw [r4]
        refine ⟨fun b2 hb2 k hk => ?_, fun q j hq hj hj2 => ?_⟩
        · rw [uv_cell _ _ _ _ (by decide), r1]
          have hA := h.2.2.2.1 b2 hb2 k
          rw [uv_cell _ _ _ _ (by decide)]
          refine hA ?_
          by_cases z : b2 = cn b
          · subst z
            have : rd (uv (m0 m) 16 (cn b) (m.1 16 (cn b) - n)) 16 (cn b) = rd m 16 (cn b) - cn n := rd_of ((uv_same _ _ _ _).trans e) (by omega)
            rw [this] at hk
            omega
          · have : rd (uv (m0 m) 16 (cn b) (m.1 16 (cn b) - n)) 16 b2 = rd m 16 b2 := (rd_idx _ _ _ _ z).trans (rd_uv (by decide) _ _ _ _)
            rw [this] at hk
            exact hk
        · rw [r1] at hj
          rw [uv_cell _ _ _ _ (by decide), uv_cell _ _ _ _ (by decide)]
          exact h.2.2.2.2 q j hq hj hj2
      · show 0 ≤ m.1 16 (cn b) - n
        rw [e]
        exact nI_ge0 _ (by omega)
      · show (uv (m0 m) 16 (cn b) (m.1 16 (cn b) - n)).1 15 0 = nI 0
        rw [uv_cell _ _ _ _ (by decide)]
        exact th_s _ _
    · rw [cI_f (fun z => q2 ⟨Int32.not_lt.mp z.1, z.2⟩), cI_f q2]
      exact ⟨h.th2 _, Or.inr (Or.inr (Or.inl ⟨by decide, rfl, th_s _ _⟩))⟩
  · rw [cI_f (fun z => q1 ((h.1.vbr hM b).mp z)), cI_f q1]
    exact ⟨h.th2 _, Or.inr (Or.inl ⟨by decide, rfl, th_s _ _⟩)⟩
theorem Sim.enx {p : Prop} (h : Sim p c m) (hM : MI m) (b n : Int32) : (vl2 (nI (rd c 8 6)) b ∧ cen c (cn b) n) ↔ mex m b n := by
  unfold cen mex
  constructor
  · rintro ⟨a, e⟩
    have a' := (h.vbr hM b).mp a
    obtain ⟨c1, c2, c3⟩ := hM.br a'
    have hl := hM.len (b := cn b) (by omega)
    rw [h.rlen (by omega), ← hl.1] at e
    exact ⟨a', Int32.not_lt.mp e.1, Int32.not_lt.mp e.2⟩
  · rintro ⟨a, e1, e2⟩
    obtain ⟨c1, c2, c3⟩ := hM.br a
    have hl := hM.len (b := cn b) (by omega)
    rw [h.rlen (by omega), ← hl.1]
    exact ⟨(h.vbr hM b).mpr a, Int32.not_lt.mpr e1, Int32.not_lt.mpr e2⟩
theorem mex_n {b n : Int32} (hM : MI m) (h : mex m b n) : cn b < 8 ∧ n = nI (cn n) ∧ 1 ≤ cn n ∧ cn n ≤ rd m 16 (cn b) ∧ rd m 16 (cn b) ≤ 200 := by
  obtain ⟨c1, c2, c3⟩ := hM.br h.1
  have hl := hM.len (b := cn b) (by omega)
  have hl2 := hl.2
  obtain ⟨e1, e2, e3⟩ := in_n (by decide) (by omega) h.2.1 (hl.1 ▸ h.2.2)
  exact ⟨by omega, e1, e2, e3, hl2⟩
theorem iv_co (h : IV c m) (b n v : Int32) : IV (cco c b n v).2 (mco m b n v).2 ∧ OC (cco c b n v).1 (mco m b n v).1 ((mco m b n v).2.1 15 0) 1 2 3 := by
  have hM := h.2.1.1
  have hK := MK_mco h.2.1 b n v
  unfold cco mco at *
  by_cases q1 : mex m b n
  · rw [cI_t ((h.1.enx hM b n).mpr q1), cI_t q1]
    rw [cI_t q1] at hK
    obtain ⟨c1, c2, c3, c4, c5⟩ := mex_n hM q1
    by_cases q2 : nI 0 ≤ v ∧ v ≤ nI 999999
    · rw [cI_t (show ¬ v < 0 ∧ v ≤ nI 999999 from ⟨(lt0_iff v).mpr q2.1, q2.2⟩), cI_t q2]
      rw [cI_t q2] at hK
      have e1 := h.1.ent (b := cn b) (i := 1) (n := cn n) c1 (by decide) (by decide) c3 (by omega)
      have e4 := h.1.ent (b := cn b) (i := 4) (n := cn n) c1 (by decide) (by decide) c3 (by omega)
      rw [e1, e4]
      by_cases q3 : m.1 17 (200 * cn b + cn n - 1) = nI 1
      · rw [cI_t q3, cI_t q3]
        rw [cI_t q3] at hK
        have h0 := h.th (nI 0)
        have hc : Cor (rd m 15 1 ≠ 0) (34 + 7 * cn b + 4) (cn n) 20 (200 * cn b + cn n - 1) := by
          have := Cor.ent (p := rd m 15 1 ≠ 0) (b := cn b) (i := 4) (n := cn n - 1) c1 (by decide) (by decide) (by omega)
          rw [show cn n - 1 + 1 = cn n by omega] at this
          rw [show 200 * cn b + cn n - 1 = 200 * cn b + (cn n - 1) by omega]
          exact this
        have s : Sim (rd m 15 1 ≠ 0) (uv c (34 + 7 * cn b + 4) (cn n) v) (uv (m0 m) 20 (200 * cn b + cn n - 1) v) := (h.1.m15 (x := 0) (nI 0) (by omega)).put _ hc
        have r4 : rd (uv (m0 m) 20 (200 * cn b + cn n - 1) v) 15 4 = rd (m0 m) 15 4 := rd_uv (by decide) _ _ _ _
        refine ⟨IV_of h hK s (fun i hi => ?_) ?_, Or.inl ⟨rfl, ?_, ?_⟩⟩
        · rw [uv_ap]
          split
          · exact in_vb q2
          · exact h0.2.2.1 i hi
        · rw [r4]
          exact MA_same h0.2.2.2 (uv_cell _ _ _ _ (by decide)) (fun _ _ => uv_cell _ _ _ _ (by decide)) (fun _ => uv_cell _ _ _ _ (by decide)) (fun _ => uv_cell _ _ _ _ (by decide))
        · show 0 ≤ m.1 20 (200 * cn b + cn n - 1)
          exact vb_ge0 (h.2.2.1 _ (by omega)) (by decide)
        · show (uv (m0 m) 20 (200 * cn b + cn n - 1) v).1 15 0 = nI 0
          rw [uv_cell _ _ _ _ (by decide)]
          exact th_s _ _
      · rw [cI_f q3, cI_f q3]
        exact ⟨h.th2 _, Or.inr (Or.inr (Or.inr ⟨by decide, rfl, th_s _ _⟩))⟩
    · rw [cI_f (fun z => q2 ⟨(lt0_iff v).mp z.1, z.2⟩), cI_f q2]
      exact ⟨h.th2 _, Or.inr (Or.inr (Or.inl ⟨by decide, rfl, th_s _ _⟩))⟩
  · rw [cI_f (fun z => q1 ((h.1.enx hM b n).mp z)), cI_f q1]
    exact ⟨h.th2 _, Or.inr (Or.inl ⟨by decide, rfl, th_s _ _⟩)⟩
theorem Sim.fkd {p : Prop} (h : Sim p c m) (hM : MI m) {a b : Nat} (ha : a < 6) (hb : b < 6) : cfk c a b ↔ mfk m a b := by
  have h1 := (hM.pos ha).2
  have h2 := (hM.pos hb).2
  unfold cfk mfk
  rw [h.rpos ha, h.rpos hb, h.his ha (by omega), h.his hb (by omega)]
theorem iv_xc (h : IV c m) (a b : Int32) : IV (cxc c a b).2 (mxc m a b).2 ∧ OC (cxc c a b).1 (mxc m a b).1 ((mxc m a b).2.1 15 0) 1 0 0 := by
  have hM := h.2.1.1
  have hK := MK_mxc h.2.1 a b
  unfold cxc mxc at *
  by_cases q1 : vlt (m.1 15 1) a ∧ vlt (m.1 15 1) b ∧ a ≠ b
  · rw [cI_t (show vl2 (nI (rd c 8 4)) a ∧ vl2 (nI (rd c 8 4)) b ∧ ¬ a = b from ⟨(h.1.vcl hM a).mpr q1.1, (h.1.vcl hM b).mpr q1.2.1, q1.2.2⟩), cI_t q1]
    rw [cI_t q1] at hK
    obtain ⟨c1, c2, c3⟩ := hM.cl q1.1
    obtain ⟨d1, d2, d3⟩ := hM.cl q1.2.1
    have hpa := (hM.pos (c := cn a) (by omega)).2
    have hpb := (hM.pos (c := cn b) (by omega)).2
    have h0 := h.th (nI 0)
    by_cases q2 : mfk m (cn a) (cn b)
    · rw [cI_t ((h.1.fkd hM (by omega) (by omega)).mpr q2), cI_t q2]
      rw [cI_t q2] at hK
      have hx : ∃ n, mdd m (cn a) (cn b) n := ⟨min (rd m 24 (cn a)) (rd m 24 (cn b)), q2⟩
      obtain ⟨l1, l2⟩ := lst_ok hx
      have l3 : lst (mdd m (cn a) (cn b)) ≤ min (rd m 24 (cn a)) (rd m 24 (cn b)) := by
        rcases Nat.lt_or_ge (min (rd m 24 (cn a)) (rd m 24 (cn b))) (lst (mdd m (cn a) (cn b))) with z | z
        · exact absurd q2 (l2 _ z)
        · exact z
      have ek : cxa c (cn a) (cn b) = lst (mdd m (cn a) (cn b)) := by
        unfold cxa
        rw [h.1.rpos (by omega), h.1.rpos (by omega)]
        have e2 : fdf (c.1 (90 + 3 * cn a + 1)) (c.1 (90 + 3 * cn b + 1)) (min (rd m 24 (cn a)) (rd m 24 (cn b))) = lst (mdd m (cn a) (cn b)) := by
          refine lst_eq (Or.inr ?_) (fun j hj z => ?_)
          · rw [h.1.his (by omega) (by omega), h.1.his (by omega) (by omega)]
            exact l1
          · rcases z with z | z
            · omega
            · rw [h.1.his (by omega) (by omega), h.1.his (by omega) (by omega)] at z
              exact l2 j hj z
        rw [e2]
        omega
      rw [ek, h.1.his (by omega) (by omega), h.1.his (by omega) (by omega)]
      have s0 : Sim (rd m 15 1 ≠ 0) c (m0 m) := h.1.m15 (x := 0) (nI 0) (by omega)
      have hB := h0.2.1.1.2.1.2.1
      have s := ((s0.blm hB (nI 2) a b (nI (lst (mdd m (cn a) (cn b)))) (m.1 27 (201 * cn a + lst (mdd m (cn a) (cn b)))) (m.1 27 (201 * cn b + lst (mdd m (cn a) (cn b))))).put (nI 1) (Cor.sus (q := cn a) (by omega))).put (nI 1) (Cor.sus (q := cn b) (by omega))
      obtain ⟨v1, v2⟩ := MAV (m' := uv (uv (mblm (m0 m) (nI 2) a b (nI (lst (mdd m (cn a) (cn b)))) (m.1 27 (201 * cn a + lst (mdd m (cn a) (cn b)))) (m.1 27 (201 * cn b + lst (mdd m (cn a) (cn b))))) 28 (cn a) (nI 1)) 28 (cn b) (nI 1)) h0.2.2.1 h0.2.2.2 (fun a x z => by rw [uv_cell _ _ _ _ (by omega), uv_cell _ _ _ _ (by omega), mblm_o _ _ _ _ _ _ _ _ (by omega)])
      refine ⟨IV_of h hK s v1 v2, Or.inl ⟨rfl, nI_ge0 _ (by decide), ?_⟩⟩
      show (uv (uv (mblm _ _ _ _ _ _ _) _ _ _) _ _ _).1 15 0 = nI 0
      rw [uv_cell _ _ _ _ (by decide), uv_cell _ _ _ _ (by decide), mblm_o _ _ _ _ _ _ _ _ (by omega)]
      exact th_s _ _
    · rw [cI_f (fun z => q2 ((h.1.fkd hM (by omega) (by omega)).mp z)), cI_f q2, h.1.rpos (by omega), h.1.rpos (by omega)]
      by_cases q3 : rd m 24 (cn a) = rd m 24 (cn b)
      · rw [cI_t q3, cI_t q3]; exact ⟨h0, Or.inl ⟨rfl, nI_ge0 _ (by decide), th_s _ _⟩⟩
      · rw [cI_f q3, cI_f q3]
        by_cases q4 : rd m 24 (cn a) < rd m 24 (cn b)
        · rw [cI_t q4, cI_t q4]; exact ⟨h0, Or.inl ⟨rfl, nI_ge0 _ (by decide), th_s _ _⟩⟩
        · rw [cI_f q4, cI_f q4]; exact ⟨h0, Or.inl ⟨rfl, nI_ge0 _ (by decide), th_s _ _⟩⟩
  · rw [cI_f (fun z => q1 ⟨(h.1.vcl hM a).mp z.1, (h.1.vcl hM b).mp z.2.1, z.2.2⟩), cI_f q1]
    exact ⟨h.th2 _, Or.inr (Or.inl ⟨by decide, rfl, th_s _ _⟩)⟩
end SIM4
