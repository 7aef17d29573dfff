theorem MK_mmv {σ : St} (h : MJ σ) (c b : Int32) : MK σ (mmv σ c b).2 := by
  refine cI_a2 (Q := fun z : Int32 × St => MK σ z.2) (fun q => ?_) fun _ => MK_00 h _
  have hb := h.1.br q.2
  have ho : OF σ (uv (m0 σ) 23 (cn c) b) := ((OF.rf σ).u _ (by omega)).u _ (by omega)
  refine ⟨⟨?_, ?_⟩, ho⟩
  · show MI (uv (m0 σ) 23 (cn c) b)
    rw [hb.1]
    exact MI_uv23 (MI_m0 h.1) (by omega)
  · intro d hd
    have e1 : rd (uv (m0 σ) 23 (cn c) b) 15 1 = rd σ 15 1 := by unfold rd; rw [ho.1 15 1 (by omega)]
    have e3 : rd (uv (m0 σ) 23 (cn c) b) 15 4 = rd σ 15 4 := by
      unfold rd
      rw [uv_cell _ _ _ _ (by decide)]
      exact congrArg _ (uv_idx _ _ _ _ (by decide))
    show rd (uv (m0 σ) 23 (cn c) b) 23 d < rd (uv (m0 σ) 23 (cn c) b) 15 4
    rw [e3]
    by_cases q2 : d = cn c
    · subst q2
      unfold rd
      rw [uv_same]
      have := hb.2.1
      unfold rd cn at this
      exact this
    · have e2 : rd (uv (m0 σ) 23 (cn c) b) 23 d = rd σ 23 d := by
        unfold rd
        rw [uv_idx _ _ _ _ q2]
        exact congrArg _ (uv_cell _ _ _ _ (by decide))
      rw [e2]
      exact h.2 d (by have hd' : d < rd (uv (m0 σ) 23 (cn c) b) 15 1 := hd; rw [e1] at hd'; exact hd')
theorem OF_mcps (σ : St) (f t n : Nat) : OF σ (mcps σ f t n) := ⟨fun a b q => by unfold mcps; rw [uv_cell _ _ _ _ (by omega), mcp_ap, if_neg (by omega)], rfl⟩
theorem OF_hap (σ : St) (y sm md i : Nat) : OF σ (hap σ y sm md i) := by
  induction i with
  | zero => exact OF.rf σ
  | succ i ih => exact ih.tr (OF_mapp _ _ _ _ _ _ _)
theorem OF_mcv (σ : St) (c : Nat) (fo : Int32) (sm md : Nat) : OF σ (mcv σ c fo sm md) := OF.u (OF.c (fun _ => OF.c (fun _ => ((OF.rf σ).u _ (by omega)).tr (OF_mtk _ _ _)) fun _ => (OF.rf σ).u _ (by omega)) fun _ => OF.rf σ) _ (by omega)
theorem OF_hcv (σ : St) (x y sm md c : Nat) : OF σ (hcv σ x y sm md c) := by
  induction c with
  | zero => exact OF.rf σ
  | succ c ih => exact OF.c (fun _ => ih.tr (OF_mcv _ _ _ _ _)) fun _ => ih
theorem mcv_23 (σ : St) (c : Nat) (fo : Int32) (sm md d : Nat) : (mcv σ c fo sm md).1 23 d = σ.1 23 d ∨ (mcv σ c fo sm md).1 23 d = nI md := by
  unfold mcv
  by_cases h : d = c
  · subst h
    exact Or.inr (uv_same _ _ _ _)
  · rw [uv_idx _ _ _ _ h]
    refine Or.inl ?_
    by_cases h1 : mgw σ c
    · rw [cI_t h1]
      by_cases h2 : ¬ fo = 0 ∧ sm < rd σ 24 c
      · rw [cI_t h2, mtk_o _ _ _ _ (by omega), uv_cell _ _ _ _ (by omega)]
      · rw [cI_f h2, uv_cell _ _ _ _ (by omega)]
    · rw [cI_f h1]
theorem hcv_23 (σ : St) (x y sm md d c : Nat) : (hcv σ x y sm md c).1 23 d = σ.1 23 d ∨ (hcv σ x y sm md c).1 23 d = nI md := by
  induction c with
  | zero => exact Or.inl rfl
  | succ c ih =>
    show (cI _ _ _ : St).1 23 d = _ ∨ (cI _ _ _ : St).1 23 d = _
    by_cases q : rd (hcv σ x y sm md c) 23 c = x ∨ rd (hcv σ x y sm md c) 23 c = y
    · rw [cI_t q]
      rcases mcv_23 (hcv σ x y sm md c) c (cI (rd (hcv σ x y sm md c) 23 c = y) (nI 1) (nI 0)) sm md d with z | z
      · rw [z]; exact ih
      · exact Or.inr z
    · rw [cI_f q]; exact ih
theorem MS_new {σ σ' : St} (h : MJ σ) (ho : OF σ σ') (h4 : σ'.1 15 4 = nI (rd σ 15 4 + 1)) (h8 : rd σ 15 4 < 8) (hs : ∀ d, d < 6 → σ'.1 23 d = σ.1 23 d ∨ σ'.1 23 d = nI (rd σ 15 4)) : MS σ' := by
  intro c hc
  have e1 : rd σ' 15 1 = rd σ 15 1 := by unfold rd; rw [ho.1 15 1 (by omega)]
  have e4 : rd σ' 15 4 = rd σ 15 4 + 1 := (nb_of (m := 8) h4 (by omega) (by decide)).2
  rw [e1] at hc
  have h6 := h.1.1.1.2
  rw [e4]
  rcases hs c (by omega) with z | z
  · have : rd σ' 23 c = rd σ 23 c := by unfold rd; rw [z]
    rw [this]
    have := h.2 c hc
    omega
  · rw [(nb_of (m := 8) z (by omega) (by decide)).2]
    omega
theorem MK_mfo {σ : St} (h : MJ σ) (s : Int32) : MK σ (mfo σ s).2 := by
  refine cI_a2 (Q := fun z : Int32 × St => MK σ z.2) (fun q => ?_) fun _ => MK_00 h _
  refine cI_a2 (Q := fun z : Int32 × St => MK σ z.2) (fun _ => MK_00 h _) fun r => ?_
  have h8 := h.1.1.2.2.2.1.2
  have hf := msF_n h.1 h.2 s (fun z => r (Or.inl z))
  have h8' : rd σ 15 4 < 8 := by
    rcases Nat.lt_or_ge (rd σ 15 4) 8 with z | z
    · exact z
    · exact absurd (Or.inr (by omega)) r
  have hl := h.1.len (b := cn (msF σ s)) (by omega)
  have ho : OF σ (uv (ur (mcps (m0 σ) (cn (msF σ s)) (rd σ 15 4) (rd σ 16 (cn (msF σ s)))) 23 (fkr (σ.1 23) s (nI (rd σ 15 4)) (rd σ 15 1))) 15 4 (nI (rd σ 15 4 + 1))) := ((((OF.rf σ).u _ (by omega)).tr (OF_mcps _ _ _ _)).r _ (by omega)).u _ (by omega)
  refine ⟨⟨MI_u15 (MI_ur23 (MI_mcps (MI_m0 h.1) (by omega) h8' hl.2) _ ?_) (by omega), ?_⟩, ho⟩
  · intro c hc
    refine cI_a2 (Q := fun z : Int32 => vb z 7) (fun _ => ?_) fun _ => h.1.v23 c hc
    have := nb_of (σ := uv σ 0 0 (nI (rd σ 15 4))) (m := 7) (uv_same _ _ _ _) (by omega) (by decide)
    have e := this.1
    unfold nb rd at e
    rw [uv_same] at e
    exact e
  · refine MS_new h ho (uv_same _ _ _ _) h8' (fun d hd => ?_)
    rw [uv_cell _ _ _ _ (by decide), ur_ap, if_pos rfl]
    exact cI_a2 (Q := fun z : Int32 => z = σ.1 23 d ∨ z = nI (rd σ 15 4)) (fun _ => Or.inr rfl) fun _ => Or.inl rfl
theorem MK_mhl {σ : St} (h : MJ σ) (ua ub : Int32) : MK σ (mhl σ ua ub).2 := by
  refine cI_a2 (Q := fun z : Int32 × St => MK σ z.2) (fun q => ?_) fun _ => MK_00 h _
  refine cI_a2 (Q := fun z : Int32 × St => MK σ z.2) (fun r => ?_) fun _ => MK_00 h _
  have ha := h.1.br q.1
  have hb := h.1.br q.2.1
  have h8 := h.1.1.2.2.2.1.2
  have h8' : rd σ 15 4 < 8 := by have := r.2.1; omega
  obtain ⟨m1, m2, m3, m4, m5⟩ := mh1_f h.1 ha.2.1 hb.2.1 r
  have hcm := mcom_le σ (cn ua) (cn ub)
  have hly := (h.1.len (b := cn ub) (by omega)).2
  have hle := r.2.2
  have ho : OF σ (mh2 σ (cn ua) (cn ub)) := ((((OF.rf σ).u _ (by omega)).tr (OF_mcps _ _ _ _)).tr (OF_mapp _ _ _ _ _ _ _)).tr (OF_hap _ _ _ _ _) |>.u _ (by omega)
  have hM2 : MI (mh2 σ (cn ua) (cn ub)) := MI_u15 (hap_f m1 (y := cn ub) (sm := mcom σ (cn ua) (cn ub)) (md := rd σ 15 4) (by omega) (by omega) h8' (rd σ 16 (cn ub) - mcom σ (cn ua) (cn ub)) (by omega) (by omega)).1 (by omega)
  have ho2 := ho.tr (OF_hcv (mh2 σ (cn ua) (cn ub)) (cn ua) (cn ub) (mcom σ (cn ua) (cn ub)) (rd σ 15 4) (rd σ 15 1))
  refine ⟨⟨MI_hcv hM2 _ _ _ h8' _, MS_new h ho2 ?_ h8' ?_⟩, ho2⟩
  · rw [hcv_o _ _ _ _ _ _ _ (by decide)]
    exact uv_same _ _ _ _
  · intro d _
    have e : (mh2 σ (cn ua) (cn ub)).1 23 d = σ.1 23 d := by
      unfold mh2 mh1
      rw [uv_cell _ _ _ _ (by decide), hap_o _ _ _ _ _ _ (by omega), mapp_o _ _ _ _ _ _ _ _ (by omega), mcps_o _ _ _ _ _ (by omega)]
      exact uv_cell _ _ _ _ (by decide)
    rw [← e]
    exact hcv_23 _ _ _ _ _ _ _
