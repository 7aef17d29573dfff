/-- what the operations leave alone -/
def OF (σ σ' : St) : Prop := (∀ a b, (a = 15 ∧ (b = 1 ∨ b = 2 ∨ b = 3 ∨ b = 5 ∨ 25 ≤ b)) ∨ a < 15 ∨ 30 < a → σ'.1 a b = σ.1 a b) ∧ σ'.2 = σ.2
theorem OF.rf (σ : St) : OF σ σ := ⟨fun _ _ _ => rfl, rfl⟩
theorem OF.tr {σ τ υ : St} (h1 : OF σ τ) (h2 : OF τ υ) : OF σ υ := ⟨fun a b q => (h2.1 a b q).trans (h1.1 a b q), h2.2.trans h1.2⟩
theorem OF.u {σ τ : St} (h : OF σ τ) {k j : Nat} (v : Int32) (hk : (16 ≤ k ∧ k ≤ 30) ∨ (k = 15 ∧ (j = 0 ∨ j = 4 ∨ j = 21 ∨ j = 22 ∨ j = 23 ∨ j = 24))) : OF σ (uv τ k j v) := ⟨fun a b q => by rw [uv_ap, if_neg (by omega)]; exact h.1 a b q, h.2⟩
theorem OF.r {σ τ : St} (h : OF σ τ) {k : Nat} (f : Nat → Int32) (hk : 16 ≤ k ∧ k ≤ 30) : OF σ (ur τ k f) := ⟨fun a b q => by rw [ur_cell _ _ _ (by omega)]; exact h.1 a b q, h.2⟩
theorem OF.c {σ τ υ : St} {p : Prop} (h1 : p → OF σ τ) (h2 : ¬ p → OF σ υ) : OF σ (cI p τ υ) := by
  by_cases h : p
  · rw [cI_t h]; exact h1 h
  · rw [cI_f h]; exact h2 h
theorem cI_a2 {α : Type} {p : Prop} {a b : α} {Q : α → Prop} (h1 : p → Q a) (h2 : ¬ p → Q b) : Q (cI p a b) := by
  by_cases h : p
  · rw [cI_t h]; exact h1 h
  · rw [cI_f h]; exact h2 h
theorem OF_mapp (σ : St) (b : Nat) (kd au bl va li : Int32) : OF σ (mapp σ b kd au bl va li) := ((((((OF.rf σ).u _ (by omega)).u _ (by omega)).u _ (by omega)).u _ (by omega)).u _ (by omega)).u _ (by omega) |>.u _ (by omega)
theorem OF_mtk (σ : St) (c b : Nat) : OF σ (mtk σ c b) := (((OF.rf σ).u _ (by omega)).r _ (by omega)).r _ (by omega)
theorem OF_mb0 (σ : St) : OF σ (mb0 σ) := by
  unfold mb0
  split
  · exact ((OF.rf σ).r _ (by omega)).u _ (by omega)
  · exact OF.rf σ
theorem OF_mblm (σ : St) (w c o n f s : Int32) : OF σ (mblm σ w c o n f s) := (((((((OF_mb0 σ).u _ (by omega)).u _ (by omega)).u _ (by omega)).u _ (by omega)).u _ (by omega)).u _ (by omega)).u _ (by omega)
theorem OF_mp0 (σ : St) : OF σ (mp0 σ) := by
  unfold mp0
  split
  · exact ((OF.rf σ).r _ (by omega)).u _ (by omega)
  · exact OF.rf σ
theorem OF_mpst (σ : St) (c : Nat) : OF σ (mpst σ c) := ((((((OF_mp0 σ).u _ (by omega)).u _ (by omega)).u _ (by omega)).u _ (by omega)).u _ (by omega)).u _ (by omega)
theorem OF_msus (σ : St) (c w : Nat) : OF σ (msus σ c w) := by
  unfold msus
  refine OF.u ?_ _ (by omega)
  split
  · exact OF_mblm _ _ _ _ _ _ _
  · split
    · exact OF_mblm _ _ _ _ _ _ _
    · split
      · exact OF_mblm _ _ _ _ _ _ _
      · exact OF_mblm _ _ _ _ _ _ _
theorem OF_moS (σ : St) (c : Nat) (kd w v : Int32) : OF σ (moS σ c kd w v) := by
  have h1 : OF σ (mo1 σ c) := (OF.rf σ).u _ (by omega)
  have h3 : OF σ (mo3 σ c kd w v) := ((h1.tr (OF_mapp _ _ _ _ _ _ _)).tr (OF_mtk _ _ _)).u _ (by omega)
  exact OF.c (fun _ => OF.c (fun _ => OF.c (fun _ => h1) fun _ => OF.c (fun _ => h3.tr (OF_mpst _ _)) fun _ => h3) fun _ => h1.tr (OF_msus _ _ _)) fun _ => OF.rf σ
/-- the sees and the number of branches stay under an operation -/
def SB (σ σ' : St) : Prop := (∀ c, σ'.1 23 c = σ.1 23 c) ∧ σ'.1 15 4 = σ.1 15 4
theorem SB.rf (σ : St) : SB σ σ := ⟨fun _ => rfl, rfl⟩
theorem SB.tr {σ τ υ : St} (h1 : SB σ τ) (h2 : SB τ υ) : SB σ υ := ⟨fun c => (h2.1 c).trans (h1.1 c), h2.2.trans h1.2⟩
theorem SB.u {σ τ : St} (h : SB σ τ) {k j : Nat} (v : Int32) (hk : k ≠ 23 ∧ (k = 15 → j ≠ 4)) : SB σ (uv τ k j v) := ⟨fun c => by rw [uv_ap, if_neg (by omega)]; exact h.1 c, by rw [uv_ap, if_neg (by omega)]; exact h.2⟩
theorem SB.r {σ τ : St} (h : SB σ τ) {k : Nat} (f : Nat → Int32) (hk : k ≠ 23 ∧ k ≠ 15) : SB σ (ur τ k f) := ⟨fun c => by rw [ur_cell _ _ _ (by omega)]; exact h.1 c, by rw [ur_cell _ _ _ (by omega)]; exact h.2⟩
theorem SB.c {σ τ υ : St} {p : Prop} (h1 : p → SB σ τ) (h2 : ¬ p → SB σ υ) : SB σ (cI p τ υ) := by
  by_cases h : p
  · rw [cI_t h]; exact h1 h
  · rw [cI_f h]; exact h2 h
theorem SB_mapp (σ : St) (b : Nat) (kd au bl va li : Int32) : SB σ (mapp σ b kd au bl va li) := ((((((SB.rf σ).u _ (by omega)).u _ (by omega)).u _ (by omega)).u _ (by omega)).u _ (by omega)).u _ (by omega) |>.u _ (by omega)
theorem SB_mtk (σ : St) (c b : Nat) : SB σ (mtk σ c b) := (((SB.rf σ).u _ (by omega)).r _ (by omega)).r _ (by omega)
theorem SB_mblm (σ : St) (w c o n f s : Int32) : SB σ (mblm σ w c o n f s) := by
  have h0 : SB σ (mb0 σ) := by
    unfold mb0
    split
    · exact ((SB.rf σ).r _ (by omega)).u _ (by omega)
    · exact SB.rf σ
  exact ((((((h0.u _ (by omega)).u _ (by omega)).u _ (by omega)).u _ (by omega)).u _ (by omega)).u _ (by omega)).u _ (by omega)
theorem SB_mpst (σ : St) (c : Nat) : SB σ (mpst σ c) := by
  have h0 : SB σ (mp0 σ) := by
    unfold mp0
    split
    · exact ((SB.rf σ).r _ (by omega)).u _ (by omega)
    · exact SB.rf σ
  exact (((((h0.u _ (by omega)).u _ (by omega)).u _ (by omega)).u _ (by omega)).u _ (by omega)).u _ (by omega)
theorem SB_msus (σ : St) (c w : Nat) : SB σ (msus σ c w) := by
  unfold msus
  refine SB.u ?_ _ (by omega)
  split
  · exact SB_mblm _ _ _ _ _ _ _
  · split
    · exact SB_mblm _ _ _ _ _ _ _
    · split
      · exact SB_mblm _ _ _ _ _ _ _
      · exact SB_mblm _ _ _ _ _ _ _
theorem SB_moS (σ : St) (c : Nat) (kd w v : Int32) : SB σ (moS σ c kd w v) := by
  have h1 : SB σ (mo1 σ c) := (SB.rf σ).u _ (by omega)
  have h3 : SB σ (mo3 σ c kd w v) := ((h1.tr (SB_mapp _ _ _ _ _ _ _)).tr (SB_mtk _ _ _)).u _ (by omega)
  exact SB.c (fun _ => SB.c (fun _ => SB.c (fun _ => h1) fun _ => SB.c (fun _ => h3.tr (SB_mpst _ _)) fun _ => h3) fun _ => h1.tr (SB_msus _ _ _)) fun _ => SB.rf σ
theorem MS_of {σ σ' : St} (h : MS σ) (ho : OF σ σ') (hs : SB σ σ') : MS σ' := by
  intro c hc
  have e1 : rd σ' 15 1 = rd σ 15 1 := by unfold rd; rw [ho.1 15 1 (by omega)]
  have e2 : rd σ' 23 c = rd σ 23 c := by unfold rd; rw [hs.1 c]
  have e3 : rd σ' 15 4 = rd σ 15 4 := by unfold rd; rw [hs.2]
  rw [e2, e3]
  exact h c (by rw [← e1]; exact hc)
/-- the reference in order -/
def MJ (σ : St) : Prop := MI σ ∧ MS σ
def MK (σ σ' : St) : Prop := MJ σ' ∧ OF σ σ'
theorem MK_of {σ σ' : St} (h : MJ σ) (hM : MI σ') (ho : OF σ σ') (hs : SB σ σ') : MK σ σ' := ⟨⟨hM, MS_of h.2 ho hs⟩, ho⟩
theorem MK_0 {σ : St} (h : MJ σ) (v : Int32) : MK σ (uv σ 15 0 v) := MK_of h (MI_thr h.1 v) ((OF.rf σ).u _ (by omega)) ((SB.rf σ).u _ (by omega))
theorem MK_00 {σ : St} (h : MJ σ) (v : Int32) : MK σ (uv (m0 σ) 15 0 v) := MK_of h (MI_thr (MI_m0 h.1) v) (((OF.rf σ).u _ (by omega)).u _ (by omega)) (((SB.rf σ).u _ (by omega)).u _ (by omega))
theorem MK_mop {σ : St} (h : MJ σ) {c : Nat} (hc : c < 6) (kd w v : Int32) : MK σ (moS (m0 σ) c kd w v) := MK_of h (MI_moS (MI_m0 h.1) hc kd w v) (((OF.rf σ).u _ (by omega)).tr (OF_moS _ _ _ _ _)) (((SB.rf σ).u _ (by omega)).tr (SB_moS _ _ _ _ _))
theorem MK_mop0 {σ : St} (h : MJ σ) {c : Nat} (hc : c < 6) (kd w v z : Int32) : MK σ (uv (moS (m0 σ) c kd w v) 15 0 z) := MK_of h (MI_thr (MI_moS (MI_m0 h.1) hc kd w v) z) ((((OF.rf σ).u _ (by omega)).tr (OF_moS _ _ _ _ _)).u _ (by omega)) ((((SB.rf σ).u _ (by omega)).tr (SB_moS _ _ _ _ _)).u _ (by omega))
theorem MK_mwr {σ : St} (h : MJ σ) (c w v : Int32) : MK σ (mwr σ c w v).2 := by
  refine cI_a2 (Q := fun z : Int32 × St => MK σ z.2) (fun q => ?_) fun _ => MK_00 h _
  have hc := h.1.cl q.1
  exact cI_a2 (Q := fun z : Int32 × St => MK σ z.2) (fun _ => cI_a2 (Q := fun z : Int32 × St => MK σ z.2) (fun _ => MK_mop h (by omega) _ _ _) fun _ => MK_mop0 h (by omega) _ _ _ _) fun _ => MK_00 h _
theorem MK_mrd {σ : St} (h : MJ σ) (c w : Int32) : MK σ (mrd σ c w).2 := by
  refine cI_a2 (Q := fun z : Int32 × St => MK σ z.2) (fun q => ?_) fun _ => MK_00 h _
  have hc := h.1.cl q.1
  exact cI_a2 (Q := fun z : Int32 × St => MK σ z.2) (fun _ => MK_mop h (by omega) _ _ _) fun _ => MK_mop0 h (by omega) _ _ _ _
theorem MK_mpo {σ : St} (h : MJ σ) (c : Int32) : MK σ (mpo σ c).2 := by
  refine cI_a2 (Q := fun z : Int32 × St => MK σ z.2) (fun q => ?_) fun _ => MK_00 h _
  have hc := h.1.cl q
  exact MK_of h (MI_mpst (MI_m0 h.1) (by omega)) (((OF.rf σ).u _ (by omega)).tr (OF_mpst _ _)) (((SB.rf σ).u _ (by omega)).tr (SB_mpst _ _))
theorem MK_mad {σ : St} (h : MJ σ) (c : Int32) : MK σ (mad σ c).2 := by
  refine cI_a2 (Q := fun z : Int32 × St => MK σ z.2) (fun q => ?_) fun _ => MK_00 h _
  have hc := h.1.cl q
  have hs := (h.1.see (c := cn c) (by omega)).2
  exact MK_of h (MI_uv28 (MI_mtk (MI_m0 h.1) (by omega)) (by omega)) ((((OF.rf σ).u _ (by omega)).tr (OF_mtk _ _ _)).u _ (by omega)) ((((SB.rf σ).u _ (by omega)).tr (SB_mtk _ _ _)).u _ (by omega))
theorem MK_mca {σ : St} (h : MJ σ) (c : Int32) : MK σ (mca σ c).2 := by
  refine cI_a2 (Q := fun z : Int32 × St => MK σ z.2) (fun q => ?_) fun _ => MK_0 h _
  exact MK_of h (MI_uv28 (MI_m0 h.1) (by omega)) (((OF.rf σ).u _ (by omega)).u _ (by omega)) (((SB.rf σ).u _ (by omega)).u _ (by omega))
theorem MK_mco {σ : St} (h : MJ σ) (b n v : Int32) : MK σ (mco σ b n v).2 := by
  refine cI_a2 (Q := fun z : Int32 × St => MK σ z.2) (fun q => ?_) fun _ => MK_00 h _
  refine cI_a2 (Q := fun z : Int32 × St => MK σ z.2) (fun _ => ?_) fun _ => MK_00 h _
  refine cI_a2 (Q := fun z : Int32 × St => MK σ z.2) (fun _ => ?_) fun _ => MK_00 h _
  exact MK_of h (MI_uv (MI_m0 h.1) _ (by omega)) (((OF.rf σ).u _ (by omega)).u _ (by omega)) (((SB.rf σ).u _ (by omega)).u _ (by omega))
theorem MK_mxc {σ : St} (h : MJ σ) (ua ub : Int32) : MK σ (mxc σ ua ub).2 := by
  refine cI_a2 (Q := fun z : Int32 × St => MK σ z.2) (fun q => ?_) fun _ => MK_00 h _
  have hz := MK_0 h (nI 0)
  refine cI_a2 (Q := fun z : Int32 × St => MK σ z.2) (fun _ => ?_) fun _ => cI_a2 (Q := fun z : Int32 × St => MK σ z.2) (fun _ => hz) fun _ => cI_a2 (Q := fun z : Int32 × St => MK σ z.2) (fun _ => hz) fun _ => hz
  exact MK_of h (MI_uv28 (MI_uv28 (MI_mblm (MI_m0 h.1) _ _ _ _ _ _) (by omega)) (by omega)) (((((OF.rf σ).u _ (by omega)).tr (OF_mblm _ _ _ _ _ _ _)).u _ (by omega)).u _ (by omega)) (((((SB.rf σ).u _ (by omega)).tr (SB_mblm _ _ _ _ _ _ _)).u _ (by omega)).u _ (by omega))
theorem MK_mrw {σ : St} (h : MJ σ) (b n : Int32) : MK σ (mrw σ b n).2 := by
  refine cI_a2 (Q := fun z : Int32 × St => MK σ z.2) (fun q => ?_) fun _ => MK_00 h _
  have hb := h.1.br q
  have hl := h.1.len (b := cn b) (by omega)
  have hl2 := hl.2
  refine cI_a2 (Q := fun z : Int32 × St => MK σ z.2) (fun r => ?_) fun _ => MK_00 h _
  obtain ⟨e1, e2, e3⟩ := in_n (by decide) (by omega) r.1 (hl.1 ▸ r.2)
  have e : σ.1 16 (cn b) - n = nI (rd σ 16 (cn b) - cn n) := (congr (congrArg HSub.hSub hl.1) e1).trans (pk_sub e3)
  show MK σ (uv (m0 σ) 16 (cn b) (σ.1 16 (cn b) - n))
  rw [e]
  exact MK_of h (MI_uv16 (MI_m0 h.1) (by omega)) (((OF.rf σ).u _ (by omega)).u _ (by omega)) (((SB.rf σ).u _ (by omega)).u _ (by omega))
