abbrev m0 (σ : St) : St := uv σ 15 0 (nI 0)
theorem MI_m0 {σ : St} (h : MI σ) : MI (m0 σ) := MI_uv h _ (by omega)
theorem MI_thr {σ : St} (h : MI σ) (v : Int32) : MI (uv σ 15 0 v) := MI_uv h _ (by omega)
theorem MI.cl {σ : St} (h : MI σ) {c : Int32} (hc : vlt (σ.1 15 1) c) : c = nI (cn c) ∧ cn c < rd σ 15 1 ∧ rd σ 15 1 ≤ 6 := ⟨(vlt_n h.1.1.1 h.1.1.2 (by decide) hc).1, (vlt_n h.1.1.1 h.1.1.2 (by decide) hc).2, h.1.1.2⟩
theorem MI.bl {σ : St} (h : MI σ) {c : Int32} (hc : vlt (σ.1 15 2) c) : c = nI (cn c) ∧ cn c < rd σ 15 2 ∧ rd σ 15 2 ≤ 16 := ⟨(vlt_n h.1.2.1.1 h.1.2.1.2 (by decide) hc).1, (vlt_n h.1.2.1.1 h.1.2.1.2 (by decide) hc).2, h.1.2.1.2⟩
theorem MI.br {σ : St} (h : MI σ) {c : Int32} (hc : vlt (σ.1 15 4) c) : c = nI (cn c) ∧ cn c < rd σ 15 4 ∧ rd σ 15 4 ≤ 8 := ⟨(vlt_n h.1.2.2.2.1.1 h.1.2.2.2.1.2 (by decide) hc).1, (vlt_n h.1.2.2.2.1.1 h.1.2.2.2.1.2 (by decide) hc).2, h.1.2.2.2.1.2⟩
theorem MI.iv {σ : St} (h : MI σ) {c : Nat} (hc : c < rd σ 15 1) : ¬ σ.1 15 3 = 0 := by
  intro e
  have h1 := h.2.2.2.2.2.2.1 (by omega)
  have h2 : rd σ 15 3 = 0 := by unfold rd; rw [e]; rfl
  exact h1 h2
/-- write, read, exchange .. of the reference: answer and state -/
noncomputable def mwr (σ : St) (c w v : Int32) : Int32 × St :=
  cI (vlt (σ.1 15 1) c ∧ vlt (σ.1 15 2) w) (cI (nI 0 ≤ v ∧ v ≤ nI 999999) (cI (mokP (m0 σ) (cn c)) ((moS (m0 σ) (cn c) (nI 1) w v).1 24 (cn c), moS (m0 σ) (cn c) (nI 1) w v) (nI 0, uv (moS (m0 σ) (cn c) (nI 1) w v) 15 0 (nI 3))) (nI 0, uv (m0 σ) 15 0 (nI 2))) (nI 0, uv (m0 σ) 15 0 (nI 1))
noncomputable def mrd (σ : St) (c w : Int32) : Int32 × St :=
  cI (vlt (σ.1 15 1) c ∧ vlt (σ.1 15 2) w) (cI (mokP (m0 σ) (cn c)) (mval (moS (m0 σ) (cn c) (nI 0) w (nI 0)) (rd (moS (m0 σ) (cn c) (nI 0) w (nI 0)) 23 (cn c)) w (rd (moS (m0 σ) (cn c) (nI 0) w (nI 0)) 16 (rd (moS (m0 σ) (cn c) (nI 0) w (nI 0)) 23 (cn c))), moS (m0 σ) (cn c) (nI 0) w (nI 0)) (nI 0, uv (moS (m0 σ) (cn c) (nI 0) w (nI 0)) 15 0 (nI 2))) (nI 0, uv (m0 σ) 15 0 (nI 1))
noncomputable def mpo (σ : St) (c : Int32) : Int32 × St := cI (vlt (σ.1 15 1) c) ((mpst (m0 σ) (cn c)).1 15 21, mpst (m0 σ) (cn c)) (nI 0, uv (m0 σ) 15 0 (nI 1))
noncomputable def mad (σ : St) (c : Int32) : Int32 × St := cI (vlt (σ.1 15 1) c) ((mtk (m0 σ) (cn c) (rd σ 23 (cn c))).1 24 (cn c), uv (mtk (m0 σ) (cn c) (rd σ 23 (cn c))) 28 (cn c) (nI 0)) (nI 0, uv (m0 σ) 15 0 (nI 1))
noncomputable def mca (σ : St) (c : Int32) : Int32 × St := cI (vlt (σ.1 15 1) c) (σ.1 28 (cn c), uv (m0 σ) 28 (cn c) (nI 0)) (nI 0, uv σ 15 0 (nI 1))
noncomputable def mmv (σ : St) (c b : Int32) : Int32 × St := cI (vlt (σ.1 15 1) c ∧ vlt (σ.1 15 4) b) (σ.1 23 (cn c), uv (m0 σ) 23 (cn c) b) (nI 0, uv (m0 σ) 15 0 (nI 1))
noncomputable def mrw (σ : St) (b n : Int32) : Int32 × St := cI (vlt (σ.1 15 4) b) (cI (nI 1 ≤ n ∧ n ≤ σ.1 16 (cn b)) (σ.1 16 (cn b) - n, uv (m0 σ) 16 (cn b) (σ.1 16 (cn b) - n)) (nI 0, uv (m0 σ) 15 0 (nI 2))) (nI 0, uv (m0 σ) 15 0 (nI 1))
def mex (σ : St) (b n : Int32) : Prop := vlt (σ.1 15 4) b ∧ nI 1 ≤ n ∧ n ≤ σ.1 16 (cn b)
noncomputable def mco (σ : St) (b n v : Int32) : Int32 × St := cI (mex σ b n) (cI (nI 0 ≤ v ∧ v ≤ nI 999999) (cI (σ.1 17 (200 * cn b + cn n - 1) = nI 1) (σ.1 20 (200 * cn b + cn n - 1), uv (m0 σ) 20 (200 * cn b + cn n - 1) v) (nI 0, uv (m0 σ) 15 0 (nI 3))) (nI 0, uv (m0 σ) 15 0 (nI 2))) (nI 0, uv (m0 σ) 15 0 (nI 1))
def mfk (σ : St) (a b : Nat) : Prop := σ.1 27 (201 * a + min (rd σ 24 a) (rd σ 24 b)) ≠ σ.1 27 (201 * b + min (rd σ 24 a) (rd σ 24 b))
def mdd (σ : St) (a b : Nat) : Nat → Prop := fun n => σ.1 27 (201 * a + n) ≠ σ.1 27 (201 * b + n)
noncomputable def mxc (σ : St) (a b : Int32) : Int32 × St :=
  cI (vlt (σ.1 15 1) a ∧ vlt (σ.1 15 1) b ∧ a ≠ b) (cI (mfk σ (cn a) (cn b)) (nI 3, uv (uv (mblm (m0 σ) (nI 2) a b (nI (lst (mdd σ (cn a) (cn b)))) (σ.1 27 (201 * cn a + lst (mdd σ (cn a) (cn b)))) (σ.1 27 (201 * cn b + lst (mdd σ (cn a) (cn b))))) 28 (cn a) (nI 1)) 28 (cn b) (nI 1)) (cI (rd σ 24 (cn a) = rd σ 24 (cn b)) (nI 0, m0 σ) (cI (rd σ 24 (cn a) < rd σ 24 (cn b)) (nI 1, m0 σ) (nI 2, m0 σ)))) (nI 0, uv (m0 σ) 15 0 (nI 1))
theorem MI_mo2 {σ : St} (hM : MI σ) {c : Nat} (hc : c < 6) (kd w v : Int32) (h : ¬ rd σ 16 (rd σ 23 c) = 200) : MI (mo3 σ c kd w v) := by
  have hs := (hM.see hc).2
  have hl := (hM.len (b := rd σ 23 c) (by omega)).2
  have hM2 := MI_mapp (MI_mo1 hM c) (b := rd σ 23 c) kd (nI c) w v (nI 0) (by rw [show rd (mo1 σ c) 16 (rd σ 23 c) = rd σ 16 (rd σ 23 c) from rd_uv (by decide) _ _ _ _]; omega) (Or.inr (vb_nI (by omega) (by decide)))
  exact MI_uv (MI_mtk hM2 (by omega)) _ (by omega)
theorem MI_moS {σ : St} (hM : MI σ) {c : Nat} (hc : c < 6) (kd w v : Int32) : MI (moS σ c kd w v) := by
  unfold moS
  by_cases h1 : σ.1 28 c = nI 0
  · rw [cI_t h1]
    by_cases h2 : mfc σ c = 0
    · rw [cI_t h2]
      by_cases h3 : rd σ 16 (rd σ 23 c) = 200
      · rw [cI_t h3]; exact MI_mo1 hM c
      · rw [cI_f h3]
        have hM3 := MI_mo2 hM hc kd w v h3
        by_cases h4 : (σ.1 25 c + nI 1) - (σ.1 25 c + nI 1) / σ.1 15 3 * σ.1 15 3 = 0
        · rw [cI_t h4]; exact MI_mpst hM3 hc
        · rw [cI_f h4]; exact hM3
    · rw [cI_f h2]; exact MI_msus (MI_mo1 hM c) _ _
  · rw [cI_f h1]; exact hM
