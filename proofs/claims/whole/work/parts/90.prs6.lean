/-! the two parsers in step: a step that begins with a client; a script -/
section PR6
variable {N1 N2 : Int32} {B : Nat → Int32} {t : Nat} {K : Int32} {c m : St}
theorem ERR.cqf (h : ERR c m) (p : Nat) : ERR (cqf c p) m := by
  refine cI_a2 (Q := fun z : St => ERR z m) (fun _ => ?_) fun _ => h
  rw [crs_n (fun z => h.2.2 z.1)]
  exact h.cg (uv_cell _ _ _ _ (by omega)) (uv_cell _ _ _ _ (by omega))
theorem EQ3.nx {A : Nat} {c' m' : St} (h : EQ3 t A c m) (h1 : ∀ b, c'.1 (108 + 2 * t + 1) b = c.1 (108 + 2 * t + 1) b) (h2 : ∀ b, 4 * t < b → m'.1 32 b = m.1 32 b) : EQ3 t A c' m' := fun a ha => (h1 a).trans ((h a ha).trans (h2 _ (by omega)).symm)
/-- behind the client: write or read, and its operands -/
theorem prs_O (h : QR N1 N2 B t K c m) (hE : EQ3 t 1 c m) {s0 : St} (h39 : rd s0 15 39 = t) (ht : t < 60) :
    SO N1 N2 B t (ctK (cqf (cto (3 - 1) t (kOp.getD (kdH c) 0) 1 (ctK (cqk c t) (cI (kdH c = 8) 8 7))) t) 2) (sq (mOp3 s0 m).1 (mOp3 s0 m).2 (fun s => (pS s, sS s))).2 (sq (mOp3 s0 m).1 (mOp3 s0 m).2 (fun s => (pS s, sS s))).1 := by
  have hq : QR N1 N2 B t K (cqk c t) m := h.cg (fun _ _ => rfl) rfl rfl (u2_ne _ _ _ _ (by omega)) rfl rfl
  have eH : kdH (cqk c t) = kdH c := kdH_cg rfl (u2_ne _ _ _ _ (by omega))
  obtain ⟨x1, x2, x3⟩ := cqk_ok h.1.2.2.1 t
  obtain ⟨F, hF, hK0⟩ := hq.1.tok
  have hK' := hK0.2.2.2.2.1
  rw [eH] at hK'
  have hlt := h.1.2.2.1.lt
  by_cases q : kdH c = 7 ∨ kdH c = 8
  · have e8 : cI (kdH c = 8) 8 7 = kdH c := by
      rcases q with q | q
      · rw [q]; exact cI_f (by decide)
      · rw [q]; exact cI_t rfl
    rw [e8]
    obtain ⟨pw, hw⟩ := (hK' (kdH c) (by omega) hlt).mp rfl
    have e34 : (sW m).2.2 15 34 = Int64.ofNat (WV.getD (kdH c) 0) := (sW_34 pw).trans hw
    have hl := LX_sW m
    have h2 : QR N1 N2 B t K (ctK (cqk c t) (kdH c)) (sW m) := by
      rcases prs_T hq.1 (k := kdH c) (by omega) hlt rfl with ⟨y1, y2⟩ | ⟨y1, y2⟩
      · have eT : sT m (Int64.ofNat (WV.getD (kdH c) 0)) = sW m := by
          unfold sT
          rw [cI_t pw, cI_t e34]
        rw [eT] at y2
        exact hq.nx (PX_ctK _ _) hl y2
      · exact absurd ⟨pw, e34⟩ y1
    have hE2 : EQ3 t 1 (ctK (cqk c t) (kdH c)) (sW m) := hE.nx (fun b => (PX_ctK _ _).1 _ _ (by omega)) fun b _ => hl.1 32 b (by omega)
    have hsk : skd (ctK (cqk c t) (kdH c)) t = kdH c ∧ (ctK (cqk c t) (kdH c)).2.1 (108 + 2 * t) 1 = some (kdH c) := by
      have := skO_cg (PX_ctK (cqk c t) (kdH c)).2.1 x2
      refine ⟨this.2.trans x3, ?_⟩
      rw [this.1.1, this.2, x3]
    have hm2 : ∀ v, EQ3 t 1 (ctK (cqk c t) (kdH c)) (uv (sW m) 32 (4 * t) v) := fun v => hE2.nx (fun _ => rfl) fun b hb => uv_idx _ _ _ _ (by omega)
    have hmo : mOp3 s0 m = mOp4 s0 (sW m) := by
      unfold mOp3
      rw [sq_yy pw]
      refine cI_t ?_
      unfold wok
      rw [e34]
      rcases q with q | q
      · rw [q]; exact Or.inl rfl
      · rw [q]; exact Or.inr rfl
    rw [hmo]
    unfold mOp4
    rw [e34, h39]
    have hsk2 : ∀ w, skd (cto (3 - 1) t w 1 (ctK (cqk c t) (kdH c))) t = kdH c ∧ (cto (3 - 1) t w 1 (ctK (cqk c t) (kdH c))).2.1 (108 + 2 * t) 1 = some (kdH c) := fun w => by
      unfold skd
      rw [(PS_cto _ _ _ _ _).2]
      exact ⟨hsk.1, hsk.2⟩
    rw [cqf_n t (by rw [(hsk2 _).1]; omega)]
    rcases q with q | q
    · have h3 := rs_kv (h2.mk' (nI 0)) (hm2 (nI 0))
      rw [uv_cell _ _ _ _ (show 15 ≠ 32 by decide)] at h3
      rw [cI_t (show Int64.ofNat (WV.getD (kdH c) 0) = 790941875 by rw [q]; rfl)]
      have e6 : kOp.getD (kdH c) 0 = 6 := by rw [q]; rfl
      rw [e6]
      refine so_S (k := 7) h3.rt ht (by decide) (by decide) ?_ rfl
      rw [(hsk2 6).2, q]
    · have h3 := rs_k (h2.mk' (nI 1)) (hm2 (nI 1))
      rw [uv_cell _ _ _ _ (show 15 ≠ 32 by decide)] at h3
      rw [cI_f (show ¬ Int64.ofNat (WV.getD (kdH c) 0) = 790941875 by rw [q]; decide)]
      have e6 : kOp.getD (kdH c) 0 = 8 := by rw [q]; rfl
      rw [e6]
      refine so_S (k := 8) h3.rt ht (by decide) (by decide) ?_ rfl
      rw [(hsk2 8).2, q]
  · have e7 : cI (kdH c = 8) 8 7 = 7 := cI_f (fun z => q (Or.inr z))
    rw [e7]
    have hr : ¬ (mOp3 s0 m).1 ∧ (mOp3 s0 m).2.1 15 32 = nI 1 ∧ (mOp3 s0 m).2.1 15 33 = nI (msk m) := by
      unfold mOp3
      by_cases pw : pW m
      · rw [sq_yy pw]
        have nw : ¬ wok (sW m) := fun z => by
          unfold wok at z
          rw [sW_34 pw] at z
          rcases z with z | z
          · exact q (Or.inl ((hK' 7 (by decide) (by decide)).mpr ⟨pw, z⟩))
          · exact q (Or.inr ((hK' 8 (by decide) (by decide)).mpr ⟨pw, z⟩))
        rw [cI_f nw]
        exact ⟨id, mfl_32 _ _ _⟩
      · refine ⟨fun z => pw z.1, ?_⟩
        rw [(sq_n pw).2]
        unfold sW
        rw [cI_f pw]
        exact mfl_32 _ _ _
    have e1 : ERR (ctK (cqk c t) 7) (mOp3 s0 m).2 := by
      unfold ctK
      rw [cI_f (fun z => q (Or.inl (eH.symm.trans z)))]
      exact (hq.1.err hK0 (by decide) hr.2.1 hr.2.2).1
    exact Or.inr ⟨fun z => hr.1 z.1, by rw [(sq_n hr.1).2]; exact ((e1.cto _ _ _ _).cqf _).tK 2⟩
end PR6
