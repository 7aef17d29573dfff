/-! the two parsers in step: a step that begins with a client; a script -/
section PR6
variable {N1 N2 : Int32} {B : Nat → Int32} {t : Nat} {K : Int32} {c m : St}
theorem ERR.cqf (h : ERR c m) (p : Nat) : ERR (cqf c p) m := by
  refine cI_a2 (Q := fun z : St => ERR z m) (fun _ => ?_) fun _ => h
  rw [crs_n (fun z => h.2.2 z.1)]
  exact h.cg (uv_cell _ _ _ _ (by omega)) (uv_cell _ _ _ _ (by omega))
theorem EQ3.nx {A : Nat} {c' m' : St} (h : EQ3 t A c m) (h1 : ∀ b, c'.1 (108 + 2 * t + 1) b = c.1 (108 + 2 * t + 1) b) (h2 : ∀ b, 4 * t < b → m'.1 32 b = m.1 32 b) : EQ3 t A c' m' := fun a ha => (h1 a).trans ((h a ha).trans (h2 _ (by omega)).symm)
/-- behind the client: write or read, and its operands -/
theorem prs_O (h : QR N1 N2 B t K c m) (hE : EQ3 t 1 c m) {s0 : St} (h39 : rd s0 15 39 = t) (ht : t < 60) :
    SO N1 N2 B t (ctK (cqf (cto (3 - 1) t (kOp.getD (kdH c) 0) 1 (ctK (cqk c t) (cI (kdH c = 8) 8 7))) t) 2) (sq (mOp3 s0 m).1 (mOp3 s0 m).2 (fun s => (pS s, sS s))).2 (sq (mOp3 s0 m).1 (mOp3 s0 m).2 (fun s => (pS s, sS s))).1 := by
  have hq : QR N1 N2 B t K (cqk c t) m := h.cg (fun _ _ => rfl) rfl rfl (u2_ne _ _ _ _ (by omega)) rfl rfl
  have eH : kdH (cqk c t) = kdH c := kdH_cg rfl (u2_ne _ _ _ _ (by omega))
  obtain ⟨x1, x2, x3⟩ := cqk_ok h.1.2.2.1 t
  obtain ⟨F, hF, hK0⟩ := hq.1.tok
  have hK' := hK0.2.2.2.2.1
  rw [eH] at hK'
  have hlt := h.1.2.2.1.lt
  by_cases q : kdH c = 7 ∨ kdH c = 8
  · have e8 : cI (kdH c = 8) 8 7 = kdH c := by
      rcases q with q | q
      · rw [q]; exact cI_f (by decide)
      · rw [q]; exact cI_t rfl
    rw [e8]
    obtain ⟨pw, hw⟩ := (hK' (kdH c) (by omega) hlt).mp rfl
    have e34 : (sW m).2.2 15 34 = Int64.ofNat (WV.getD (kdH c) 0) := (sW_34 pw).trans hw
    have hl := LX_sW m
    have h2 : QR N1 N2 B t K (ctK (cqk c t) (kdH c)) (sW m) := by
      rcases prs_T hq.1 (k := kdH c) (by omega) hlt rfl with ⟨y1, y2⟩ | ⟨y1, y2⟩
      · have eT : sT m (Int64.ofNat (WV.getD (kdH c) 0)) = sW m := by
          unfold sT
          rw [cI_t pw, cI_t e34]
        rw [eT] at y2
        exact hq.nx (PX_ctK _ _) hl y2
      · exact absurd ⟨pw, e34⟩ y1
    have hE2 : EQ3 t 1 (ctK (cqk c t) (kdH c)) (sW m) := hE.nx (fun b => (PX_ctK _ _).1 _ _ (by omega)) fun b _ => hl.1 32 b (by omega)
    have hsk : skd (ctK (cqk c t) (kdH c)) t = kdH c ∧ (ctK (cqk c t) (kdH c)).2.1 (108 + 2 * t) 1 = some (kdH c) := by
      have := skO_cg (PX_ctK (cqk c t) (kdH c)).2.1 x2
      refine ⟨this.2.trans x3, ?_⟩
      rw [this.1.1, this.2, x3]
    have hm2 : ∀ v, EQ3 t 1 (ctK (cqk c t) (kdH c)) (uv (sW m) 32 (4 * t) v) := fun v => hE2.nx (fun _ => rfl) fun b hb => uv_idx _ _ _ _ (by omega)
    have hmo : mOp3 s0 m = mOp4 s0 (sW m) := by
      unfold mOp3
      rw [sq_yy pw]
      refine cI_t ?_
      unfold wok
      rw [e34]
      rcases q with q | q
      · rw [q]; exact Or.inl rfl
      · rw [q]; exact Or.inr rfl
    rw [hmo]
    unfold mOp4
    rw [e34, h39]
    have hsk2 : ∀ w, skd (cto (3 - 1) t w 1 (ctK (cqk c t) (kdH c))) t = kdH c ∧ (cto (3 - 1) t w 1 (ctK (cqk c t) (kdH c))).2.1 (108 + 2 * t) 1 = some (kdH c) := fun w => by
      unfold skd
      rw [(PS_cto _ _ _ _ _).2]
      exact ⟨hsk.1, hsk.2⟩
    rw [cqf_n t (by rw [(hsk2 _).1]; omega)]
    rcases q with q | q
    · have h3 := rs_kv (h2.mk' (nI 0)) (hm2 (nI 0))
      rw [uv_cell _ _ _ _ (show 15 ≠ 32 by decide)] at h3
      rw [cI_t (show Int64.ofNat (WV.getD (kdH c) 0) = 790941875 by rw [q]; rfl)]
      have e6 : kOp.getD (kdH c) 0 = 6 := by rw [q]; rfl
      rw [e6]
      refine so_S (k := 7) h3.rt ht (by decide) (by decide) ?_ rfl
      rw [(hsk2 6).2, q]
    · have h3 := rs_k (h2.mk' (nI 1)) (hm2 (nI 1))
      rw [uv_cell _ _ _ _ (show 15 ≠ 32 by decide)] at h3
      rw [cI_f (show ¬ Int64.ofNat (WV.getD (kdH c) 0) = 790941875 by rw [q]; decide)]
      have e6 : kOp.getD (kdH c) 0 = 8 := by rw [q]; rfl
      rw [e6]
      refine so_S (k := 8) h3.rt ht (by decide) (by decide) ?_ rfl
      rw [(hsk2 8).2, q]
  · have e7 : cI (kdH c = 8) 8 7 = 7 := cI_f (fun z => q (Or.inr z))
    rw [e7]
    have hr : ¬ (mOp3 s0 m).1 ∧ (mOp3 s0 m).2.1 15 32 = nI 1 ∧ (mOp3 s0 m).2.1 15 33 = nI (msk m) := by
      unfold mOp3
      by_cases pw : pW m
      · rw [sq_yy pw]
        have nw : ¬ wok (sW m) := fun z => by
          unfold wok at z
          rw [sW_34 pw] at z
          rcases z with z | z
          · exact q (Or.inl ((hK' 7 (by decide) (by decide)).mpr ⟨pw, z⟩))
          · exact q (Or.inr ((hK' 8 (by decide) (by decide)).mpr ⟨pw, z⟩))
        rw [cI_f nw]
        exact ⟨id, mfl_32 _ _ _⟩
      · refine ⟨fun z => pw z.1, ?_⟩
        rw [(sq_n pw).2]
        unfold sW
        rw [cI_f pw]
        exact mfl_32 _ _ _
    have e1 : ERR (ctK (cqk c t) 7) (mOp3 s0 m).2 := by
      unfold ctK
      rw [cI_f (fun z => q (Or.inl (eH.symm.trans z)))]
      exact (hq.1.err hK0 (by decide) hr.2.1 hr.2.2).1
    exact Or.inr ⟨fun z => hr.1 z.1, by rw [(sq_n hr.1).2]; exact ((e1.cto _ _ _ _).cqf _).tK 2⟩
/-- a step that begins with a digit -/
theorem prs_D (h : QR N1 N2 B t K c m) (ht : t ≤ 60) (hd : dgt (mB m (msk m))) (h27 : m.1 15 27 = nI (msk m)) : SO N1 N2 B t (cp1 c t) (sq (mOp m).1 (mOp m).2 (fun s => (pS s, sS s))).2 (sq (mOp m).1 (mOp m).2 (fun s => (pS s, sS s))).1 := by
  obtain ⟨F, hF, hK⟩ := h.1.tok
  have hlt := h.1.2.2.1.lt
  have hos := kOS_k _ hlt
  have e4 : c.1 1 4 - nI 1 = m.1 15 1 - nI 1 := by rw [h.2.1.1, h.2.1.2.2.1]
  have eF : ccF c = ccN c (nI 0) (m.1 15 1 - nI 1) := by
    unfold ccF
    rw [e4]
    by_cases k3 : kdH c = 3
    · exact cI_t k3
    · rw [cI_f k3]
      unfold ccN
      rw [cI_f k3]
      refine cI_t (hos.mpr ?_)
      rcases Nat.lt_or_ge (kdH c) 9 with z | z
      · exact z
      · have w := ((hK.2.2.2.2.1 (kdH c) (by omega) hlt).mp rfl).1.1
        have := ltr_n w
        have := dgt_n hd
        omega
  rcases prs_N h.1 (nI 0) (m.1 15 1 - nI 1) with ⟨p, q, r1, r2, r3⟩ | ⟨p, -, q⟩
  · have k3 : kdH c = 3 := hK.2.2.1.mpr ⟨p.1, p.2.1⟩
    unfold mOp
    rw [sq_yy p]
    have hl := LX_sN m (nI 0) (m.1 15 1 - nI 1)
    have e39 : rd (sN m (nI 0) (m.1 15 1 - nI 1)) 15 39 = t := (LX_rdx hl (by omega)).trans h.2.2.1
    unfold mMany
    rw [e39, h27]
    unfold cp1
    rw [eF, r3]
    by_cases h60 : t = 60
    · rw [cI_f (show ¬ t < 60 by omega)]
      have e : sq (¬ t = 60) (cI (t = 60) (mfl (sN m (nI 0) (m.1 15 1 - nI 1)) (nI 3) (nI (msk m))) (sN m (nI 0) (m.1 15 1 - nI 1))) (fun s2 => mOp3 m (uv s2 32 (4 * rd m 15 39 + 1) (s2.1 15 31))) = sq False (mfl (sN m (nI 0) (m.1 15 1 - nI 1)) (nI 3) (nI (msk m))) (fun s2 => mOp3 m (uv s2 32 (4 * rd m 15 39 + 1) (s2.1 15 31))) := by
        rw [cI_t h60, show (¬ t = 60) = False from propext ⟨fun z => z h60, False.elim⟩]
      have e' := congrArg Prod.snd e
      refine Or.inr ⟨fun z => z.1.1 h60, ?_⟩
      rw [(sq_n (fun z => z.1 h60)).2]
      refine Eq.mpr (congrArg (fun z => ERR _ z) (e'.trans (sq_n id).2)) ?_
      exact (h.1.err hK (by decide) (mfl_32 _ _ _).1 (mfl_32 _ _ _).2).2
    · have h6 : t < 60 := by omega
      rw [cI_t h6]
      refine SO.c3 ?_ _
      rw [sq_yy (show ¬ (t = 60) from h60)]
      have eS : cI (t = 60) (mfl (sN m (nI 0) (m.1 15 1 - nI 1)) (nI 3) (nI (msk m))) (sN m (nI 0) (m.1 15 1 - nI 1)) = sN m (nI 0) (m.1 15 1 - nI 1) := cI_f h60
      rw [eS, h.2.2.1]
      have hq0 : QR N1 N2 B t K (cq0 c t) (uv (sN m (nI 0) (m.1 15 1 - nI 1)) 32 (4 * t + 1) ((sN m (nI 0) (m.1 15 1 - nI 1)).1 15 31)) := by
        unfold cq0
        rw [e4]
        exact ((h.nx (PX_ctN _ _ _) hl q).u _ _ (by omega)).mu 0 _
      have hE0 : EQ3 t 1 (cq0 c t) (uv (sN m (nI 0) (m.1 15 1 - nI 1)) 32 (4 * t + 1) ((sN m (nI 0) (m.1 15 1 - nI 1)).1 15 31)) := fun a ha => by
        have : a = 0 := by omega
        subst this
        unfold cq0
        rw [uv_same, r1]
        exact (r2.symm).trans (uv_same _ _ _ _).symm
      have h3 := prs_O hq0 hE0 (s0 := m) h.2.2.1 h6
      have e3 : cq3 c t = cto (3 - 1) t (kOp.getD (kdH (cq0 c t)) 0) 1 (cq1 c t) := by
        unfold cq3
        rw [cI_t k3, (cq1_sk h.1.2.2.1 t).2]
      unfold cqs
      rw [e3]
      exact h3
  · have e : (mOp m).2 = sN m (nI 0) (m.1 15 1 - nI 1) := (sq_n p).2
    refine Or.inr ⟨fun z => p z.1.1, ?_⟩
    rw [(sq_n (fun z => p z.1)).2, e]
    exact cp1_e eF q t
/-- a step -/
theorem prs_step (h : QR N1 N2 B t K c m) (ht : t ≤ 60) : SO N1 N2 B t (cp1 c t) (mStep m).2 (mStep m).1 := by
  have hP := h.1.2.2.2.1
  have e1 : mB (mpk m) (msk (mpk m)) = mB m (msk m) := by rw [mB_mpk, msk_mpk hP]
  unfold mStep
  by_cases hd : dgt (mB m (msk m))
  · rw [cI_t hd]
    refine prs_D h.pk ht (by rw [e1]; exact hd) ?_
    rw [msk_mpk hP]
    unfold mpk
    rw [uv_idx _ _ _ _ (by decide), uv_same]
  · rw [cI_f hd]
    exact prs_W h.pk ht (by rw [e1]; exact hd)
/-- the steps of a script agree -/
def ST9 (c m : St) (i : Nat) : Prop := ∃ k, 7 ≤ k ∧ k < 16 ∧ c.2.1 (108 + 2 * i) 1 = some k ∧ m.1 32 (4 * i) = nI (k - 7) ∧ EQ3 i (kLen.getD (kOp.getD k 0) 0) c m
/-- what a script has become -/
def SC (C M : St) (p : Prop) : Prop := (p ∧ (C.1 1 7 = nI 0 ∧ C.1 1 8 = -1) ∧ (M.1 15 32 = nI 0 ∧ M.1 15 33 = -1) ∧ ∃ n, n ≤ 60 ∧ C.1 1 3 = nI n ∧ M.1 15 39 = nI n ∧ ∀ i, i < n → ST9 C M i) ∨ (¬ p ∧ ERR C M)
theorem EQ3_lt {i A : Nat} {c' m' : St} (h : EQ3 i A c m) (h1 : ∀ b, c'.1 (108 + 2 * i + 1) b = c.1 (108 + 2 * i + 1) b) (hA : A ≤ 3) (h2 : ∀ b, b < 4 * i + 4 → m'.1 32 b = m.1 32 b) : EQ3 i A c' m' := fun a ha => (h1 a).trans ((h a ha).trans (h2 _ (by omega)).symm)
theorem kLen_3 : ∀ k, k < 16 → kLen.getD (kOp.getD k 0) 0 ≤ 3 := by decide
theorem prs_sc : ∀ (n t : Nat) (c m : St), t + n = 61 → PRL c m → (c.1 1 4 = N1 ∧ c.1 1 5 = N2 ∧ m.1 15 1 = N1 ∧ m.1 15 2 = N2) → m.1 15 39 = nI t → c.1 1 3 = nI t → t ≤ 60 → (∀ i, i < t → ST9 c m i) → SC (cpS n t c) (mSc n m).2 (mSc n m).1 := by
  intro n
  induction n with
  | zero => intro t c m h1 _ _ _ _ h2 _; omega
  | succ n ih =>
    intro t c m h1 h hN h39 h3 h60 hs
    obtain ⟨F, hF, hK⟩ := h.tok
    have hP := h.2.2.2.1
    have e1 : mB (mpk m) (msk (mpk m)) = mB m (msk m) := by rw [mB_mpk, msk_mpk hP]
    have hl := LX_mpk m
    by_cases q : mB m (msk m) = -1
    · have ec : cpS (n + 1) t c = c := cI_f (fun z => z.2 (hK.2.1.mpr q))
      have em : mSc (n + 1) m = (True, mpk m) := cI_t q
      rw [ec, em]
      refine Or.inl ⟨trivial, h.1, h.pk.2.1, t, h60, h3, (hl.1 15 39 (by omega)).trans h39, fun i hi => ?_⟩
      obtain ⟨k, k1, k2, k3, k4, k5⟩ := hs i hi
      exact ⟨k, k1, k2, k3, (hl.1 32 _ (by omega)).trans k4, EQ3_lt k5 (fun _ => rfl) (kLen_3 k k2) fun b _ => hl.1 32 b (by omega)⟩
    · have ec : cpS (n + 1) t c = cpS n (t + 1) (cp1 c t) := cI_t ⟨h.1.1.trans nI_0, fun z => q (hK.2.1.mp z)⟩
      have em : mSc (n + 1) m = cI (mStep (mpk m)).1 (mSc n (uv (mStep (mpk m)).2 15 39 (nI (rd m 15 39 + 1)))) (False, (mStep (mpk m)).2) := cI_f q
      have r39 : rd m 15 39 = t := rd_of h39 (by omega)
      have hQ : QR N1 N2 (m.1 32) t (m.1 32 (4 * t)) c m := ⟨h, hN, r39, rfl, fun _ _ => rfl⟩
      rw [ec, em, r39]
      rcases prs_step hQ.pk h60 with ⟨p, t6, k, k1, k2, k3, k4, k5⟩ | ⟨p, e⟩
      · rw [cI_t p]
        have ec1 : cp1 c t = uv (cqs (ccF c) t) 1 3 (nI (t + 1)) := cI_t t6
        have hB := k4.2.2.2.2
        refine ih (t + 1) (cp1 c t) (uv (mStep (mpk m)).2 15 39 (nI (t + 1))) (by omega) ?_ ⟨k4.2.1.1, k4.2.1.2.1, (uv_idx _ _ _ _ (by decide)).trans k4.2.1.2.2.1, (uv_idx _ _ _ _ (by decide)).trans k4.2.1.2.2.2⟩ (uv_same _ _ _ _) (by rw [ec1]; exact uv_same _ _ _ _) (by omega) fun i hi => ?_
        · exact k4.1.mg (PI_hi k4.1.2.2.2.1 _ (by decide)) (fun k => mB_cg (uv_idx _ _ _ _ (by decide)) (fun k => uv_cell _ _ _ _ (by decide)) k) (uv_idx _ _ _ _ (by decide)) (uv_idx _ _ _ _ (by decide)) (uv_idx _ _ _ _ (by decide)) (uv_idx _ _ _ _ (by decide)) (uv_idx _ _ _ _ (by decide))
        · by_cases z : i = t
          · subst z
            exact ⟨k, k1, k2, k3, (uv_cell _ _ _ _ (by decide)).trans k4.2.2.2.1, EQ3_lt k5 (fun _ => rfl) (kLen_3 k k2) fun b _ => uv_cell _ _ _ _ (by decide)⟩
          · have hi2 : i < t := by omega
            obtain ⟨l, l1, l2, l3, l4, l5⟩ := hs i hi2
            have hx := PX_ccF c
            have hy := cqs_PS (ccF c) t
            have m32 : ∀ b, b < 4 * t → (uv (mStep (mpk m)).2 15 39 (nI (t + 1))).1 32 b = m.1 32 b := fun b hb => (uv_cell _ _ _ _ (by decide)).trans (hB b hb)
            refine ⟨l, l1, l2, ?_, (m32 _ (by omega)).trans l4, EQ3_lt l5 (fun b => ?_) (kLen_3 l l2) fun b hb => m32 b (by omega)⟩
            · rw [ec1]
              show (cqs (ccF c) t).2.1 (108 + 2 * i) 1 = _
              rw [hy.2.1 _ (by omega), hx.2.1]
              exact l3
            · rw [ec1, uv_cell _ _ _ _ (by omega), hy.1 _ _ (by omega) (by omega), hx.1 _ _ (by omega)]
      · rw [cI_f p]
        have hn : cpS n (t + 1) (cp1 c t) = cp1 c t := by
          cases n with
          | zero => rfl
          | succ n => exact cI_f (fun z => e.2.2 z.1)
        rw [hn]
        exact Or.inr ⟨id, e⟩
theorem prs_cpR {σ s : St} {e : Nat} (he : e ≤ 900) (hX : TX σ s) (h30 : nb s 15 30 900) {a b : Int32} (ha : s.1 15 1 = a) (hb : s.1 15 2 = b) : SC (cpR σ e a b) (mSc 61 (uv (mopn s (nI e)) 15 39 (nI 0))).2 (mSc 61 (uv (mopn s (nI e)) 15 39 (nI 0))).1 := by
  have h := PRL_start he hX h30
  have o : ∀ j, j ≠ 26 ∧ j ≠ 27 ∧ j ≠ 28 ∧ j ≠ 29 ∧ j ≠ 32 ∧ j ≠ 33 → (mopn s (nI e)).1 15 j = s.1 15 j := fun j q => by
    unfold mopn
    rw [uv_idx _ _ _ _ (by omega), uv_idx _ _ _ _ (by omega), uv_idx _ _ _ _ (by omega), uv_idx _ _ _ _ (by omega), uv_idx _ _ _ _ (by omega), uv_idx _ _ _ _ (by omega)]
  have c3 : (cbe σ e).1 1 3 = nI 0 := by
    unfold cbe
    rw [csc_o _ _ (by decide), uv_idx _ _ _ _ (by decide)]
    exact uv_same _ _ _ _
  unfold cpR
  refine prs_sc (N1 := a) (N2 := b) 61 0 _ _ rfl ?_ ⟨?_, uv_same _ _ _ _, ?_, ?_⟩ (uv_same _ _ _ _) ?_ (by decide) (fun i hi => absurd hi (Nat.not_lt_zero _))
  · refine PRL.mg (PRL.cg h ?_ ?_ ?_ (uv_cell _ _ _ _ (by decide)) rfl rfl rfl rfl) (PI_hi h.2.2.2.1 _ (by decide)) (fun k => mB_cg (uv_idx _ _ _ _ (by decide)) (fun k => uv_cell _ _ _ _ (by decide)) k) (uv_idx _ _ _ _ (by decide)) (uv_idx _ _ _ _ (by decide)) (uv_idx _ _ _ _ (by decide)) (uv_idx _ _ _ _ (by decide)) (uv_idx _ _ _ _ (by decide))
    · rw [uv_idx _ _ _ _ (by decide), uv_idx _ _ _ _ (by decide)]
    · rw [uv_idx _ _ _ _ (by decide), uv_idx _ _ _ _ (by decide)]
    · rw [uv_idx _ _ _ _ (by decide), uv_idx _ _ _ _ (by decide)]
  · rw [uv_idx _ _ _ _ (by decide), uv_same]
  · rw [uv_idx _ _ _ _ (by decide), o _ (by decide)]; exact ha
  · rw [uv_idx _ _ _ _ (by decide), o _ (by decide)]; exact hb
  · rw [uv_idx _ _ _ _ (by decide), uv_idx _ _ _ _ (by decide)]; exact c3
end PR6
