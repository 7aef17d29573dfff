/-! the two parsers in step: a step -/
section PR5
variable {N1 N2 : Int32} {B : Nat → Int32} {t : Nat} {K : Int32} {c m : St}
theorem sq_1 {p : Prop} {s : St} {f : St → Prop × St} : (sq p s f).1 = (p ∧ (f s).1) := rfl
theorem cqf_n {τ : St} (p : Nat) (h : ¬ skd τ p = 9) : cqf τ p = τ := cI_f h
theorem cqf_y {τ : St} (p : Nat) (h : skd τ p = 9) : cqf τ p = fC p 900 (nI 1 <<< (τ.1 (108 + 2 * p + 1) 0 &&& 31)) τ := cI_t h
theorem zor (x : Int32) : nI 0 ||| x = x := by
  rw [nI_0]
  exact Int32.zero_or
theorem qr_rest (h : QR N1 N2 B t K c m) {k : Nat} (hk : skd c t = k) (h9 : 9 ≤ k) (h16 : k < 16) : RT N1 N2 B t K (kLen.getD (kOp.getD k 0) 0) (cqf (cto (3 - 0) t (kOp.getD k 0) 0 c) t) (mRest m (nI (k - 7))).2 (mRest m (nI (k - 7))).1 := by
  have hs : skd (cto (3 - 0) t (kOp.getD k 0) 0 c) t = k := by
    unfold skd
    rw [(PS_cto _ _ _ _ _).2]
    exact hk
  have hc : k = 9 ∨ k = 10 ∨ k = 11 ∨ k = 12 ∨ k = 13 ∨ k = 14 ∨ k = 15 := by omega
  unfold mRest
  rcases hc with rfl | rfl | rfl | rfl | rfl | rfl | rfl
  · rw [cqf_y t hs, cI_t rfl]
    show RT N1 N2 B t K 1 _ (sq (mCl m 1).1 (mCl m 1).2 (fun τ => cI (dgt (mB τ (msk τ))) (mFk 900 (nI 0 ||| (nI 1 <<< (τ.1 15 31 &&& 31))) (mpk τ)) (True, uv (mpk τ) 32 (4 * rd m 15 39 + 1) (nI 0 ||| (nI 1 <<< (τ.1 15 31 &&& 31)))))).2 (sq (mCl m 1).1 (mCl m 1).2 (fun τ => cI (dgt (mB τ (msk τ))) (mFk 900 (nI 0 ||| (nI 1 <<< (τ.1 15 31 &&& 31))) (mpk τ)) (True, uv (mpk τ) 32 (4 * rd m 15 39 + 1) (nI 0 ||| (nI 1 <<< (τ.1 15 31 &&& 31)))))).1
    rw [h.2.2.1]
    rcases rs_c h with ⟨p, q, e⟩ | ⟨p, q⟩
    · rw [sq_yy p]
      have ha := mInto_at h.1.2.2.2.1 p
      have e0 : (cto (3 - 0) t (kOp.getD 9 0) 0 c).1 (108 + 2 * t + 1) 0 = (mCl m 1).2.1 15 31 := by
        refine (e 0 (by decide)).trans ?_
        have pn : pN m (nI 0) (m.1 15 1 - nI 1) := p.1
        show (sq (pN m (nI 0) (m.1 15 1 - nI 1)) _ _).2.1 32 _ = (sq (pN m (nI 0) (m.1 15 1 - nI 1)) _ _).2.1 15 31
        rw [sq_yy pn, h.2.2.1]
        exact (uv_same _ _ _ _).trans (uv_cell _ _ _ _ (by decide)).symm
      rw [e0]
      have hr := fR_ok 900 900 (nI 1 <<< ((mCl m 1).2.1 15 31 &&& 31)) _ _ q (by omega) (by have : rd m 15 27 + 1 ≤ rd (mCl m 1).2 15 27 := ha; omega)
      unfold fR at hr
      rw [zor]
      exact hr
    · refine Or.inr ⟨fun z => p z.1, ?_⟩
      rw [(sq_n p).2]
      refine ERR.tK ?_ 2
      have q' : ERR (cto (3 - 0) t (kOp.getD 9 0) 0 c) (mCl m 1).2 := q
      unfold fC
      rw [crs_n (fun z => q'.2.2 z.1)]
      exact q.cg (uv_cell _ _ _ _ (by omega)) (uv_cell _ _ _ _ (by omega))
  · rw [cqf_n t (by rw [hs]; decide), cI_f (by decide), cI_t rfl]; exact (rs_cb h).rt
  · rw [cqf_n t (by rw [hs]; decide), cI_f (by decide), cI_f (by decide), cI_t rfl]; exact (rs_bn h).rt
  · rw [cqf_n t (by rw [hs]; decide), cI_f (by decide), cI_f (by decide), cI_f (by decide), cI_t rfl]; exact (rs_bnv h).rt
  · rw [cqf_n t (by rw [hs]; decide), cI_f (by decide), cI_f (by decide), cI_f (by decide), cI_f (by decide), cI_t rfl]; exact (rs_cc h).rt
  · rw [cqf_n t (by rw [hs]; decide), cI_f (by decide), cI_f (by decide), cI_f (by decide), cI_f (by decide), cI_f (by decide), cI_t rfl]; exact (rs_c h).rt
  · rw [cqf_n t (by rw [hs]; decide), cI_f (by decide), cI_f (by decide), cI_f (by decide), cI_f (by decide), cI_f (by decide), cI_f (by decide)]; exact (rs_bb h).rt
/-- what a step has become -/
def SO (N1 N2 : Int32) (B : Nat → Int32) (t : Nat) (c m : St) (p : Prop) : Prop := (p ∧ t < 60 ∧ ∃ k, 7 ≤ k ∧ k < 16 ∧ c.2.1 (108 + 2 * t) 1 = some k ∧ QR N1 N2 B t (nI (k - 7)) c m ∧ EQ3 t (kLen.getD (kOp.getD k 0) 0) c m) ∨ (¬ p ∧ ERR c m)
/-- the semicolon -/
theorem so_S {k A : Nat} {p : Prop} (h : RT N1 N2 B t (nI (k - 7)) A c m p) (ht : t < 60) (h7 : 7 ≤ k) (h16 : k < 16) (hk : c.2.1 (108 + 2 * t) 1 = some k) (hA : A = kLen.getD (kOp.getD k 0) 0) : SO N1 N2 B t (ctK c 2) (sq p m (fun s => (pS s, sS s))).2 (sq p m (fun s => (pS s, sS s))).1 := by
  subst hA
  rcases h with ⟨p, q, e⟩ | ⟨p, q⟩
  · rw [sq_yy p]
    rcases prs_S q.1 with ⟨y, z⟩ | ⟨y, z⟩
    · refine Or.inl ⟨y, ht, k, h7, h16, by rw [(PX_ctK _ _).2.1]; exact hk, q.nx (PX_ctK _ _) (LX_sS _) z, fun a ha => ?_⟩
      rw [(PX_ctK _ _).1 _ _ (by omega), (LX_sS m).1 _ _ (by omega)]
      exact e a ha
    · exact Or.inr ⟨y, z⟩
  · exact Or.inr ⟨fun z => p z.1, by rw [(sq_n p).2]; exact q⟩
theorem stp_k : ∀ k, k < 16 → 9 ≤ k → stp (Int64.ofNat (WV.getD k 0)) = nI (k - 7) ∧ ¬ stp (Int64.ofNat (WV.getD k 0)) = -1 := by decide
theorem stp_inv {w : Int64} (h : ¬ stp w = -1) : ∃ k, 9 ≤ k ∧ k < 16 ∧ w = Int64.ofNat (WV.getD k 0) := by
  unfold stp at h
  by_cases h1 : w = 212555
  · exact ⟨9, by decide, by decide, h1⟩
  rw [if_neg h1] at h
  by_cases h2 : w = 442053
  · exact ⟨10, by decide, by decide, h2⟩
  rw [if_neg h2] at h
  by_cases h3 : w = 609985988
  · exact ⟨11, by decide, by decide, h3⟩
  rw [if_neg h3] at h
  by_cases h4 : w = 3744028180
  · exact ⟨12, by decide, by decide, h4⟩
  rw [if_neg h4] at h
  by_cases h5 : w = 197677594853
  · exact ⟨13, by decide, by decide, h5⟩
  rw [if_neg h5] at h
  by_cases h6 : w = 540276
  · exact ⟨14, by decide, by decide, h6⟩
  rw [if_neg h6] at h
  by_cases h7 : w = 267308
  · exact ⟨15, by decide, by decide, h7⟩
  rw [if_neg h7] at h
  exact absurd rfl h
theorem kOS_k : ∀ k, k < 16 → (kOS.getD k 0 = 0 ↔ k < 9) := by decide
theorem sW_34 (z : pW m) : (sW m).2.2 15 34 = wvl (mB m) (msk m) (mwl m) := by
  rw [sW_t z]
  unfold sW1
  show (ul (mpk m) 15 34 (wvl (mB m) (msk m) (mwl m))).2.2 15 34 = _
  exact ul_same _ _ _ _
theorem sW_30 (z : pW m) : (sW m).1 15 30 = nI (msk m) := by
  rw [sW_t z]
  unfold sW1
  rw [uv_idx _ _ _ _ (by decide), uv_idx _ _ _ _ (by decide), ul_c]
  exact uv_same _ _ _ _
/-- behind an error a step changes nothing that counts -/
theorem ERR.cqs (h : ERR c m) (p : Nat) : ERR (cqs c p) m := by
  have e0 : ERR (cq0 c p) m := by
    unfold cq0
    rw [ctN_e h.2.2]
    exact h.cg (uv_cell _ _ _ _ (by omega)) (uv_cell _ _ _ _ (by omega))
  have e1 : ERR (cq1 c p) m := by
    unfold cq1
    have e0' : ERR (cqk (cq0 c p) p) m := ERR.cg e0 rfl rfl
    exact e0'.tK _
  have e2 : ERR (cq2 c p) m := by
    unfold cq2
    rw [ctt_e (c := cqk c p) h.2.2]
    exact h.cg rfl rfl
  have e3 : ERR (cq3 c p) m := cI_a2 (Q := fun z : St => ERR z m) (fun _ => e1.cto _ _ _ _) fun _ => e2.cto _ _ _ _
  have e4 : ERR (cqf (cq3 c p) p) m := by
    refine cI_a2 (Q := fun z : St => ERR z m) (fun _ => ?_) fun _ => e3
    rw [crs_n (fun z => e3.2.2 z.1)]
    exact e3.cg (uv_cell _ _ _ _ (by omega)) (uv_cell _ _ _ _ (by omega))
  exact e4.tK 2
theorem cp1_e {C : St} (hC : ccF c = C) (h : ERR C m) (t : Nat) : ERR (cp1 c t) m := by
  unfold cp1
  rw [hC]
  refine cI_a2 (Q := fun z : St => ERR z m) (fun _ => (h.cqs t).cg (uv_idx _ _ _ _ (by decide)) (uv_idx _ _ _ _ (by decide))) fun _ => ?_
  rw [cfa_e h.2.2]
  exact h
theorem SO.c3 {p : Prop} (h : SO N1 N2 B t c m p) (v : Int32) : SO N1 N2 B t (uv c 1 3 v) m p := by
  rcases h with ⟨a, b, k, h1, h2, h3, h4, h5⟩ | ⟨a, b⟩
  · exact Or.inl ⟨a, b, k, h1, h2, h3, h4.cg (fun _ _ => uv_idx _ _ _ _ (by omega)) (uv_cell _ _ _ _ (by omega)) (uv_fun _ _ _ (by omega)) rfl (uv_fun _ _ _ (by omega)) (uv_fun _ _ _ (by omega)), fun x hx => (uv_cell _ _ _ _ (by omega)).trans (h5 x hx)⟩
  · exact Or.inr ⟨a, b.cg (uv_idx _ _ _ _ (by decide)) (uv_idx _ _ _ _ (by decide))⟩
/-- a step that begins with no digit -/
theorem prs_W (h : QR N1 N2 B t K c m) (ht : t ≤ 60) (hd : ¬ dgt (mB m (msk m))) : SO N1 N2 B t (cp1 c t) (sq (pW m) (sW m) (fun s => mSt2 s s)).2 (sq (pW m) (sW m) (fun s => mSt2 s s)).1 := by
  obtain ⟨F, hF, hK⟩ := h.1.tok
  have k3 : ¬ kdH c = 3 := fun z => hd (hK.2.2.1.mp z).1.1
  have eF : ccF c = cI (kOS.getD (kdH c) 0 = 0) (cfa c (nI 1)) c := cI_f k3
  have hlt := h.1.2.2.1.lt
  have hos := kOS_k _ hlt
  by_cases q : 9 ≤ kdH c
  · have eF2 : ccF c = c := by rw [eF, cI_f (fun z => by have := hos.mp z; omega)]
    obtain ⟨pw, hw⟩ := (hK.2.2.2.2.1 (kdH c) (by omega) hlt).mp rfl
    rw [sq_yy pw]
    have e34 : (sW m).2.2 15 34 = Int64.ofNat (WV.getD (kdH c) 0) := (sW_34 pw).trans hw
    obtain ⟨s1, s2⟩ := stp_k _ hlt q
    unfold mSt2
    rw [e34, cI_f s2, s1]
    have hl := LX_sW m
    have e39 : rd (sW m) 15 39 = t := (LX_rdx hl (by omega)).trans h.2.2.1
    rw [e39]
    unfold mMany
    rw [e39]
    have e30 : rd (sW m) 15 30 = msk m := rd_of (sW_30 pw) (by have := h.1.2.2.2.1.sk.2.1; have := h.1.2.2.2.1.2.1.2; omega)
    rw [e30]
    unfold cp1
    rw [eF2]
    by_cases h60 : t = 60
    · rw [cI_f (show ¬ t < 60 by omega)]
      refine Or.inr ⟨fun z => z.1 h60, ?_⟩
      rw [(sq_n (fun z => z h60)).2]
      show ERR _ (cI (t = 60) (mfl (sW m) (nI 3) (nI (msk m))) (sW m))
      rw [cI_t h60]
      exact (h.1.err hK (by decide) (mfl_32 _ _ _).1 (mfl_32 _ _ _).2).2
    · have h6 : t < 60 := by omega
      rw [cI_t h6]
      refine SO.c3 ?_ _
      rw [sq_yy (show ¬ (t = 60) from h60)]
      have eS : cI (t = 60) (mfl (sW m) (nI 3) (nI (msk m))) (sW m) = sW m := cI_f h60
      rw [eS]
      obtain ⟨x1, x2, x3⟩ := cqk_ok h.1.2.2.1 t
      have hq : QR N1 N2 B t K (cqk c t) m := h.cg (fun _ _ => rfl) rfl rfl (u2_ne _ _ _ _ (by omega)) rfl rfl
      have eH : kdH (cqk c t) = kdH c := kdH_cg rfl (u2_ne _ _ _ _ (by omega))
      have h2 : QR N1 N2 B t K (cq2 c t) (sW m) := by
        rcases prs_T hq.1 (k := kdH c) (by omega) hlt rfl with ⟨y1, y2⟩ | ⟨y1, y2⟩
        · have eT : sT m (Int64.ofNat (WV.getD (kdH c) 0)) = sW m := by
            unfold sT
            rw [cI_t pw, cI_t e34]
          have eK : ctK (cqk c t) (kdH c) = cq2 c t := by
            unfold ctK cq2
            rw [cI_t eH]
          rw [eT, eK] at y2
          exact hq.nx (PX_ctt _) hl y2
        · exact absurd ⟨pw, e34⟩ y1
      have hsk := (cq2_sk h.1.2.2.1 t).2
      have h3 := qr_rest (h2.mk' (nI (kdH c - 7))) hsk q hlt
      have e3 : cq3 c t = cto (3 - 0) t (kOp.getD (kdH c) 0) 0 (cq2 c t) := by
        unfold cq3
        rw [cI_f k3, hsk]
      rw [← e3] at h3
      refine so_S h3 h6 (by omega) hlt ?_ rfl
      rw [cqf_2, e3, (PS_cto _ _ _ _ _).2]
      rw [← hsk]
      exact (cq2_sk h.1.2.2.1 t).1.1
  · have hE : ∀ m' : St, m'.1 15 32 = nI 1 ∧ m'.1 15 33 = nI (msk m) → ERR (cp1 c t) m' := fun m' z => cp1_e (eF.trans (cI_t (hos.mpr (by omega)))) (h.1.err hK (by decide) z.1 z.2).2 t
    by_cases pw : pW m
    · rw [sq_yy pw]
      have hs : stp ((sW m).2.2 15 34) = -1 := by
        by_cases z : stp ((sW m).2.2 15 34) = -1
        · exact z
        · obtain ⟨k, y1, y2, y3⟩ := stp_inv z
          have := (hK.2.2.2.2.1 k (by omega) y2).mpr ⟨pw, (sW_34 pw).symm.trans y3⟩
          omega
      have e30 : rd (sW m) 15 30 = msk m := rd_of (sW_30 pw) (by have := h.1.2.2.2.1.sk.2.1; have := h.1.2.2.2.1.2.1.2; omega)
      unfold mSt2
      rw [cI_t hs, e30]
      exact Or.inr ⟨id, hE _ (mfl_32 _ _ _)⟩
    · refine Or.inr ⟨fun z => pw z.1, ?_⟩
      rw [(sq_n pw).2]
      refine hE _ ?_
      unfold sW
      rw [cI_f pw]
      exact mfl_32 _ _ _
end PR5
