/-! run and feed, the class's and the reference's -/
section RN2
variable {c m : St}
theorem cp1_a (σ : St) (t : Nat) {a : Nat} (b : Nat) (h : a < 108 ∧ a ≠ 1) : (cp1 σ t).1 a b = σ.1 a b := by
  refine cI_a2 (Q := fun z : St => z.1 a b = σ.1 a b) (fun _ => ?_) fun _ => ?_
  · rw [uv_cell _ _ _ _ h.2, (cqs_PS _ _).1 _ _ (by omega) (by omega), (PX_ccF _).1 _ _ (by omega)]
  · rw [(PX_cfa _ _).1 _ _ (by omega), (PX_ccF _).1 _ _ (by omega)]
theorem cpS_a : ∀ (n t : Nat) (σ : St) {a : Nat} (b : Nat), a < 108 ∧ a ≠ 1 → (cpS n t σ).1 a b = σ.1 a b := by
  intro n
  induction n with
  | zero => intro t σ a b _; rfl
  | succ n ih => intro t σ a b h; exact cI_a2 (Q := fun z : St => z.1 a b = σ.1 a b) (fun _ => (ih _ _ _ h).trans (cp1_a _ _ _ h)) fun _ => rfl
theorem cpR_a (s : St) (e : Nat) (x y : Int32) {a : Nat} (b : Nat) (h : a < 108 ∧ a ≠ 1 ∧ a ≠ 2 ∧ a ≠ 5 ∧ a ≠ 6) : (cpR s e x y).1 a b = s.1 a b := by
  unfold cpR
  rw [cpS_a _ _ _ _ ⟨h.1, h.2.1⟩, uv_cell _ _ _ _ h.2.1, uv_cell _ _ _ _ h.2.1, cbe_a _ _ _ h.2]
theorem iv_ru (h : Inv c m) (n : Int32) : Inv (crS c n) (mrn m n).2 ∧ QL (wRu c n) (nI ((cRn (crP c n) (rd (crP c n) 1 3)).1)) (mrn m n).1 ((mrn m n).2.1 15 0) ∧ ((¬ n < 0 ∧ n ≤ nI (rd c 0 2)) → rd c 8 4 ≠ 0 → (crP c n).1 1 7 = 0 → cOK (crP c n) (rd (crP c n) 1 3)) ∧ ((∀ a b, a < 15 ∨ 32 < a → (mrn m n).2.1 a b = m.1 a b) ∧ LL m (mrn m n).2) ∧ ∀ a b, 15 ≤ a ∧ a ≤ 33 → (crS c n).1 a b = c.1 a b := by
  have hq := h.lenq n
  unfold crS wRu mrn
  by_cases q : ¬ n < 0 ∧ n ≤ nI (rd c 0 2)
  case neg =>
    rw [cI_f q, cI_f q, cI_f (fun z => q (hq.mpr z))]
    exact ⟨(h.u0 _).u0 _, Or.inr (Or.inl ⟨rfl, uv_same _ _ _ _⟩), fun z => absurd z q, ⟨fun a b y => (uv_cell _ _ _ _ (by omega)).trans (uv_cell _ _ _ _ (by omega)), rfl⟩, fun _ _ _ => rfl⟩
  rw [cI_t q, cI_t q, cI_t (hq.mp q)]
  have h0 := h.u0 (nI 0)
  have hrc := h.1.1.rcl
  by_cases q1 : rd c 8 4 = 0
  · rw [cI_t q1, cI_t q1, cI_t (hrc.symm.trans q1)]
    refine ⟨Inv.u0 ⟨?_, fun k hk => ?_, ?_, ?_, ⟨?_, ?_⟩, ?_⟩ _, Or.inr (Or.inr ⟨rfl, uv_same _ _ _ _⟩), fun _ z => absurd q1 z, ⟨fun a b y => (uv_cell _ _ _ _ (by omega)).trans ((uv_cell _ _ _ _ (by omega)).trans (uv_cell _ _ _ _ (by omega))), rfl⟩, fun a b y => uv_cell _ _ _ _ (by omega)⟩
    · exact (h0.1.uN (j := 26) (n := 0) (by omega)).cg (fun a b h1 h2 h3 h4 => uv_cell _ _ _ _ (by omega))
    · rw [uv_cell _ _ _ _ (by decide), uv_cell _ _ _ _ (by decide)]; exact h0.2.1 k hk
    · rw [uv_same, uv_same]
    · rw [uv_idx _ _ _ _ (by decide), uv_idx _ _ _ _ (by decide)]; exact h0.2.2.2.1
    · rw [uv_cell _ _ _ _ (by decide), uv_idx _ _ _ _ (by decide)]; exact h0.2.2.2.2.1.1
    · rw [uv_cell _ _ _ _ (by decide), uv_idx _ _ _ _ (by decide)]; exact h0.2.2.2.2.1.2
    · exact nb_cg (uv_idx _ _ _ _ (by decide)) h0.2.2.2.2.2 h0.2.2.2.2.2.2
  rw [cI_f q1, cI_f q1, cI_f (fun z => q1 (hrc.trans z))]
  obtain ⟨en, he⟩ := len_n h.fed.1 q
  have hX : TX (uv c 0 2 (nI 0)) (m0 m) := fun k hk => by rw [uv_cell _ _ _ _ (by decide)]; exact h0.2.1 k hk
  have hM := h.1.2.1.1
  have hsc := prs_cpR (σ := uv c 0 2 (nI 0)) (s := m0 m) he hX h0.2.2.2.2.2 (a := nI (rd c 8 4)) (b := nI (rd c 8 5)) (by rw [uv_idx _ _ _ _ (by decide), hrc]; exact hM.1.1.1) (by rw [uv_idx _ _ _ _ (by decide), h.1.1.rbk]; exact hM.1.2.1.1)
  have hst := (PRL_start (σ := uv c 0 2 (nI 0)) (s := m0 m) he hX h0.2.2.2.2.2).2.2.2.1
  rw [← en] at hsc hst
  obtain ⟨n1, n2⟩ := nb_of (σ := uv (mopn (m0 m) n) 15 39 (nI 0)) (k := 15) (j := 39) (m := 60) (uv_same _ _ _ _) (Nat.zero_le _) (by decide)
  obtain ⟨hlv, hPI, -⟩ := mSc_ok 61 (uv (mopn (m0 m) n) 15 39 (nI 0)) (PI_hi hst _ (by decide)) n1 (by rw [n2])
  have fc : ∀ a b, a < 108 ∧ a ≠ 1 ∧ a ≠ 2 ∧ a ≠ 5 ∧ a ≠ 6 → (crP c n).1 a b = (uv c 0 2 (nI 0)).1 a b := fun a b z => cpR_a _ _ _ _ _ z
  have fm : ∀ a b, a ≠ 32 → ¬ (a = 15 ∧ (b = 26 ∨ b = 27 ∨ b = 28 ∨ b = 29 ∨ b = 30 ∨ b = 31 ∨ b = 32 ∨ b = 33 ∨ b = 39)) → (mrq m n).2.1 a b = (m0 m).1 a b := fun a b y z => (hlv.1 a b y (by omega)).trans (by rw [uv_ap, if_neg (by omega)]; exact mopn_o _ _ (by omega))
  have f26 : (mrq m n).2.1 15 26 = nI 0 := by
    show (mSc 61 (uv (mopn (m0 m) n) 15 39 (nI 0))).2.1 15 26 = nI 0
    rw [hlv.1 15 26 (by omega) (by omega), uv_idx _ _ _ _ (by decide)]
    unfold mopn
    exact uv_same _ _ _ _
  have hll : LL m (mrq m n).2 := LL_mSc 61 (uv (mopn (m0 m) n) 15 39 (nI 0))
  have hsc2 : SC (crP c n) (mrq m n).2 (mrq m n).1 := hsc
  have hPI2 : PI (mrq m n).2 := hPI
  clear hsc hPI hlv hst
  generalize crP c n = C at hsc2 fc ⊢
  generalize mrq m n = R at hsc2 hPI2 fm f26 hll ⊢
  have hIV : IV C R.2 := by
    refine ((h0.1.uN (j := 26) (n := 0) (by omega)).cg (fun a b h1 h2 h3 h4 => (fc a b (by omega)).trans (uv_cell _ _ _ _ (by omega)))).mg (fun a b h1 h2 h3 => ?_)
    by_cases z : a = 15 ∧ b = 26
    · rw [z.1, z.2, f26, uv_same]
    · rw [fm a b (by omega) (by omega), uv_ap (uv m 15 0 (nI 0)), if_neg z]
  have hTX : TX C R.2 := fun k hk => by rw [fc 3 k (by omega), fm 31 k (by omega) (by omega)]; exact hX k hk
  have c02 : C.1 0 2 = nI 0 := (fc 0 2 (by omega)).trans (uv_same _ _ _ _)
  rcases hsc2 with ⟨p, ⟨s1, s2⟩, ⟨s3, s4⟩, N, hN, s5, s6, s7⟩ | ⟨p, s1, s2, s3⟩
  · have s1' : C.1 1 7 = 0 := s1.trans nI_0
    have rN : rd C 1 3 = N := rd_of s5 (by omega)
    have rM : rd R.2 15 39 = N := rd_of s6 (by omega)
    unfold mre
    rw [cI_t s1', cI_t s1', cI_t p, rN, rM]
    have hI5 : IV C (uv R.2 15 5 (nI 0)) := hIV.uN (by omega)
    have hst5 : ∀ i, i < N → ST9 C (uv R.2 15 5 (nI 0)) i := fun i hi => (s7 i hi).cg (KU.rf C) ⟨fun a b z => by rw [uv_ap, if_neg (by omega)], rfl⟩
    have hrn := iv_rn hI5 hN hst5 (uv_same _ _ _ _)
    obtain ⟨i1, i2, i3, i4, i5⟩ := hrn N (Nat.le_refl _)
    have fm2 : ∀ a b, (a = 15 ∧ 25 ≤ b) ∨ 30 < a → (mRk N (uv R.2 15 5 (nI 0))).1 a b = R.2.1 a b := fun a b z => (i3.1 a b (by omega)).trans (by rw [uv_ap, if_neg (by omega)])
    have fc2 : ∀ a b, a < 8 → (cRn C N).2.1 a b = C.1 a b := fun a b z => by rw [i2.1 a (show ¬ OKc a by omega)]
    have e5 := i5.1
    have hle := cRn_le C N
    have hd : N - (cRn C N).1 = rd (mRk N (uv R.2 15 5 (nI 0))) 15 5 := by omega
    refine ⟨Inv.u0 ⟨i1.cg (fun a b h1 h2 h3 h4 => uv_cell _ _ _ _ (by omega)), fun k hk => ?_, ?_, ?_, ⟨?_, ?_⟩, ?_⟩ _, Or.inl ⟨rfl, ?_, uv_same _ _ _ _⟩, fun _ _ _ i hi => (hrn i hi).1.ci, ⟨fun a b y => ?_, ?_⟩, fun a b y => ?_⟩
    · rw [uv_cell _ _ _ _ (by decide), fc2 3 k (by decide), fm2 31 k (by omega)]; exact hTX k hk
    · rw [uv_idx _ _ _ _ (by decide), fc2 0 2 (by decide), fm2 15 26 (by omega), c02, f26]
    · rw [uv_same, hd]; exact e5.symm
    · rw [uv_cell _ _ _ _ (by decide), fc2 1 7 (by decide), fm2 15 32 (by omega), s1, s3]
    · rw [uv_cell _ _ _ _ (by decide), fc2 1 8 (by decide), fm2 15 33 (by omega), s2, s4]
    · exact nb_cg (fm2 15 30 (by omega)) hPI2.2.2.1 hPI2.2.2.1.2
    · show nI (cRn C N).1 = nI (N - rd (mRk N (uv R.2 15 5 (nI 0))) 15 5)
      rw [show N - rd (mRk N (uv R.2 15 5 (nI 0))) 15 5 = (cRn C N).1 by omega]
    · show (uv (mRk N (uv R.2 15 5 (nI 0))) 15 0 (nI 0)).1 a b = m.1 a b
      rw [uv_cell _ _ _ _ (by omega), i3.1 a b (by omega), uv_cell _ _ _ _ (by omega), fm a b (by omega) (by omega), uv_cell _ _ _ _ (by omega)]
    · show (mRk N (uv R.2 15 5 (nI 0))).2.2 33 = m.2.2 33
      rw [i3.2]
      exact hll
    · rw [uv_cell _ _ _ _ (by omega), i2.1 a (show ¬ OKc a by omega), fc a b (by omega), uv_cell _ _ _ _ (by omega)]
  · have s3' : ¬ C.1 1 7 = 0 := s3
    rw [cI_f s3', cI_f s3', cI_f p]
    refine ⟨Inv.u0 ⟨hIV, hTX, c02.trans f26.symm, ?_, ⟨s1, s2⟩, hPI2.2.2.1⟩ _, Or.inr (Or.inr ⟨rfl, uv_same _ _ _ _⟩), fun _ _ z => absurd z s3', ⟨fun a b y => ?_, hll⟩, fun a b y => (fc a b (by omega)).trans (uv_cell _ _ _ _ (by omega))⟩
    · rw [fc 0 3 (by omega), uv_idx _ _ _ _ (by decide), fm 15 5 (by omega) (by omega)]
      exact h0.2.2.2.1
    · show (uv R.2 15 0 (nI 2)).1 a b = m.1 a b
      rw [uv_cell _ _ _ _ (by omega), fm a b (by omega) (by omega), uv_cell _ _ _ _ (by omega)]
end RN2
