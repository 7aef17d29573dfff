/-! load and feed, the class's and the reference's -/
section LD3
variable {c m : St}
theorem IV.uN (h : IV c m) {j n : Nat} (hj : (j = 5 ∧ n ≤ 60) ∨ (j = 26 ∧ n ≤ 900)) : IV c (uv m 15 j (nI n)) := by
  have e1 : rd (uv m 15 j (nI n)) 15 1 = rd m 15 1 := rd_idx _ _ _ _ (by omega)
  have e4 : rd (uv m 15 j (nI n)) 15 4 = rd m 15 4 := rd_idx _ _ _ _ (by omega)
  have hS := h.1.m15 (x := j) (nI n) (by omega)
  have hav := MAV h.2.2.1 h.2.2.2 (m' := uv m 15 j (nI n)) (fun a x q => by rw [uv_ap, if_neg (by omega)])
  refine ⟨by rw [e1]; exact hS, ⟨MI_u15 h.2.1.1 (by omega), fun q hq => ?_⟩, hav.1, hav.2⟩
  rw [e1] at hq
  rw [e4, rd_uv (by decide)]
  exact h.2.1.2 q hq
/-- the outcome of load and run: IllegalArgumentException is 1, IllegalStateException 2 -/
def QL (w : Option String) (Rc Rm th : Int32) : Prop := (w = none ∧ Rc = Rm ∧ th = nI 0) ∨ (w = some exA ∧ th = nI 1) ∨ (w = some exI ∧ th = nI 2)
theorem iv_ld (h : Inv c m) (n : Int32) : Inv (clS c n) (mld m n).2 ∧ QL (wLo c n) ((csv (cpv (uv c 0 2 (nI 0)) (cn n)) ((cpv (uv c 0 2 (nI 0)) (cn n)).1 1 4) ((cpv (uv c 0 2 (nI 0)) (cn n)).1 1 5) ((cpv (uv c 0 2 (nI 0)) (cn n)).1 1 6)).1 8 4) (mld m n).1 ((mld m n).2.1 15 0) := by
  have hq := h.lenq n
  unfold clS wLo mld
  by_cases q : ¬ n < 0 ∧ n ≤ nI (rd c 0 2)
  case neg =>
    rw [cI_f q, cI_f q, cI_f (fun z => q (hq.mpr z))]
    exact ⟨(h.u0 _).u0 _, Or.inr (Or.inl ⟨rfl, uv_same _ _ _ _⟩)⟩
  rw [cI_t q, cI_t q, cI_t (hq.mp q)]
  obtain ⟨en, he⟩ := len_n h.fed.1 q
  have h0 := h.u0 (nI 0)
  have hX : TX (uv c 0 2 (nI 0)) (m0 m) := fun k hk => by rw [uv_cell _ _ _ _ (by decide)]; exact h0.2.1 k hk
  have hsr := prs_cpv (σ := uv c 0 2 (nI 0)) (s := m0 m) he hX h0.2.2.2.2.2
  have hPI := PI_mSrv (PRL_start (σ := uv c 0 2 (nI 0)) (s := m0 m) he hX h0.2.2.2.2.2).2.2.2.1
  have hz := LZ_mSrv (mopn (m0 m) (nI (cn n)))
  rw [← en] at hsr hPI hz
  have fc : ∀ a b, a ≠ 1 ∧ a ≠ 2 ∧ a ≠ 5 ∧ a ≠ 6 → (cpv (uv c 0 2 (nI 0)) (cn n)).1 a b = (uv c 0 2 (nI 0)).1 a b := fun a b z => cpv_a _ _ _ z
  have fm : ∀ a b, ¬ (a = 15 ∧ (b = 26 ∨ b = 27 ∨ b = 28 ∨ b = 29 ∨ b = 30 ∨ b = 31 ∨ b = 32 ∨ b = 33 ∨ b = 35 ∨ b = 36 ∨ b = 37)) → (mSrv (mopn (m0 m) n)).2.1 a b = (m0 m).1 a b := fun a b z => (hz.1 a b (by omega)).trans (mopn_o _ _ (by omega))
  have f26 : (mSrv (mopn (m0 m) n)).2.1 15 26 = nI 0 := by
    rw [hz.1 15 26 (by omega)]
    unfold mopn
    exact uv_same _ _ _ _
  have hMS : (mSrv (mopn (m0 m) n)).1 → MI (mset (mSrv (mopn (m0 m) n)).2) := fun z => by
    obtain ⟨a, b, d, e1, e2, e3, -, r2, -, r4, r5, r6⟩ := mSrv_ok z
    exact MI_mset (MI_mopn h0.1.2.1.1 n) hz e1 e2 e3 r2 r4 ⟨r5, r6⟩
  generalize cpv (uv c 0 2 (nI 0)) (cn n) = C at hsr fc ⊢
  generalize mSrv (mopn (m0 m) n) = R at hsr hPI fm f26 hMS ⊢
  clear hz
  have hS : Sim (rd m 15 1 ≠ 0) C R.2 := h0.1.1.same (p := rd (m0 m) 15 1 ≠ 0) (fun a x h1 h2 h3 h4 => (fc a x (by omega)).trans (uv_cell _ _ _ _ (by omega))) (fun a x h1 h2 h3 => fm a x (by omega)) |>.mono (fun z => by rw [rd_idx _ _ _ _ (by decide)]; exact z)
  have hV : MV R.2 := MV_same h0.1.2.2.1 (fun i => fm 20 i (by omega))
  have hTX : TX C R.2 := fun k hk => by rw [fc 3 k (by omega), fm 31 k (by omega)]; exact hX k hk
  have c02 : C.1 0 2 = nI 0 := (fc 0 2 (by omega)).trans (uv_same _ _ _ _)
  rcases hsr with ⟨p, ⟨s1, s2⟩, ⟨s3, s4⟩, s5, s6, s7⟩ | ⟨p, s1, s2, s3⟩
  · have s1' : C.1 1 7 = 0 := s1.trans nI_0
    rw [cI_t s1', cI_t s1', cI_t p, s5, s6, s7]
    have hN := iv_new (hS.mono (fun z => z.elim)) (hMS p) hV
    have fm6 : ∀ a b, a = 31 ∨ (a = 15 ∧ 25 ≤ b) → (mst (mset R.2) 6).1 a b = R.2.1 a b := fun a b z => by
      rw [mst6_ap]
      repeat first | rw [if_neg (by omega)]
    have fc6 : ∀ a b, a < 8 → (csv C (R.2.1 15 35) (R.2.1 15 36) (R.2.1 15 37)).1 a b = C.1 a b := fun a b z => by
      rw [csv_ap]
      repeat first | rw [if_neg (by omega)]
    refine ⟨⟨hN.cg (fun a b _ _ _ _ => uv_cell _ _ _ _ (by omega)), fun k hk => ?_, ?_, ?_, ⟨?_, ?_⟩, ?_⟩, Or.inl ⟨rfl, ?_, ?_⟩⟩
    · rw [uv_cell _ _ _ _ (by decide), fc6 3 k (by decide), fm6 31 k (by omega)]; exact hTX k hk
    · rw [uv_idx _ _ _ _ (by decide), fc6 0 2 (by decide), fm6 15 26 (by omega), c02, f26]
    · rw [uv_same, mst6_ap]
      repeat first | rw [if_neg (by omega)] | rw [if_pos (by omega)]
    · rw [uv_cell _ _ _ _ (by decide), fc6 1 7 (by decide), fm6 15 32 (by omega), s1, s3]
    · rw [uv_cell _ _ _ _ (by decide), fc6 1 8 (by decide), fm6 15 33 (by omega), s2, s4]
    · exact nb_cg (fm6 15 30 (by omega)) hPI.2.2.1 hPI.2.2.1.2
    · rw [csv_ap, mst6_ap]
      repeat first | rw [if_neg (by omega)] | rw [if_pos (by omega)]
    · rw [mst6_ap]
      repeat first | rw [if_neg (by omega)]
      rw [fm 15 0 (by omega)]
      exact uv_same _ _ _ _
  · have s3' : ¬ C.1 1 7 = 0 := s3
    rw [cI_f s3', cI_f s3', cI_f p]
    refine ⟨Inv.u0 ⟨?_, hTX, c02.trans f26.symm, ?_, ⟨s1, s2⟩, hPI.2.2.1⟩ _, Or.inr (Or.inr ⟨rfl, uv_same _ _ _ _⟩)⟩
    · refine ((h0.1.uN (j := 26) (n := 0) (by omega)).cg (fun a b h1 h2 h3 h4 => (fc a b (by omega)).trans (uv_cell _ _ _ _ (by omega)))).mg (fun a b h1 h2 h3 => ?_)
      by_cases z : a = 15 ∧ b = 26
      · rw [z.1, z.2, f26, uv_same]
      · rw [fm a b (by omega), uv_ap (uv m 15 0 (nI 0)), if_neg z]
    · rw [fc 0 3 (by omega), uv_idx _ _ _ _ (by decide), fm 15 5 (by omega)]
      exact h0.2.2.2.1
end LD3
