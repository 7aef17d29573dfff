/-! the steps of a script are done alike -/
section RN
variable {c m : St}
theorem OC_lt {rc Rm th : Int32} {t1 t2 t3 : Nat} (h : OC rc Rm th t1 t2 t3) (h1 : t1 ≤ 3) (h2 : t2 ≤ 3) (h3 : t3 ≤ 3) : rc < 0 ↔ ¬ th ≤ 0 := by
  have a : ∀ t, t ≤ 3 → t ≠ 0 → ¬ nI t ≤ 0 := by
    intro t ht h0
    have : t = 1 ∨ t = 2 ∨ t = 3 := by omega
    rcases this with rfl | rfl | rfl <;> decide
  rcases h with ⟨-, h, e⟩ | ⟨z, h, e⟩ | ⟨z, h, e⟩ | ⟨z, h, e⟩
  · rw [e]
    exact ⟨fun y => absurd h (Int32.not_le.mpr y), fun y => absurd (by decide) y⟩
  · rw [e, h]; exact ⟨fun _ => a _ h1 z, fun _ => by decide⟩
  · rw [e, h]; exact ⟨fun _ => a _ h2 z, fun _ => by decide⟩
  · rw [e, h]; exact ⟨fun _ => a _ h3 z, fun _ => by decide⟩
theorem iv_do {p : Nat} (h : IV c m) (hs : ST9 c m p) : IV (cDo c p).2 (mDo m p).2 ∧ ((cDo c p).1 < 0 ↔ ¬ (mDo m p).2.1 15 0 ≤ 0) := by
  obtain ⟨k, k1, k2, k3, k4, k5⟩ := hs
  have hk : skd c p = k := by unfold skd; rw [k3]; rfl
  unfold cDo mDo
  rw [hk, k4]
  have hc : k = 7 ∨ k = 8 ∨ k = 9 ∨ k = 10 ∨ k = 11 ∨ k = 12 ∨ k = 13 ∨ k = 14 ∨ k = 15 := by omega
  rcases hc with rfl | rfl | rfl | rfl | rfl | rfl | rfl | rfl | rfl
  · have a0 : sn c p 0 = m.1 32 (4 * p + 1) := k5 0 (by decide)
    have a1 : sn c p 1 = m.1 32 (4 * p + 2) := k5 1 (by decide)
    have a2 : sn c p 2 = m.1 32 (4 * p + 3) := k5 2 (by decide)
    rw [cI_t (by decide), cI_t (by decide), a0, a1, a2]
    have z := iv_wr h (m.1 32 (4 * p + 1)) (m.1 32 (4 * p + 2)) (m.1 32 (4 * p + 3))
    exact ⟨z.1, OC_lt z.2 (by decide) (by decide) (by decide)⟩
  · have a0 : sn c p 0 = m.1 32 (4 * p + 1) := k5 0 (by decide)
    have a1 : sn c p 1 = m.1 32 (4 * p + 2) := k5 1 (by decide)
    rw [cI_f (by decide), cI_t (by decide), cI_f (by decide), cI_t (by decide), a0, a1]
    have z := iv_rd h (m.1 32 (4 * p + 1)) (m.1 32 (4 * p + 2))
    exact ⟨z.1, OC_lt z.2 (by decide) (by decide) (by decide)⟩
  · have a0 : sn c p 0 = m.1 32 (4 * p + 1) := k5 0 (by decide)
    rw [cI_f (by decide), cI_f (by decide), cI_t (by decide), cI_f (by decide), cI_f (by decide), cI_t (by decide), a0]
    have z := iv_fo h (m.1 32 (4 * p + 1))
    exact ⟨z.1, OC_lt z.2 (by decide) (by decide) (by decide)⟩
  · have a0 : sn c p 0 = m.1 32 (4 * p + 1) := k5 0 (by decide)
    have a1 : sn c p 1 = m.1 32 (4 * p + 2) := k5 1 (by decide)
    rw [cI_f (by decide), cI_f (by decide), cI_f (by decide), cI_t (by decide), cI_f (by decide), cI_f (by decide), cI_f (by decide), cI_t (by decide), a0, a1]
    have z := iv_mv h (m.1 32 (4 * p + 1)) (m.1 32 (4 * p + 2))
    exact ⟨z.1, OC_lt z.2 (by decide) (by decide) (by decide)⟩
  · have a0 : sn c p 0 = m.1 32 (4 * p + 1) := k5 0 (by decide)
    have a1 : sn c p 1 = m.1 32 (4 * p + 2) := k5 1 (by decide)
    rw [cI_f (by decide), cI_f (by decide), cI_f (by decide), cI_f (by decide), cI_t (by decide), cI_f (by decide), cI_f (by decide), cI_f (by decide), cI_f (by decide), cI_t (by decide), a0, a1]
    have z := iv_rw h (m.1 32 (4 * p + 1)) (m.1 32 (4 * p + 2))
    exact ⟨z.1, OC_lt z.2 (by decide) (by decide) (by decide)⟩
  · have a0 : sn c p 0 = m.1 32 (4 * p + 1) := k5 0 (by decide)
    have a1 : sn c p 1 = m.1 32 (4 * p + 2) := k5 1 (by decide)
    have a2 : sn c p 2 = m.1 32 (4 * p + 3) := k5 2 (by decide)
    rw [cI_f (by decide), cI_f (by decide), cI_f (by decide), cI_f (by decide), cI_f (by decide), cI_t (by decide), cI_f (by decide), cI_f (by decide), cI_f (by decide), cI_f (by decide), cI_f (by decide), cI_t (by decide), a0, a1, a2]
    have z := iv_co h (m.1 32 (4 * p + 1)) (m.1 32 (4 * p + 2)) (m.1 32 (4 * p + 3))
    exact ⟨z.1, OC_lt z.2 (by decide) (by decide) (by decide)⟩
  · have a0 : sn c p 0 = m.1 32 (4 * p + 1) := k5 0 (by decide)
    have a1 : sn c p 1 = m.1 32 (4 * p + 2) := k5 1 (by decide)
    rw [cI_f (by decide), cI_f (by decide), cI_f (by decide), cI_f (by decide), cI_f (by decide), cI_f (by decide), cI_t (by decide), cI_f (by decide), cI_f (by decide), cI_f (by decide), cI_f (by decide), cI_f (by decide), cI_f (by decide), cI_t (by decide), a0, a1]
    have z := iv_xc h (m.1 32 (4 * p + 1)) (m.1 32 (4 * p + 2))
    exact ⟨z.1, OC_lt z.2 (by decide) (by decide) (by decide)⟩
  · have a0 : sn c p 0 = m.1 32 (4 * p + 1) := k5 0 (by decide)
    rw [cI_f (by decide), cI_f (by decide), cI_f (by decide), cI_f (by decide), cI_f (by decide), cI_f (by decide), cI_f (by decide), cI_t (by decide), cI_f (by decide), cI_f (by decide), cI_f (by decide), cI_f (by decide), cI_f (by decide), cI_f (by decide), cI_f (by decide), cI_t (by decide), a0]
    have z := iv_po h (m.1 32 (4 * p + 1))
    exact ⟨z.1, OC_lt z.2 (by decide) (by decide) (by decide)⟩
  · have a0 : sn c p 0 = m.1 32 (4 * p + 1) := k5 0 (by decide)
    have a1 : sn c p 1 = m.1 32 (4 * p + 2) := k5 1 (by decide)
    rw [cI_f (by decide), cI_f (by decide), cI_f (by decide), cI_f (by decide), cI_f (by decide), cI_f (by decide), cI_f (by decide), cI_f (by decide), cI_t (by decide), cI_f (by decide), cI_f (by decide), cI_f (by decide), cI_f (by decide), cI_f (by decide), cI_f (by decide), cI_f (by decide), cI_f (by decide), a0, a1]
    have z := iv_hl h (m.1 32 (4 * p + 1)) (m.1 32 (4 * p + 2))
    exact ⟨z.1, OC_lt z.2 (by decide) (by decide) (by decide)⟩
theorem ST9.cg {c' m' : St} {i : Nat} (h : ST9 c m i) (hc : KU c c') (hm : OG m m') : ST9 c' m' i := by
  obtain ⟨k, k1, k2, k3, k4, k5⟩ := h
  refine ⟨k, k1, k2, by rw [hc.2]; exact k3, (hm.1 32 _ (by omega)).trans k4, fun a ha => ?_⟩
  rw [hc.1 _ (show ¬ OKc (108 + 2 * i + 1) by omega), hm.1 32 _ (by omega)]
  exact k5 a ha
theorem iv_rn (h : IV c m) {n : Nat} (hn : n ≤ 60) (hs : ∀ i, i < n → ST9 c m i) (h5 : m.1 15 5 = nI 0) : ∀ i, i ≤ n → IV (cRn c i).2 (mRk i m) ∧ KU c (cRn c i).2 ∧ OG m (mRk i m) ∧ (cRn c i).1 + rd (mRk i m) 15 5 = i ∧ nb (mRk i m) 15 5 60 := by
  intro i
  induction i with
  | zero =>
    intro _
    obtain ⟨a, b⟩ := nb_of (m := 60) h5 (Nat.zero_le _) (by decide)
    exact ⟨h, KU.rf c, OG.rf m, by show 0 + rd m 15 5 = 0; omega, a⟩
  | succ i ih =>
    intro hi
    obtain ⟨i1, i2, i3, i4, i5⟩ := ih (by omega)
    obtain ⟨d1, d2⟩ := iv_do i1 ((hs i (by omega)).cg i2 i3)
    have hk := MK_mDo i1.2.1 i
    have e5 : rd (mDo (mRk i m) i).2 15 5 = rd (mRk i m) 15 5 := rd_eq (hk.2.1 15 5 (by omega))
    have hle := cRn_le c i
    have hr : ∃ r, r ≤ 60 ∧ cI ((mDo (mRk i m) i).2.1 15 0 ≤ 0) (rd (mDo (mRk i m) i).2 15 5) (rd (mDo (mRk i m) i).2 15 5 + 1) = r ∧ (cRn c (i + 1)).1 + r = i + 1 := by
      by_cases z : (cDo (cRn c i).2 i).1 < 0
      · refine ⟨rd (mRk i m) 15 5 + 1, by omega, by rw [cI_f (d2.mp z), e5], ?_⟩
        rw [cRn_t z]
        omega
      · refine ⟨rd (mRk i m) 15 5, by omega, ?_, ?_⟩
        · rw [cI_t (Classical.byContradiction fun y => z (d2.mpr y)), e5]
        · rw [cRn_f z]
          omega
    obtain ⟨r, r1, r2, r3⟩ := hr
    have e : mRk (i + 1) m = uv (mDo (mRk i m) i).2 15 5 (nI r) := by
      show mRf (mDo (mRk i m) i).2 = _
      unfold mRf
      rw [r2]
    obtain ⟨n1, n2⟩ := nb_of (σ := uv (mDo (mRk i m) i).2 15 5 (nI r)) (k := 15) (j := 5) (m := 60) (uv_same _ _ _ _) r1 (by decide)
    rw [e]
    refine ⟨d1.uN (by omega), i2.tr (KU_cDo i1.ci.1 i), i3.tr (hk.2.og.tr ⟨fun a b q => by rw [uv_ap, if_neg (by omega)], rfl⟩), by rw [n2]; exact r3, n1⟩
end RN
