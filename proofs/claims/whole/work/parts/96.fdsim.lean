/-! feed, the class's and the reference's -/
section FD
variable {c m : St}
theorem cby_b8 (v : Int32) {s : Nat} (hs : s = 24 ∨ s = 16 ∨ s = 8 ∨ s = 0) : cby v s = b8 ((v >>> (nI s &&& 31)) &&& nI 255) ∧ vb ((v >>> (nI s &&& 31)) &&& nI 255) 255 := by
  have k1 : ((nI s &&& 31).toBitVec.smod 32).toNat = s := by
    rcases hs with rfl | rfl | rfl | rfl <;> decide
  have k2 : ((((nI s).toUInt32 &&& Int32.toUInt32 31).toBitVec) % 32).toNat = s := by
    rcases hs with rfl | rfl | rfl | rfl <;> decide
  have hA : ∀ i, i < 8 → (v >>> (nI s &&& 31)).toBitVec.getLsbD i = v.toBitVec.getLsbD (s + i) := fun i hi => by
    show (v.toBitVec.sshiftRight ((nI s &&& 31).toBitVec.smod 32).toNat).getLsbD i = _
    rw [k1, BitVec.getLsbD_sshiftRight, if_pos (by omega), decide_eq_false (by omega)]
    rfl
  have hB : ∀ i, (v.toUInt32 >>> ((nI s).toUInt32 &&& Int32.toUInt32 31)).toInt32.toBitVec.getLsbD i = v.toBitVec.getLsbD (s + i) := fun i => by
    show (v.toBitVec >>> (((((nI s).toUInt32 &&& Int32.toUInt32 31).toBitVec) % 32).toNat)).getLsbD i = _
    rw [k2, BitVec.getLsbD_ushiftRight]
  refine ⟨?_, ?_⟩
  · unfold cby b8
    refine congrArg Int8.toInt32 ?_
    apply Int8.toBitVec_inj.1
    apply BitVec.eq_of_getLsbD_eq
    intro i hi
    have h2 : (nI 255).toBitVec.getLsbD i = true := by
      have : ∀ j : Fin 8, (nI 255).toBitVec.getLsbD j.val = true := by decide +kernel
      exact this ⟨i, hi⟩
    have h3 : i < 32 := by omega
    rw [Int32.toBitVec_toInt8, Int32.toBitVec_toInt8, BitVec.getLsbD_signExtend, BitVec.getLsbD_signExtend, if_pos h3, if_pos h3, hB, Int32.toBitVec_and, BitVec.getLsbD_and, h2, Bool.and_true, hA i hi]
  · have e := pk_and (v >>> (nI s &&& 31)) (m := nI 255) 8 (by decide)
    have hl : (v >>> (nI s &&& 31)).toBitVec.toNat % 2 ^ 8 < 256 := Nat.mod_lt _ (by decide)
    rw [e]
    have := nI_clamp (n := (v >>> (nI s &&& 31)).toBitVec.toNat % 2 ^ 8) (by omega)
    exact ⟨by rw [this], by rw [this]; omega⟩
theorem TX.b (h : TX c m) (k : Nat) (v : Int32) {s : Nat} (hs : s = 24 ∨ s = 16 ∨ s = 8 ∨ s = 0) : TX (uv c 3 k (cby v s)) (uv m 31 k ((v >>> (nI s &&& 31)) &&& nI 255)) := fun j hj => by
  by_cases z : j = k
  · subst z
    rw [uv_same, uv_same]
    exact cby_b8 v hs
  · rw [uv_idx _ _ _ _ z, uv_idx _ _ _ _ z]
    exact h j hj
theorem TX.n (h : TX c m) (x y : Int32) : TX (uv c 0 2 x) (uv m 15 26 y) := fun j hj => by
  rw [uv_cell _ _ _ _ (by decide), uv_cell _ _ _ _ (by decide)]
  exact h j hj
theorem cpu_o (σ : St) (v : Int32) {a : Nat} (b : Nat) (h : a ≠ 3 ∧ (a = 0 → b ≠ 2)) : (cpu σ v).1 a b = σ.1 a b := by
  unfold cpu
  rw [uv_ap, if_neg (by omega), uv_cell _ _ _ _ h.1, uv_ap, if_neg (by omega), uv_cell _ _ _ _ h.1, uv_ap, if_neg (by omega), uv_cell _ _ _ _ h.1, uv_ap, if_neg (by omega), uv_cell _ _ _ _ h.1]
def FEd (c m : St) (r : Nat) : Prop := TX c m ∧ c.1 0 2 = nI r ∧ m.1 15 26 = nI r
theorem FEd.p {r : Nat} (h : FEd c m r) (hr : r + 4 ≤ 900) (v : Int32) : FEd (cpu c v) (mput m v) (r + 4) := by
  obtain ⟨h1, h2, h3⟩ := h
  have e1 : rd c 0 2 = r := rd_of h2 (by omega)
  have e2 : rd m 15 26 = r := rd_of h3 (by omega)
  unfold cpu mput
  rw [e1, e2]
  exact ⟨(((((((h1.b _ v (by omega)).n _ _).b _ v (by omega)).n _ _).b _ v (by omega)).n _ _).b _ v (by omega)).n _ _, uv_same _ _ _ _, uv_same _ _ _ _⟩
/-- the outcome of feed -/
theorem iv_fd (h : Inv c m) (a b d e f : Int32) : Inv (cfS c a b d e f) (mfd m a b d e f).2 ∧ ((wFd c = none ∧ (cfd c a b d e f).1 0 2 = (mfd m a b d e f).1 ∧ (mfd m a b d e f).2.1 15 0 = nI 0) ∨ (wFd c = some exI ∧ (mfd m a b d e f).2.1 15 0 = nI 1)) := by
  obtain ⟨f1, f2, f3⟩ := h.fed
  unfold cfS wFd mfd
  by_cases q : rd c 0 2 ≤ 880
  case neg =>
    rw [cI_f q, cI_f q, cI_f (by omega)]
    exact ⟨(h.u0 _).u0 _, Or.inr ⟨rfl, uv_same _ _ _ _⟩⟩
  rw [cI_t q, cI_t q, cI_t (by omega)]
  have h0 := h.u0 (nI 0)
  have g0 : FEd c (m0 m) (rd c 0 2) := ⟨h0.2.1, f1.1, by rw [uv_idx _ _ _ _ (by decide)]; exact f3.symm⟩
  have g5 := ((((g0.p (by omega) a).p (by omega) b).p (by omega) d).p (by omega) e).p (by omega) f
  have oc : ∀ x y, x ≠ 3 ∧ (x = 0 → y ≠ 2) → (cfd c a b d e f).1 x y = c.1 x y := fun x y z => by
    unfold cfd
    rw [cpu_o _ _ _ z, cpu_o _ _ _ z, cpu_o _ _ _ z, cpu_o _ _ _ z, cpu_o _ _ _ z]
  have om : ∀ x y, x ≠ 31 ∧ (x = 15 → y ≠ 26) → (mput (mput (mput (mput (mput (m0 m) a) b) d) e) f).1 x y = (m0 m).1 x y := fun x y z => by
    rw [mput_o _ _ _ z, mput_o _ _ _ z, mput_o _ _ _ z, mput_o _ _ _ z, mput_o _ _ _ z]
  have g5' : FEd (cfd c a b d e f) (mput (mput (mput (mput (mput (m0 m) a) b) d) e) f) (rd c 0 2 + 20) := g5
  clear g5
  generalize mput (mput (mput (mput (mput (m0 m) a) b) d) e) f = M at om g5' ⊢
  generalize cfd c a b d e f = C at oc g5' ⊢
  obtain ⟨g1, g2, g3⟩ := g5'
  refine ⟨⟨?_, g1, g2.trans g3.symm, ?_, ⟨?_, ?_⟩, ?_⟩, Or.inl ⟨rfl, g2.trans g3.symm, ?_⟩⟩
  · refine ((h0.1.uN (j := 26) (n := rd c 0 2 + 20) (by omega)).cg (fun x y h1 h2 h3 h4 => oc x y (by omega))).mg (fun x y h1 h2 h3 => ?_)
    by_cases z : x = 15 ∧ y = 26
    · rw [z.1, z.2, g3, uv_same]
    · rw [om x y (by omega), uv_ap (uv m 15 0 (nI 0)), if_neg z]
  · rw [oc 0 3 (by omega), om 15 5 (by omega)]; exact h0.2.2.2.1
  · rw [oc 1 7 (by omega), om 15 32 (by omega)]; exact h0.2.2.2.2.1.1
  · rw [oc 1 8 (by omega), om 15 33 (by omega)]; exact h0.2.2.2.2.1.2
  · exact nb_cg (om 15 30 (by omega)) h0.2.2.2.2.2 h0.2.2.2.2.2.2
  · rw [om 15 0 (by omega)]; exact uv_same _ _ _ _
end FD
