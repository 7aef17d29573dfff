/-! the cells behind the constructors are those of the first state: rows of objects -/
theorem arrV_cg {cA : ClassId} {N : Nat} {f f' : Nat → Value} (h : ∀ j, j < N → f j = f' j) : arrV cA N f = arrV cA N f' := by
  unfold arrV
  have e : (fun j : Fin N => f j.val) = fun j : Fin N => f' j.val := funext fun j => h j.val j.isLt
  rw [e]
theorem ofs_a {k : Nat} (h : 34 ≤ k ∧ k < 108) : ofs k = k + 101 := by
  unfold ofs
  rw [if_neg (by omega), if_neg (by omega), if_neg (by omega), if_pos (by omega)]
theorem ofs_b {k : Nat} (h : 108 ≤ k) : ofs k = k - 100 := by
  unfold ofs
  rw [if_neg (by omega), if_neg (by omega), if_neg (by omega), if_neg (by omega)]
section WLD2
variable {D : va_G} {z0 : Nat} {ad : Nat → Nat} {ac : Nat → ClassId} {X : State → Heap → Prop} {S : Nat → va_E}
theorem qA_eq {cA : ClassId} {N : Nat} {f f' : Nat → Option Nat} (h : ∀ j, j < N → f j = f' j) : EQc (.inl (cA, N, qA f)) (.inl (cA, N, qA f')) :=
  Or.inr ⟨cA, (N, qA f), (N, qA f'), rfl, rfl, by rw [vp_cell_q, vp_cell_q]; exact arrV_cg (fun j hj => by rw [h j hj])⟩
theorem aq_7 : EQc (aF (gz D z0 ad ac X) z0 S 7) (ct (gz D z0 ad ac X) σ0 7) := by
  show EQc (.inl (ac 7, 60, qA (fun k => if k < 60 then some (z0 + (8 + 2 * k)) else none))) (.inl (ac 7, 60, qA (fun j => some (z0 + ofs (108 + 2 * j)))))
  refine qA_eq (fun j hj => ?_)
  rw [if_pos hj, ofs_b (by omega), show 108 + 2 * j - 100 = 8 + 2 * j by omega]
theorem aq_9 : EQc (aF (gz D z0 ad ac X) z0 S 129) (ct (gz D z0 ad ac X) σ0 9) := by
  show EQc (.inl (ac 5, 8, qA (fun k => if k < 8 then some (z0 + (135 + 7 * k)) else none))) (.inl (ac 5, 8, qA (fun j => some (z0 + ofs (34 + 7 * j)))))
  refine qA_eq (fun j hj => ?_)
  rw [if_pos hj, ofs_a (by omega), show 34 + 7 * j + 101 = 135 + 7 * j by omega]
theorem aq_10 : EQc (aF (gz D z0 ad ac X) z0 S 130) (ct (gz D z0 ad ac X) σ0 10) := by
  show EQc (.inl (ac 6, 6, qA (fun k => if k < 6 then some (z0 + (191 + 3 * k)) else none))) (.inl (ac 6, 6, qA (fun j => some (z0 + ofs (90 + 3 * j)))))
  refine qA_eq (fun j hj => ?_)
  rw [if_pos hj, ofs_a (by omega), show 90 + 3 * j + 101 = 191 + 3 * j by omega]
theorem wF_o {j : Nat} (h : j ≠ 0) : wF (gz D z0 ad ac X) z0 S j = sF (gz D z0 ad ac X) z0 (us (us (pF (gz D z0 ad ac X) z0 (us S 1 (.inr (3, [.null, .null, .int 0, .int 0, .int 0, .int 0, .int 0, .int 0, .int 0])))) 0 (.inr (7, [.ref (z0 + 1), .null, .int 0, .int 0]))) 128 (.inr (4, [.null, .null, .null, .null, .int 0, .int 0, .int 0, .int 0, .int 0]))) j := us_o _ _ h
theorem aF_B {j : Nat} (h : 135 ≤ j ∧ j < 191) : aF (gz D z0 ad ac X) z0 S j = eB (gz D z0 ad ac X) z0 j := by
  rw [aF_lo (by omega), wF_o (by omega)]
  unfold sF
  rw [lS_o (by omega) (by omega)]
  unfold sD
  rw [lS_e (by omega) (by omega)]
theorem aF_C {j : Nat} (h : 191 ≤ j ∧ j < 209) : aF (gz D z0 ad ac X) z0 S j = eC (gz D z0 ad ac X) z0 j := by
  rw [aF_lo (by omega), wF_o (by omega)]
  unfold sF
  rw [lS_e (by omega) (by omega)]
theorem aF_P {j : Nat} (h : 8 ≤ j ∧ j < 128) : aF (gz D z0 ad ac X) z0 S j = eP (gz D z0 ad ac X) z0 j := by
  rw [aF_lo (by omega), wF_o (by omega)]
  unfold sF
  rw [lS_o (by omega) (by omega)]
  unfold sD
  rw [lS_o (by omega) (by omega)]
  unfold sB
  rw [us_o _ _ (by omega), us_o _ _ (by omega), us_o _ _ (by omega), us_o _ _ (by omega), us_o _ _ (by omega), us_o _ _ (by omega), us_o _ _ (by omega), us_o _ _ (by omega), us_o _ _ (by omega), us_o _ _ (by omega), us_o _ _ (by omega), us_o _ _ (by omega), us_o _ _ (by omega)]
  unfold pF
  rw [lS_e (by omega) (by omega)]
theorem i0_r {k : Nat} (h : k ≠ 1 ∧ k ≠ 8 ∧ k ≠ 15) (h2 : ¬ (34 ≤ k ∧ k < 90 ∧ (k - 34) % 7 = 6)) : σ0.1 k = fun _ => 0 := by
  funext x
  show i0 k x = 0
  unfold i0
  rw [if_neg (by omega), if_neg (by omega)]
theorem i0_h {k : Nat} (h2 : 34 ≤ k ∧ k < 90 ∧ (k - 34) % 7 = 6) : σ0.1 k = upd (fun _ => 0) 0 (nI 1) := by
  funext x
  show i0 k x = if x = 0 then nI 1 else 0
  unfold i0
  rw [if_neg (by omega)]
  by_cases z : x = 0
  · rw [if_pos (by omega), if_pos z]
  · rw [if_neg (by omega), if_neg z]
theorem aq_B {k : Nat} (h : 34 ≤ k ∧ k < 90) : aF (gz D z0 ad ac X) z0 S (ofs k) = ct (gz D z0 ad ac X) σ0 k := by
  rw [ofs_a (by omega), aF_B (by omega)]
  unfold ct ctk eB
  rw [if_neg (show ¬ k < 34 by omega), if_pos h.2, show k + 101 - 135 = k - 34 by omega]
  by_cases z : (k - 34) % 7 = 0
  · rw [if_pos z, if_pos z, i0_r (by omega) (by omega)]
    show _ = (.inr (0, [.ref (z0 + ofs (k + 1)), .ref (z0 + ofs (k + 2)), .ref (z0 + ofs (k + 3)), .ref (z0 + ofs (k + 4)), .ref (z0 + ofs (k + 5)), .ref (z0 + ofs (k + 6)), .int 0]) : va_E)
    rw [ofs_a (by omega), ofs_a (by omega), ofs_a (by omega), ofs_a (by omega), ofs_a (by omega), ofs_a (by omega), show k + 101 + 1 = k + 1 + 101 by omega, show k + 101 + 2 = k + 2 + 101 by omega, show k + 101 + 3 = k + 3 + 101 by omega, show k + 101 + 4 = k + 4 + 101 by omega, show k + 101 + 5 = k + 5 + 101 by omega, show k + 101 + 6 = k + 6 + 101 by omega]
  · rw [if_neg z, if_neg z]
    by_cases y : (k - 34) % 7 = 6
    · rw [if_pos y, i0_h (by omega)]
    · rw [if_neg y, i0_r (by omega) (by omega)]
theorem aq_C {k : Nat} (h : 90 ≤ k ∧ k < 108) : aF (gz D z0 ad ac X) z0 S (ofs k) = ct (gz D z0 ad ac X) σ0 k := by
  rw [ofs_a (by omega), aF_C (by omega)]
  unfold ct ctk eC
  rw [if_neg (show ¬ k < 34 by omega), if_neg (show ¬ k < 90 by omega), if_pos h.2, show k + 101 - 191 = k - 90 by omega, i0_r (by omega) (by omega)]
  by_cases z : (k - 90) % 3 = 0
  · rw [if_pos z, if_pos z]
    show _ = (.inr (1, [.ref (z0 + ofs (k + 1)), .ref (z0 + ofs (k + 2)), .int 0, .int 0, .int 0, .int 0]) : va_E)
    rw [ofs_a (by omega), ofs_a (by omega), show k + 101 + 1 = k + 1 + 101 by omega, show k + 101 + 2 = k + 2 + 101 by omega]
  · rw [if_neg z, if_neg z]
theorem aq_P {k : Nat} (h : 108 ≤ k ∧ k < 228) : aF (gz D z0 ad ac X) z0 S (ofs k) = ct (gz D z0 ad ac X) σ0 k := by
  rw [ofs_b (by omega), aF_P (by omega)]
  unfold ct ctk eP
  rw [if_neg (show ¬ k < 34 by omega), if_neg (show ¬ k < 90 by omega), if_neg (show ¬ k < 108 by omega), i0_r (by omega) (by omega)]
  by_cases z : (k - 108) % 2 = 0
  · rw [if_pos z, if_pos (show (k - 100) % 2 = 0 by omega)]
    have e : σ0.2.1 k 1 = some 0 := if_pos ⟨h.1, z, rfl⟩
    rw [e]
    show _ = (.inr (5, [.ref (z0 + ofs (k + 1)), .ref (ad 0)]) : va_E)
    rw [ofs_b (by omega), show k - 100 + 1 = k + 1 - 100 by omega]
  · rw [if_neg z, if_neg (show ¬ (k - 100) % 2 = 0 by omega)]
theorem aq_all {k : Nat} (h : k < 228) : EQc (aF (gz D z0 ad ac X) z0 S (ofs k)) (ct (gz D z0 ad ac X) σ0 k) := by
  by_cases h1 : 108 ≤ k
  · exact Or.inl (aq_P (by omega))
  by_cases h2 : 90 ≤ k
  · exact Or.inl (aq_C (by omega))
  by_cases h3 : 34 ≤ k
  · exact Or.inl (aq_B (by omega))
  have hc : k = 0 ∨ k = 1 ∨ k = 2 ∨ k = 3 ∨ k = 4 ∨ k = 5 ∨ k = 6 ∨ k = 7 ∨ k = 8 ∨ k = 9 ∨ k = 10 ∨ k = 11 ∨ k = 12 ∨ k = 13 ∨ k = 14 ∨ k = 15 ∨ k = 16 ∨ k = 17 ∨ k = 18 ∨ k = 19 ∨ k = 20 ∨ k = 21 ∨ k = 22 ∨ k = 23 ∨ k = 24 ∨ k = 25 ∨ k = 26 ∨ k = 27 ∨ k = 28 ∨ k = 29 ∨ k = 30 ∨ k = 31 ∨ k = 32 ∨ k = 33 := by omega
  rcases hc with rfl | rfl | rfl | rfl | rfl | rfl | rfl | rfl | rfl | rfl | rfl | rfl | rfl | rfl | rfl | rfl | rfl | rfl | rfl | rfl | rfl | rfl | rfl | rfl | rfl | rfl | rfl | rfl | rfl | rfl | rfl | rfl | rfl | rfl
  · exact Or.inl aq_0
  · exact Or.inl aq_1
  · exact Or.inl aq_2
  · exact Or.inl aq_3
  · exact Or.inl aq_4
  · exact Or.inl aq_5
  · exact Or.inl aq_6
  · exact aq_7
  · exact Or.inl aq_8
  · exact aq_9
  · exact aq_10
  · exact Or.inl aq_11
  · exact Or.inl aq_12
  · exact Or.inl aq_13
  · exact Or.inl aq_14
  · exact Or.inl aq_15
  · exact Or.inl aq_16
  · exact Or.inl aq_17
  · exact Or.inl aq_18
  · exact Or.inl aq_19
  · exact Or.inl aq_20
  · exact Or.inl aq_21
  · exact Or.inl aq_22
  · exact Or.inl aq_23
  · exact Or.inl aq_24
  · exact Or.inl aq_25
  · exact Or.inl aq_26
  · exact Or.inl aq_27
  · exact Or.inl aq_28
  · exact Or.inl aq_29
  · exact Or.inl aq_30
  · exact Or.inl aq_31
  · exact Or.inl aq_32
  · exact Or.inl aq_33
theorem wl_of {H : Heap} (hP : va_P D vwCl (wz z0 (aF (gz D z0 ad ac X) z0 S) 228) H) : va_P D vwCl (wl (gz D z0 ad ac X) σ0) H := by
  intro k q hq
  have hk : k < NC := by
    have := (List.getElem?_eq_some_iff.mp hq).1
    simpa [wl] using this
  rw [wl_get (gz D z0 ad ac X) σ0 hk] at hq
  have e := (Option.some.inj hq).symm
  subst e
  have h1 := hP (ofs k) _ (wz_get z0 _ (ofs_lt hk))
  rcases aq_all (D := D) (z0 := z0) (ad := ad) (ac := ac) (X := X) (S := S) hk with e | ⟨cA, a, a', e1, e2, e3⟩
  · rw [← e]
    exact h1
  · rw [e2]
    rw [e1] at h1
    show H[z0 + ofs k]? = some (vp_cell cA a')
    rw [← e3]
    exact h1
end WLD2
