def vl2 (n c : Int32) : Prop := ¬ c < 0 ∧ ¬ n ≤ c
theorem vl2_iff {k : Nat} {c : Int32} (hk : k < 2 ^ 30) : vl2 (nI k) c ↔ vlt (nI k) c := by
  constructor
  · intro h
    obtain ⟨j, hj, rfl⟩ := nI_of h.1
    have h2 : j < k := by
      rcases Nat.lt_or_ge j k with q | q
      · exact q
      · exact absurd (nI_le q hj) h.2
    exact vlt_of (Nat.le_refl k) hk h2
  · intro h
    obtain ⟨e, h2⟩ := vlt_n (m := k) rfl (Nat.le_refl _) hk h
    rw [e]
    exact ⟨nI_pos (by omega), nI_ge h2 (by omega)⟩
theorem vl2_n {k : Nat} {c : Int32} (hk : k < 2 ^ 30) (h : vl2 (nI k) c) : c = nI (cn c) ∧ cn c < k := vlt_n (m := k) rfl (Nat.le_refl _) hk ((vl2_iff hk).mp h)
def fil (f : Nat → Int32) (v : Int32) (i : Nat) : Nat → Int32 := fun j => if j < i then v else f j
theorem fil_0 (σ : St) (k : Nat) (v : Int32) : ur σ k (fil (σ.1 k) v 0) = σ := by
  refine St_ext (fun a b => ?_) rfl
  rw [ur_ap]
  split
  · next h => subst h; unfold fil; rw [if_neg (Nat.not_lt_zero _)]
  · rfl
theorem fil_step (σ : St) (f : Nat → Int32) (k : Nat) (v : Int32) (i : Nat) : uv (ur σ k (fil f v i)) k i v = ur σ k (fil f v (i + 1)) := by
  refine row_step _ _ _ _ _ _ ?_ (fun b hb => ?_)
  · unfold fil; rw [if_pos (by omega)]
  · unfold fil
    by_cases h : b < i
    · rw [if_pos h, if_pos (by omega)]
    · rw [if_neg h, if_neg (by omega)]
/-- counts of a client out of the authors of the first n entries -/
def ccn (au f : Nat → Int32) (n : Nat) : Nat → Int32 := fun j => if j < 6 then nI (cntA (fun m => au (m + 1)) j n) else f j
theorem ccn_0 (σ : St) (k : Nat) (au f : Nat → Int32) : ur σ k (fil f (nI 0) 6) = ur σ k (ccn au f 0) := rfl
theorem ccn_hit (σ : St) (k : Nat) (au f : Nat → Int32) (n a : Nat) (ha : a < 6) (h : au (n + 1) = nI a) : uv (ur σ k (ccn au f n)) k a ((ur σ k (ccn au f n)).1 k a + nI 1) = ur σ k (ccn au f (n + 1)) := by
  refine row_step _ _ _ _ _ _ ?_ (fun b hb => ?_)
  · rw [ur_ap, if_pos rfl]
    unfold ccn
    rw [if_pos ha, if_pos ha]
    show nI (cntA _ a n + (if au (n + 1) = nI a then 1 else 0)) = _
    rw [if_pos h, nI_add]
  · unfold ccn
    by_cases q : b < 6
    · rw [if_pos q, if_pos q]
      show nI (cntA _ b n + (if au (n + 1) = nI b then 1 else 0)) = _
      rw [if_neg (fun z => hb ((nI_inj6 (by omega) (by omega) (h.symm.trans z)).symm)), Nat.add_zero]
    · rw [if_neg q, if_neg q]
theorem ccn_miss (au f : Nat → Int32) (n : Nat) (h : ∀ a, a < 6 → ¬ au (n + 1) = nI a) : ccn au f (n + 1) = ccn au f n := by
  funext b
  unfold ccn
  by_cases q : b < 6
  · rw [if_pos q, if_pos q]
    show nI (cntA _ b n + (if au (n + 1) = nI b then 1 else 0)) = _
    rw [if_neg (h b q), Nat.add_zero]
  · rw [if_neg q, if_neg q]
def cth (σ : St) (c b : Nat) : St := ur (ur (uv σ (90 + 3 * c) 2 (nI (rd σ (34 + 7 * b) 6))) (90 + 3 * c + 1) (va_cpy (σ.1 (34 + 7 * b + 6)) (σ.1 (90 + 3 * c + 1)) 0 0 (rd σ (34 + 7 * b) 6 + 1))) (90 + 3 * c + 2) (ccn (σ.1 (34 + 7 * b + 2)) (σ.1 (90 + 3 * c + 2)) (rd σ (34 + 7 * b) 6))
/-- a client begins -/
def cbc (σ : St) (c : Nat) : St := uv (uv (uv (uv (ur (uv σ (90 + 3 * c + 1) 0 (nI 1)) (90 + 3 * c + 2) (fil (σ.1 (90 + 3 * c + 2)) (nI 0) 6)) (90 + 3 * c) 2 (nI 0)) (90 + 3 * c) 3 (nI 0)) (90 + 3 * c) 4 (nI 0)) (90 + 3 * c) 5 (nI 0)
def cft (σ : St) (c b : Nat) : Prop := rd σ (90 + 3 * c) 2 ≤ rd σ (34 + 7 * b) 6 ∧ σ.1 (34 + 7 * b + 6) (rd σ (90 + 3 * c) 2) = σ.1 (90 + 3 * c + 1) (rd σ (90 + 3 * c) 2)
def cfk (σ : St) (c d : Nat) : Prop := σ.1 (90 + 3 * c + 1) (min (rd σ (90 + 3 * c) 2) (rd σ (90 + 3 * d) 2)) ≠ σ.1 (90 + 3 * d + 1) (min (rd σ (90 + 3 * c) 2) (rd σ (90 + 3 * d) 2))
/-- a row is added to a ledger -/
def crn (σ : St) (k lim : Nat) : Nat := if lim ≤ rd σ k 3 then lim - 1 else rd σ k 3
def cr0 (σ : St) (k lim w : Nat) : St := uv (if lim ≤ rd σ k 3 then ur σ (k + 1) (va_cpy (σ.1 (k + 1)) (σ.1 (k + 1)) w 0 ((lim - 1) * w)) else σ) k 3 (nI (crn σ k lim + 1))
theorem cr0_o (σ : St) (k lim w : Nat) {a : Nat} (j : Nat) (h1 : a ≠ k) (h2 : a ≠ k + 1) : (cr0 σ k lim w).1 a j = σ.1 a j := by
  unfold cr0
  rw [uv_cell _ _ _ _ h1]
  split
  · exact ur_cell _ _ _ h2
  · rfl
theorem crn_lt {σ : St} {k lim : Nat} (h : 0 < lim) : crn σ k lim < lim := by
  unfold crn
  split
  · omega
  · omega
