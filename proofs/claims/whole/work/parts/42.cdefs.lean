/-! the class's own functions over its cells -/
/-- the first place up to last at which two rows differ, or last + 1 -/
noncomputable def fdf (f e : Nat → Int32) (last : Nat) : Nat := lst (fun n => last < n ∨ f n ≠ e n)
theorem fdf_ok (f e : Nat → Int32) (last : Nat) : fdf f e last ≤ last + 1 ∧ (last < fdf f e last ∨ f (fdf f e last) ≠ e (fdf f e last)) ∧ ∀ j, j < fdf f e last → j ≤ last ∧ f j = e j := by
  have h : ∃ n, last < n ∨ f n ≠ e n := ⟨last + 1, Or.inl (by omega)⟩
  obtain ⟨h1, h2⟩ := lst_ok h
  refine ⟨?_, h1, fun j hj => ?_⟩
  · rcases Nat.lt_or_ge (last + 1) (fdf f e last) with q | q
    · exact absurd (Or.inl (by omega)) (h2 (last + 1) q)
    · exact q
  · have := h2 j hj
    refine ⟨?_, ?_⟩
    · rcases Nat.lt_or_ge last j with q | q
      · exact absurd (Or.inl q) this
      · exact q
    · exact Classical.byContradiction fun z => this (Or.inr z)
def hq2 (h kd au bl va li n : Int32) : Int32 :=
  rs (if kd = nI 2 then h.toInt64 * 1000003 + n.toInt64 + li.toInt64 * 1299709
    else if kd = nI 1 then h.toInt64 * 1000003 + n.toInt64 + (au.toInt64 * 7919 + bl.toInt64 * 104729) + (va + nI 1).toInt64 * 15485863 else h.toInt64 * 1000003 + n.toInt64 + (au.toInt64 * 7919 + bl.toInt64 * 104729))
/-- the computed hash of entry n of the class's branch b -/
def ccm (σ : St) (b n : Nat) : Int32 := hq2 (σ.1 (34 + 7 * b + 6) (n - 1)) (σ.1 (34 + 7 * b + 1) n) (σ.1 (34 + 7 * b + 2) n) (σ.1 (34 + 7 * b + 3) n) (σ.1 (34 + 7 * b + 4) n) (σ.1 (34 + 7 * b + 5) n) (nI n)
/-- the first unsound entry behind lo, or size + 1 -/
noncomputable def cun (σ : St) (b lo : Nat) : Nat := lst (fun n => lo < n ∧ (rd σ (34 + 7 * b) 6 < n ∨ σ.1 (34 + 7 * b + 6) n ≠ ccm σ b n))
def cval (σ : St) (b : Nat) (w : Int32) : Nat → Int32
  | 0 => nI 0
  | n + 1 => if σ.1 (34 + 7 * b + 1) (n + 1) = nI 1 ∧ σ.1 (34 + 7 * b + 3) (n + 1) = w then σ.1 (34 + 7 * b + 4) (n + 1) else cval σ b w n
theorem cval_step (σ : St) (b : Nat) (w : Int32) (i : Nat) (hi : 1 ≤ i) (h : ¬ σ.1 (34 + 7 * b + 1) i = nI 1 ∨ ¬ σ.1 (34 + 7 * b + 3) i = w) : cval σ b w i = cval σ b w (i - 1) := by
  obtain ⟨n, rfl⟩ : ∃ n, i = n + 1 := ⟨i - 1, by omega⟩
  show (if _ then _ else _) = _
  rw [if_neg (fun z => h.elim (fun q => q z.1) (fun q => q z.2))]
  rfl
theorem cval_hit (σ : St) (b : Nat) (w : Int32) (i : Nat) (hi : 1 ≤ i) (h1 : σ.1 (34 + 7 * b + 1) i = nI 1) (h2 : σ.1 (34 + 7 * b + 3) i = w) : cval σ b w i = σ.1 (34 + 7 * b + 4) i := by
  obtain ⟨n, rfl⟩ : ∃ n, i = n + 1 := ⟨i - 1, by omega⟩
  show (if _ then _ else _) = _
  rw [if_pos ⟨h1, h2⟩]
/-- the blocks of entries lo + 1 .. lo + i of one kind -/
def cbs (kd bl : Nat → Int32) (k : Int32) (lo : Nat) : Nat → Int32
  | 0 => nI 0
  | i + 1 => if kd (lo + 1 + i) = k then cbs kd bl k lo i ||| (nI 1 <<< (bl (lo + 1 + i) &&& 31)) else cbs kd bl k lo i
theorem cbs_t {kd bl : Nat → Int32} {k : Int32} {lo i : Nat} (h : kd (lo + 1 + i) = k) : cbs kd bl k lo i ||| (nI 1 <<< (bl (lo + 1 + i) &&& 31)) = cbs kd bl k lo (i + 1) := by
  show _ = if _ then _ else _
  rw [if_pos h]
theorem cbs_f {kd bl : Nat → Int32} {k : Int32} {lo i : Nat} (h : ¬ kd (lo + 1 + i) = k) : cbs kd bl k lo i = cbs kd bl k lo (i + 1) := by
  show _ = if _ then _ else _
  rw [if_neg h]
/-- an entry behind the class's branch b -/
def cap6 (σ : St) (b : Nat) (kd au bl va li : Int32) : St := uv (uv (uv (uv (uv (uv σ (34 + 7 * b) 6 (nI (rd σ (34 + 7 * b) 6 + 1))) (34 + 7 * b + 1) (rd σ (34 + 7 * b) 6 + 1) kd) (34 + 7 * b + 2) (rd σ (34 + 7 * b) 6 + 1) au) (34 + 7 * b + 3) (rd σ (34 + 7 * b) 6 + 1) bl) (34 + 7 * b + 4) (rd σ (34 + 7 * b) 6 + 1) va) (34 + 7 * b + 5) (rd σ (34 + 7 * b) 6 + 1) li
def cap (σ : St) (b : Nat) (kd au bl va li : Int32) : St := uv (cap6 σ b kd au bl va li) (34 + 7 * b + 6) (rd σ (34 + 7 * b) 6 + 1) (ccm (cap6 σ b kd au bl va li) b (rd σ (34 + 7 * b) 6 + 1))
def cen (σ : St) (b : Nat) (p : Int32) : Prop := ¬ p < nI 1 ∧ ¬ nI (rd σ (34 + 7 * b) 6) < p
theorem cap6_size (σ : St) (b : Nat) (kd au bl va li : Int32) (h : rd σ (34 + 7 * b) 6 < 200) : nb (cap6 σ b kd au bl va li) (34 + 7 * b) 6 200 ∧ rd (cap6 σ b kd au bl va li) (34 + 7 * b) 6 = rd σ (34 + 7 * b) 6 + 1 := by
  refine nb_of ?_ (by omega) (by decide)
  unfold cap6
  rw [uv_cell _ _ _ _ (by omega), uv_cell _ _ _ _ (by omega), uv_cell _ _ _ _ (by omega), uv_cell _ _ _ _ (by omega), uv_cell _ _ _ _ (by omega), uv_same]
theorem cap_size (σ : St) (b : Nat) (kd au bl va li : Int32) (h : rd σ (34 + 7 * b) 6 < 200) : nb (cap σ b kd au bl va li) (34 + 7 * b) 6 200 ∧ rd (cap σ b kd au bl va li) (34 + 7 * b) 6 = rd σ (34 + 7 * b) 6 + 1 := by
  have e : (cap σ b kd au bl va li).1 (34 + 7 * b) 6 = (cap6 σ b kd au bl va li).1 (34 + 7 * b) 6 := uv_cell _ _ _ _ (by omega)
  have q := cap6_size σ b kd au bl va li h
  exact ⟨nb_cg e q.1 q.1.2, by unfold rd; rw [e]; exact q.2⟩
theorem cap_o (σ : St) (b : Nat) (kd au bl va li : Int32) {a : Nat} (j : Nat) (h : a < 34 + 7 * b ∨ 34 + 7 * b + 6 < a) : (cap σ b kd au bl va li).1 a j = σ.1 a j := by
  unfold cap cap6
  rw [uv_cell _ _ _ _ (by omega), uv_cell _ _ _ _ (by omega), uv_cell _ _ _ _ (by omega), uv_cell _ _ _ _ (by omega), uv_cell _ _ _ _ (by omega), uv_cell _ _ _ _ (by omega), uv_cell _ _ _ _ (by omega)]
/-- the entries of o behind lo, appended to b -/
def cho (σ : St) (b o lo : Nat) : Nat → St
  | 0 => σ
  | i + 1 => cap (cho σ b o lo i) b ((cho σ b o lo i).1 (34 + 7 * o + 1) (lo + 1 + i)) ((cho σ b o lo i).1 (34 + 7 * o + 2) (lo + 1 + i)) ((cho σ b o lo i).1 (34 + 7 * o + 3) (lo + 1 + i)) ((cho σ b o lo i).1 (34 + 7 * o + 4) (lo + 1 + i)) ((cho σ b o lo i).1 (34 + 7 * o + 5) (lo + 1 + i))
theorem cho_o (σ : St) (b o lo i : Nat) {a : Nat} (j : Nat) (h : a < 34 + 7 * b ∨ 34 + 7 * b + 6 < a) : (cho σ b o lo i).1 a j = σ.1 a j := by
  induction i with
  | zero => rfl
  | succ i ih =>
    show (cap _ _ _ _ _ _ _).1 a j = _
    rw [cap_o _ _ _ _ _ _ _ _ h, ih]
theorem cho_size {σ : St} {b : Nat} (o lo : Nat) (h : nb σ (34 + 7 * b) 6 200) : ∀ i, rd σ (34 + 7 * b) 6 + i ≤ 200 → nb (cho σ b o lo i) (34 + 7 * b) 6 200 ∧ rd (cho σ b o lo i) (34 + 7 * b) 6 = rd σ (34 + 7 * b) 6 + i := by
  intro i
  induction i with
  | zero => intro _; exact ⟨h, rfl⟩
  | succ i ih =>
    intro hi
    obtain ⟨a, e⟩ := ih (by omega)
    obtain ⟨a', e'⟩ := cap_size (cho σ b o lo i) b ((cho σ b o lo i).1 (34 + 7 * o + 1) (lo + 1 + i)) ((cho σ b o lo i).1 (34 + 7 * o + 2) (lo + 1 + i)) ((cho σ b o lo i).1 (34 + 7 * o + 3) (lo + 1 + i)) ((cho σ b o lo i).1 (34 + 7 * o + 4) (lo + 1 + i)) ((cho σ b o lo i).1 (34 + 7 * o + 5) (lo + 1 + i)) (by omega)
    exact ⟨a', by show rd (cap _ _ _ _ _ _ _) _ _ = _; rw [e', e]; rfl⟩
/-- the copy of a branch -/
def ccp (σ : St) (b o : Nat) : St := uv (ur (ur (ur (ur (ur (ur σ (34 + 7 * b + 1) (va_cpy (σ.1 (34 + 7 * o + 1)) (σ.1 (34 + 7 * b + 1)) 0 0 (rd σ (34 + 7 * o) 6 + 1))) (34 + 7 * b + 2) (va_cpy (σ.1 (34 + 7 * o + 2)) (σ.1 (34 + 7 * b + 2)) 0 0 (rd σ (34 + 7 * o) 6 + 1))) (34 + 7 * b + 3) (va_cpy (σ.1 (34 + 7 * o + 3)) (σ.1 (34 + 7 * b + 3)) 0 0 (rd σ (34 + 7 * o) 6 + 1))) (34 + 7 * b + 4) (va_cpy (σ.1 (34 + 7 * o + 4)) (σ.1 (34 + 7 * b + 4)) 0 0 (rd σ (34 + 7 * o) 6 + 1))) (34 + 7 * b + 5) (va_cpy (σ.1 (34 + 7 * o + 5)) (σ.1 (34 + 7 * b + 5)) 0 0 (rd σ (34 + 7 * o) 6 + 1))) (34 + 7 * b + 6) (va_cpy (σ.1 (34 + 7 * o + 6)) (σ.1 (34 + 7 * b + 6)) 0 0 (rd σ (34 + 7 * o) 6 + 1))) (34 + 7 * b) 6 (nI (rd σ (34 + 7 * o) 6))
/-- a part of an entry -/
noncomputable def cpt (σ : St) (b n : Nat) (w : Int32) : Int32 := cI (w = nI 0) (σ.1 (34 + 7 * b + 1) n) (cI (w = nI 1) (σ.1 (34 + 7 * b + 2) n) (cI (w = nI 2) (σ.1 (34 + 7 * b + 3) n) (cI (w = nI 3) (σ.1 (34 + 7 * b + 4) n) (cI (w = nI 4) (σ.1 (34 + 7 * b + 6) n) (cI (w = nI 5) (σ.1 (34 + 7 * b + 5) n) (bI (σ.1 (34 + 7 * b + 6) n = ccm σ b n)))))))
noncomputable def csh (σ : St) (b o : Nat) : Nat := fdf (σ.1 (34 + 7 * b + 6)) (σ.1 (34 + 7 * o + 6)) (min (rd σ (34 + 7 * b) 6) (rd σ (34 + 7 * o) 6)) - 1
theorem csh_ok {σ : St} {b o : Nat} (h : σ.1 (34 + 7 * b + 6) 0 = σ.1 (34 + 7 * o + 6) 0) : 1 ≤ fdf (σ.1 (34 + 7 * b + 6)) (σ.1 (34 + 7 * o + 6)) (min (rd σ (34 + 7 * b) 6) (rd σ (34 + 7 * o) 6)) ∧ csh σ b o ≤ rd σ (34 + 7 * b) 6 ∧ csh σ b o ≤ rd σ (34 + 7 * o) 6 := by
  obtain ⟨h1, h2, h3⟩ := fdf_ok (σ.1 (34 + 7 * b + 6)) (σ.1 (34 + 7 * o + 6)) (min (rd σ (34 + 7 * b) 6) (rd σ (34 + 7 * o) 6))
  have h4 : 1 ≤ fdf (σ.1 (34 + 7 * b + 6)) (σ.1 (34 + 7 * o + 6)) (min (rd σ (34 + 7 * b) 6) (rd σ (34 + 7 * o) 6)) := by
    rcases Nat.eq_zero_or_pos (fdf (σ.1 (34 + 7 * b + 6)) (σ.1 (34 + 7 * o + 6)) (min (rd σ (34 + 7 * b) 6) (rd σ (34 + 7 * o) 6))) with q | q
    · rw [q] at h2
      exact h2.elim (fun z => absurd z (Nat.not_lt_zero _)) (fun z => absurd h z)
    · exact q
  unfold csh
  exact ⟨h4, by omega, by omega⟩
noncomputable def ccf (σ : St) (b o : Nat) : Int32 :=
  (cbs (σ.1 (34 + 7 * b + 1)) (σ.1 (34 + 7 * b + 3)) (nI 1) (csh σ b o) (rd σ (34 + 7 * b) 6 - csh σ b o) &&& (cbs (σ.1 (34 + 7 * o + 1)) (σ.1 (34 + 7 * o + 3)) (nI 1) (csh σ b o) (rd σ (34 + 7 * o) 6 - csh σ b o) ||| cbs (σ.1 (34 + 7 * o + 1)) (σ.1 (34 + 7 * o + 3)) (nI 0) (csh σ b o) (rd σ (34 + 7 * o) 6 - csh σ b o))) ||| (cbs (σ.1 (34 + 7 * o + 1)) (σ.1 (34 + 7 * o + 3)) (nI 1) (csh σ b o) (rd σ (34 + 7 * o) 6 - csh σ b o) &&& (cbs (σ.1 (34 + 7 * b + 1)) (σ.1 (34 + 7 * b + 3)) (nI 1) (csh σ b o) (rd σ (34 + 7 * b) 6 - csh σ b o) ||| cbs (σ.1 (34 + 7 * b + 1)) (σ.1 (34 + 7 * b + 3)) (nI 0) (csh σ b o) (rd σ (34 + 7 * b) 6 - csh σ b o)))
theorem ur_fn (σ : St) {k a : Nat} (f : Nat → Int32) (h : a ≠ k) : (ur σ k f).1 a = σ.1 a := by
  funext b
  exact ur_cell _ _ _ h
theorem uv_fn (σ : St) {k a : Nat} (j : Nat) (v : Int32) (h : a ≠ k) : (uv σ k j v).1 a = σ.1 a := uv_fun σ j v h
