/-- the class's numbers are in their ranges -/
def CI (σ : St) : Prop :=
  (∀ b, b < 8 → nb σ (34 + 7 * b) 6 200 ∧ σ.1 (34 + 7 * b + 6) 0 = nI 1) ∧ (∀ c, c < 6 → nb σ (90 + 3 * c) 2 200 ∧ nb σ (90 + 3 * c) 3 7 ∧ (σ.1 (90 + 3 * c) 5 = nI 0 ∨ σ.1 (90 + 3 * c) 5 = nI 1)) ∧ (nb σ 11 3 60 ∧ nb σ 13 3 40) ∧ (∀ k, k < 40 → nb σ 14 (k * 4 + 1) 200) ∧ (nb σ 8 4 6 ∧ nb σ 8 5 16 ∧ nb σ 8 6 8)
theorem CI.sz {σ : St} (h : CI σ) {b : Nat} (hb : b < 8) : nb σ (34 + 7 * b) 6 200 := (h.1 b hb).1
theorem CI.h0 {σ : St} (h : CI σ) {b : Nat} (hb : b < 8) : σ.1 (34 + 7 * b + 6) 0 = nI 1 := (h.1 b hb).2
theorem CI.po {σ : St} (h : CI σ) {c : Nat} (hc : c < 6) : nb σ (90 + 3 * c) 2 200 := (h.2.1 c hc).1
theorem CI.se {σ : St} (h : CI σ) {c : Nat} (hc : c < 6) : nb σ (90 + 3 * c) 3 7 := (h.2.1 c hc).2.1
theorem CI.su {σ : St} (h : CI σ) {c : Nat} (hc : c < 6) : σ.1 (90 + 3 * c) 5 = nI 0 ∨ σ.1 (90 + 3 * c) 5 = nI 1 := (h.2.1 c hc).2.2
theorem CI.ra {σ : St} (h : CI σ) : nb σ 11 3 60 := h.2.2.1.1
theorem CI.rb {σ : St} (h : CI σ) : nb σ 13 3 40 := h.2.2.1.2
theorem CI.pp {σ : St} (h : CI σ) {k : Nat} (hk : k < 40) : nb σ 14 (k * 4 + 1) 200 := h.2.2.2.1 k hk
theorem CI.nc {σ : St} (h : CI σ) : nb σ 8 4 6 := h.2.2.2.2.1
theorem CI.nk {σ : St} (h : CI σ) : nb σ 8 5 16 := h.2.2.2.2.2.1
theorem CI.nr {σ : St} (h : CI σ) : nb σ 8 6 8 := h.2.2.2.2.2.2
/-- each client sees a branch that there is -/
def CS (σ : St) : Prop := ∀ c, c < rd σ 8 4 → rd σ (90 + 3 * c) 3 < rd σ 8 6
/-- a blame record -/
def cbl (σ : St) (kd c o n f s : Int32) : St := uv (uv (uv (uv (uv (uv (cr0 σ 11 60 6) 12 (crn σ 11 60 * 6 + 0) kd) 12 (crn σ 11 60 * 6 + 1) c) 12 (crn σ 11 60 * 6 + 2) o) 12 (crn σ 11 60 * 6 + 3) n) 12 (crn σ 11 60 * 6 + 4) f) 12 (crn σ 11 60 * 6 + 5) s
def csl (σ : St) (c : Nat) : Int32 := rs ((σ.1 8 8).toInt64 * 1000003 + (σ.1 (90 + 3 * c + 1) (rd σ (90 + 3 * c) 2)).toInt64 * 7919 + (nI (rd σ (90 + 3 * c) 2)).toInt64 * 17 + (nI c).toInt64)
/-- a post -/
def cps (σ : St) (c : Nat) : St := uv (uv (uv (uv (cr0 (uv σ 8 8 (csl σ c)) 13 40 4) 14 (crn (uv σ 8 8 (csl σ c)) 13 40 * 4 + 0) (nI c)) 14 (crn (uv σ 8 8 (csl σ c)) 13 40 * 4 + 1) (nI (rd σ (90 + 3 * c) 2))) 14 (crn (uv σ 8 8 (csl σ c)) 13 40 * 4 + 2) (σ.1 (90 + 3 * c + 1) (rd σ (90 + 3 * c) 2))) 14 (crn (uv σ 8 8 (csl σ c)) 13 40 * 4 + 3) (csl σ c)
/-- the first clients begin -/
def cbg (σ : St) : Nat → St
  | 0 => σ
  | i + 1 => cbc (cbg σ i) i
def csv0 (σ : St) (a b c : Int32) : St := uv (uv (uv (uv (uv σ 8 4 a) 8 5 b) 8 7 c) 8 6 (nI 1)) 34 6 (nI 0)
def csv (σ : St) (a b c : Int32) : St := uv (uv (uv (cbg (csv0 σ a b c) 6) 11 3 (nI 0)) 13 3 (nI 0)) 8 8 (nI 1)
def cwt (σ : St) (b k : Nat) : Prop := k < rd σ 13 3 ∧ rd σ 14 (k * 4 + 1) ≤ rd σ (34 + 7 * b) 6 ∧ σ.1 (34 + 7 * b + 6) (rd σ 14 (k * 4 + 1)) ≠ σ.1 14 (k * 4 + 2)
noncomputable def cfr (σ : St) (b : Nat) : Nat := lst (fun k => rd σ 13 3 ≤ k ∨ cwt σ b k)
theorem cfr_ok (σ : St) (b : Nat) : cfr σ b ≤ rd σ 13 3 ∧ (cfr σ b < rd σ 13 3 → cwt σ b (cfr σ b)) ∧ (∀ j, j < cfr σ b → ¬ cwt σ b j) := by
  have h : ∃ k, rd σ 13 3 ≤ k ∨ cwt σ b k := ⟨rd σ 13 3, Or.inl (Nat.le_refl _)⟩
  obtain ⟨h1, h2⟩ := lst_ok h
  refine ⟨?_, fun q => h1.resolve_left (Nat.not_le.mpr q), fun j hj z => h2 j hj (Or.inr z)⟩
  rcases Nat.lt_or_ge (rd σ 13 3) (cfr σ b) with q | q
  · exact absurd (Or.inl (Nat.le_refl _)) (h2 _ q)
  · exact q
theorem cun_ok (σ : St) (b lo : Nat) (hlo : lo ≤ rd σ (34 + 7 * b) 6) : lo < cun σ b lo ∧ cun σ b lo ≤ rd σ (34 + 7 * b) 6 + 1 ∧ (cun σ b lo ≤ rd σ (34 + 7 * b) 6 → σ.1 (34 + 7 * b + 6) (cun σ b lo) ≠ ccm σ b (cun σ b lo)) ∧ (∀ j, lo < j → j < cun σ b lo → σ.1 (34 + 7 * b + 6) j = ccm σ b j) := by
  have h : ∃ n, lo < n ∧ (rd σ (34 + 7 * b) 6 < n ∨ σ.1 (34 + 7 * b + 6) n ≠ ccm σ b n) := ⟨rd σ (34 + 7 * b) 6 + 1, by omega, Or.inl (by omega)⟩
  obtain ⟨h1, h2⟩ := lst_ok h
  refine ⟨h1.1, ?_, fun q => h1.2.resolve_left (Nat.not_lt.mpr q), fun j a hj => Classical.byContradiction fun z => h2 j hj ⟨a, Or.inr z⟩⟩
  rcases Nat.lt_or_ge (rd σ (34 + 7 * b) 6 + 1) (cun σ b lo) with q | q
  · exact absurd ⟨by omega, Or.inl (by omega)⟩ (h2 _ q)
  · exact q
abbrev csn (σ : St) (c : Nat) : Nat := rd σ (90 + 3 * c) 3
def cdf (σ : St) (c : Nat) : Nat → Prop := fun n => σ.1 (34 + 7 * (rd σ (90 + 3 * c) 3) + 6) n ≠ σ.1 (90 + 3 * c + 1) n
def cbd (σ : St) (b : Nat) : Nat → Prop := fun n => ccm σ b n ≠ σ.1 (34 + 7 * b + 6) n
noncomputable def cfc (σ : St) (c : Nat) : Nat := caseF (rd σ (34 + 7 * (rd σ (90 + 3 * c) 3)) 6) (rd σ (90 + 3 * c) 2) (cdf σ c) (cbd σ (rd σ (90 + 3 * c) 3)) (cwt σ (rd σ (90 + 3 * c) 3))
theorem cfc_1 {σ : St} {c : Nat} (h : rd σ (34 + 7 * (rd σ (90 + 3 * c) 3)) 6 < rd σ (90 + 3 * c) 2) : cfc σ c = 1 := (caseF_1 h).1
theorem cfc_2 {σ : St} {c : Nat} (h : rd σ (90 + 3 * c) 2 ≤ rd σ (34 + 7 * (rd σ (90 + 3 * c) 3)) 6) (h2 : ¬ cft σ c (rd σ (90 + 3 * c) 3)) : cfc σ c = 2 := by
  have hd : cdf σ c (rd σ (90 + 3 * c) 2) := fun z => h2 ⟨h, z⟩
  unfold cfc caseF
  rw [cI_f (Nat.not_lt.mpr h), cI_t hd]
theorem cfc_3 {σ : St} {c : Nat} (h : rd σ (90 + 3 * c) 2 ≤ rd σ (34 + 7 * (rd σ (90 + 3 * c) 3)) 6) (h2 : cft σ c (rd σ (90 + 3 * c) 3)) (h3 : cun σ (rd σ (90 + 3 * c) 3) (rd σ (90 + 3 * c) 2) ≤ rd σ (34 + 7 * (rd σ (90 + 3 * c) 3)) 6) : cfc σ c = 3 := by
  have hd : ¬ cdf σ c (rd σ (90 + 3 * c) 2) := fun z => z h2.2
  obtain ⟨a1, a2, a3, a4⟩ := cun_ok σ (rd σ (90 + 3 * c) 3) (rd σ (90 + 3 * c) 2) h
  unfold cfc caseF
  rw [cI_f (Nat.not_lt.mpr h), cI_f hd, cI_t ⟨_, a1, h3, Ne.symm (a3 h3)⟩]
theorem cfc_n3 {σ : St} {c : Nat} (h : rd σ (90 + 3 * c) 2 ≤ rd σ (34 + 7 * (rd σ (90 + 3 * c) 3)) 6) (h3 : rd σ (34 + 7 * (rd σ (90 + 3 * c) 3)) 6 < cun σ (rd σ (90 + 3 * c) 3) (rd σ (90 + 3 * c) 2)) : ¬ ∃ n, rd σ (90 + 3 * c) 2 < n ∧ n ≤ rd σ (34 + 7 * (rd σ (90 + 3 * c) 3)) 6 ∧ cbd σ (rd σ (90 + 3 * c) 3) n := by
  obtain ⟨a1, a2, a3, a4⟩ := cun_ok σ (rd σ (90 + 3 * c) 3) (rd σ (90 + 3 * c) 2) h
  rintro ⟨n, b1, b2, b3⟩
  exact b3 (a4 n b1 (by omega)).symm
theorem cfc_4 {σ : St} {c : Nat} (h : rd σ (90 + 3 * c) 2 ≤ rd σ (34 + 7 * (rd σ (90 + 3 * c) 3)) 6) (h2 : cft σ c (rd σ (90 + 3 * c) 3)) (h3 : rd σ (34 + 7 * (rd σ (90 + 3 * c) 3)) 6 < cun σ (rd σ (90 + 3 * c) 3) (rd σ (90 + 3 * c) 2)) (h4 : cfr σ (rd σ (90 + 3 * c) 3) < rd σ 13 3) : cfc σ c = 4 := by
  have hd : ¬ cdf σ c (rd σ (90 + 3 * c) 2) := fun z => z h2.2
  unfold cfc caseF
  rw [cI_f (Nat.not_lt.mpr h), cI_f hd, cI_f (cfc_n3 h h3), cI_t ⟨_, (cfr_ok σ _).2.1 h4⟩]
theorem cfc_0 {σ : St} {c : Nat} (h : rd σ (90 + 3 * c) 2 ≤ rd σ (34 + 7 * (rd σ (90 + 3 * c) 3)) 6) (h2 : cft σ c (rd σ (90 + 3 * c) 3)) (h3 : rd σ (34 + 7 * (rd σ (90 + 3 * c) 3)) 6 < cun σ (rd σ (90 + 3 * c) 3) (rd σ (90 + 3 * c) 2)) (h4 : rd σ 13 3 ≤ cfr σ (rd σ (90 + 3 * c) 3)) : cfc σ c = 0 := by
  have hd : ¬ cdf σ c (rd σ (90 + 3 * c) 2) := fun z => z h2.2
  have hw : ¬ ∃ k, cwt σ (rd σ (90 + 3 * c) 3) k := fun ⟨k, hk⟩ => (cfr_ok σ _).2.2 k (Nat.lt_of_lt_of_le hk.1 h4) hk
  unfold cfc caseF
  rw [cI_f (Nat.not_lt.mpr h), cI_f hd, cI_f (cfc_n3 h h3), cI_f hw]
/-- what a case says -/
theorem cfc_i1 {σ : St} {c : Nat} (h : cfc σ c ≠ 1) : rd σ (90 + 3 * c) 2 ≤ rd σ (34 + 7 * (rd σ (90 + 3 * c) 3)) 6 := by
  rcases Nat.lt_or_ge (rd σ (34 + 7 * (rd σ (90 + 3 * c) 3)) 6) (rd σ (90 + 3 * c) 2) with q | q
  · exact absurd (cfc_1 q) h
  · exact q
theorem cfc_i2 {σ : St} {c : Nat} (h : cfc σ c ≠ 1) (h2 : cfc σ c ≠ 2) : cft σ c (rd σ (90 + 3 * c) 3) := Classical.byContradiction fun z => h2 (cfc_2 (cfc_i1 h) z)
theorem cfc_i3 {σ : St} {c : Nat} (h : cfc σ c = 3) : cun σ (rd σ (90 + 3 * c) 3) (rd σ (90 + 3 * c) 2) ≤ rd σ (34 + 7 * (rd σ (90 + 3 * c) 3)) 6 := by
  have h1 := cfc_i1 (σ := σ) (c := c) (by omega)
  have h2 := cfc_i2 (σ := σ) (c := c) (by omega) (by omega)
  rcases Nat.lt_or_ge (rd σ (34 + 7 * (rd σ (90 + 3 * c) 3)) 6) (cun σ (rd σ (90 + 3 * c) 3) (rd σ (90 + 3 * c) 2)) with q | q
  · exfalso
    rcases Nat.lt_or_ge (cfr σ (rd σ (90 + 3 * c) 3)) (rd σ 13 3) with r | r
    · have := cfc_4 h1 h2 q r; omega
    · have := cfc_0 h1 h2 q r; omega
  · exact q
theorem cfc_i4 {σ : St} {c : Nat} (h1 : cfc σ c ≠ 1) (h2 : cfc σ c ≠ 2) (h3 : cfc σ c ≠ 3) (h0 : cfc σ c ≠ 0) : cfr σ (rd σ (90 + 3 * c) 3) < rd σ 13 3 := by
  have a1 := cfc_i1 h1
  have a2 := cfc_i2 h1 h2
  rcases Nat.lt_or_ge (rd σ (34 + 7 * (rd σ (90 + 3 * c) 3)) 6) (cun σ (rd σ (90 + 3 * c) 3) (rd σ (90 + 3 * c) 2)) with q | q
  · rcases Nat.lt_or_ge (cfr σ (rd σ (90 + 3 * c) 3)) (rd σ 13 3) with r | r
    · exact r
    · exact absurd (cfc_0 a1 a2 q r) h0
  · exact absurd (cfc_3 a1 a2 q) h3
noncomputable def ca2 (σ : St) (c : Nat) : Nat := min (fdf (σ.1 (90 + 3 * c + 1)) (σ.1 (34 + 7 * (rd σ (90 + 3 * c) 3) + 6)) (rd σ (90 + 3 * c) 2)) (rd σ (90 + 3 * c) 2)
noncomputable def ca3 (σ : St) (c : Nat) : Nat := min (cun σ (rd σ (90 + 3 * c) 3) (rd σ (90 + 3 * c) 2)) (rd σ (34 + 7 * (rd σ (90 + 3 * c) 3)) 6)
noncomputable def ca4 (σ : St) (c : Nat) : Nat := min (rd σ 14 (cfr σ (rd σ (90 + 3 * c) 3) * 4 + 1)) (rd σ (34 + 7 * (rd σ (90 + 3 * c) 3)) 6)
/-- the blame record of a case -/
noncomputable def cbv (σ : St) (c : Nat) : St :=
  if cfc σ c = 1 then cbl σ (nI 1) (nI c) (-1) (nI (rd σ (90 + 3 * c) 2)) (σ.1 (90 + 3 * c + 1) (rd σ (90 + 3 * c) 2)) (σ.1 (34 + 7 * (rd σ (90 + 3 * c) 3) + 6) (rd σ (34 + 7 * (rd σ (90 + 3 * c) 3)) 6))
  else if cfc σ c = 2 then cbl σ (nI 2) (nI c) (-1) (nI (ca2 σ c)) (σ.1 (90 + 3 * c + 1) (ca2 σ c)) (σ.1 (34 + 7 * (rd σ (90 + 3 * c) 3) + 6) (ca2 σ c))
  else if cfc σ c = 3 then cbl σ (nI 3) (nI c) (-1) (nI (ca3 σ c)) (ccm σ (rd σ (90 + 3 * c) 3) (ca3 σ c)) (σ.1 (34 + 7 * (rd σ (90 + 3 * c) 3) + 6) (ca3 σ c))
  else cbl σ (nI 2) (nI c) (σ.1 14 (cfr σ (rd σ (90 + 3 * c) 3) * 4 + 0)) (nI (ca4 σ c)) (σ.1 (34 + 7 * (rd σ (90 + 3 * c) 3) + 6) (ca4 σ c)) (σ.1 14 (cfr σ (rd σ (90 + 3 * c) 3) * 4 + 2))
