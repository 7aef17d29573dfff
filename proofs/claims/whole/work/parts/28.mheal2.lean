theorem mcps_len (σ : St) (f t n j : Nat) (h : j ≠ t) : (mcps σ f t n).1 16 j = σ.1 16 j := by
  unfold mcps
  rw [uv_idx _ _ _ _ h, mcp_ap, if_neg (by omega)]
/-- the own entries of y behind the new branch -/
def hap (σ : St) (y sm md : Nat) : Nat → St
  | 0 => σ
  | i + 1 => mapp (hap σ y sm md i) md ((hap σ y sm md i).1 17 (200 * y + (sm + 1 + i) - 1)) ((hap σ y sm md i).1 18 (200 * y + (sm + 1 + i) - 1)) ((hap σ y sm md i).1 19 (200 * y + (sm + 1 + i) - 1)) ((hap σ y sm md i).1 20 (200 * y + (sm + 1 + i) - 1)) ((hap σ y sm md i).1 21 (200 * y + (sm + 1 + i) - 1))
theorem hap_o (σ : St) (y sm md i : Nat) {a : Nat} (j : Nat) (h : a < 16 ∨ 22 < a) : (hap σ y sm md i).1 a j = σ.1 a j := by
  induction i with
  | zero => rfl
  | succ i ih =>
    show (mapp _ _ _ _ _ _ _).1 a j = _
    rw [mapp_o _ _ _ _ _ _ _ _ h, ih]
theorem hap_f {σ : St} (hM : MI σ) {y sm md : Nat} (hy : y ≠ md) (hy8 : y < 8) (hm8 : md < 8) : ∀ i, rd σ 16 md + i ≤ 200 → sm + i ≤ 200 → MI (hap σ y sm md i) ∧ (hap σ y sm md i).1 16 y = nI (rd σ 16 y) ∧ (hap σ y sm md i).1 16 md = nI (rd σ 16 md + i) := by
  intro i
  induction i with
  | zero => intro _ _; exact ⟨hM, (hM.len hy8).1, (hM.len hm8).1⟩
  | succ i ih =>
    intro h1 h2
    obtain ⟨a, b, c⟩ := ih (by omega) (by omega)
    have hr : rd (hap σ y sm md i) 16 md = rd σ 16 md + i := (nb_of (m := 200) c (by omega) (by decide)).2
    refine ⟨MI_mapp a _ _ _ _ _ (by omega) (a.aut (by omega)), ?_, ?_⟩
    · show (mapp _ _ _ _ _ _ _).1 16 y = _
      rw [mapp_len, if_neg hy, b]
    · show (mapp _ _ _ _ _ _ _).1 16 md = _
      rw [mapp_len, if_pos rfl, hr]
      rfl
noncomputable def hcv (σ : St) (x y sm md : Nat) : Nat → St
  | 0 => σ
  | c + 1 => cI (rd (hcv σ x y sm md c) 23 c = x ∨ rd (hcv σ x y sm md c) 23 c = y) (mcv (hcv σ x y sm md c) c (cI (rd (hcv σ x y sm md c) 23 c = y) (nI 1) (nI 0)) sm md) (hcv σ x y sm md c)
theorem MI_hcv {σ : St} (hM : MI σ) (x y sm : Nat) {md : Nat} (hm : md < 8) (c : Nat) : MI (hcv σ x y sm md c) := by
  induction c with
  | zero => exact hM
  | succ c ih =>
    show MI (cI _ _ _)
    by_cases h : rd (hcv σ x y sm md c) 23 c = x ∨ rd (hcv σ x y sm md c) 23 c = y
    · rw [cI_t h]; exact MI_mcv ih _ _ _ hm
    · rw [cI_f h]; exact ih
theorem mcv_o (σ : St) (c : Nat) (fo : Int32) (sm md : Nat) {a : Nat} (j : Nat) (h : a < 23) : (mcv σ c fo sm md).1 a j = σ.1 a j := by
  unfold mcv
  rw [uv_cell _ _ _ _ (by omega)]
  by_cases h1 : mgw σ c
  · rw [cI_t h1]
    by_cases h2 : ¬ fo = 0 ∧ sm < rd σ 24 c
    · rw [cI_t h2, mtk_o _ _ _ _ (by omega), uv_cell _ _ _ _ (by omega)]
    · rw [cI_f h2, uv_cell _ _ _ _ (by omega)]
  · rw [cI_f h1]
theorem hcv_o (σ : St) (x y sm md c : Nat) {a : Nat} (j : Nat) (h : a < 23) : (hcv σ x y sm md c).1 a j = σ.1 a j := by
  induction c with
  | zero => rfl
  | succ c ih =>
    show (cI _ _ _ : St).1 a j = _
    by_cases q : rd (hcv σ x y sm md c) 23 c = x ∨ rd (hcv σ x y sm md c) 23 c = y
    · rw [cI_t q, mcv_o _ _ _ _ _ _ h, ih]
    · rw [cI_f q, ih]
noncomputable def mh1 (σ : St) (x y : Nat) : St := mapp (mcps (m0 σ) x (rd σ 15 4) (rd σ 16 x)) (rd σ 15 4) (nI 2) (-1) (-1) (nI 0) (mh (mcps (m0 σ) x (rd σ 15 4) (rd σ 16 x)) y (rd σ 16 y))
noncomputable def mh2 (σ : St) (x y : Nat) : St := uv (hap (mh1 σ x y) y (mcom σ x y) (rd σ 15 4) (rd σ 16 y - mcom σ x y)) 15 4 (nI (rd σ 15 4 + 1))
def mhc (σ : St) (x y : Nat) : Prop := mcf σ x y = 0 ∧ rd σ 15 4 ≠ 8 ∧ rd σ 16 x + 1 + rd σ 16 y - mcom σ x y ≤ 200
noncomputable def mhl (σ : St) (ua ub : Int32) : Int32 × St := cI (vlt (σ.1 15 4) ua ∧ vlt (σ.1 15 4) ub ∧ ua ≠ ub) (cI (mhc σ (cn ua) (cn ub)) (nI (rd σ 15 4), hcv (mh2 σ (cn ua) (cn ub)) (cn ua) (cn ub) (mcom σ (cn ua) (cn ub)) (rd σ 15 4) (rd σ 15 1)) (nI 0, uv (m0 σ) 15 0 (nI 2))) (nI 0, uv (m0 σ) 15 0 (nI 1))
theorem mh1_f {σ : St} (hM : MI σ) {x y : Nat} (hx : x < rd σ 15 4) (hy : y < rd σ 15 4) (hc : mhc σ x y) : MI (mh1 σ x y) ∧ (mh1 σ x y).1 16 y = nI (rd σ 16 y) ∧ (mh1 σ x y).1 16 (rd σ 15 4) = nI (rd σ 16 x + 1) ∧ rd (mh1 σ x y) 16 y = rd σ 16 y ∧ rd (mh1 σ x y) 16 (rd σ 15 4) = rd σ 16 x + 1 := by
  have h8 := hM.1.2.2.2.1.2
  have hlx := hM.len (b := x) (by omega)
  have hly := hM.len (b := y) (by omega)
  have hcm := mcom_le σ x y
  obtain ⟨-, hne, hle⟩ := hc
  have hx2 := hlx.2
  have hM1 := MI_mcps (MI_m0 hM) (f := x) (t := rd σ 15 4) (n := rd σ 16 x) (by omega) (by omega) hx2
  have e1 : (mcps (m0 σ) x (rd σ 15 4) (rd σ 16 x)).1 16 (rd σ 15 4) = nI (rd σ 16 x) := uv_same _ _ _ _
  have e2 := (nb_of (m := 200) e1 hx2 (by decide)).2
  have hMM : MI (mh1 σ x y) := MI_mapp hM1 _ _ _ _ _ (by rw [e2]; omega) (Or.inl rfl)
  have a1 : (mh1 σ x y).1 16 y = nI (rd σ 16 y) := by
    unfold mh1
    rw [mapp_len, if_neg (by omega), mcps_len _ _ _ _ _ (by omega), uv_cell _ _ _ _ (by decide)]
    exact hly.1
  have a2 : (mh1 σ x y).1 16 (rd σ 15 4) = nI (rd σ 16 x + 1) := by
    unfold mh1
    rw [mapp_len, if_pos rfl, e2]
  exact ⟨hMM, a1, a2, (nb_of (m := 200) a1 hly.2 (by decide)).2, (nb_of (m := 200) a2 (by omega) (by decide)).2⟩
