def chb (set : Int32) (c : Nat) : Prop := ¬ ((set >>> (nI c &&& 31)) &&& nI 1) = 0
/-- the branch that all clients of a set see, as the class looks for it -/
noncomputable def csa (sees : Nat → Int32) (set : Int32) : Nat → Nat → Int32 → Int32
  | 0, _, fd => fd
  | n + 1, c, fd => cI (chb set c) (cI (¬ fd < 0 ∧ ¬ fd = sees c) (-1) (csa sees set n (c + 1) (sees c))) (csa sees set n (c + 1) fd)
theorem csa_s (sees : Nat → Int32) (set : Int32) {c n : Nat} (h : c < n) (fd : Int32) : csa sees set (n - c) c fd = cI (chb set c) (cI (¬ fd < 0 ∧ ¬ fd = sees c) (-1) (csa sees set (n - (c + 1)) (c + 1) (sees c))) (csa sees set (n - (c + 1)) (c + 1) fd) := by
  rw [show n - c = (n - (c + 1)) + 1 by omega]
  rfl
noncomputable def csF (σ : St) (set : Int32) : Int32 := csa (fun c => σ.1 (90 + 3 * c) 3) set (rd σ 8 4) 0 (-1)
theorem csa_n {sees : Nat → Int32} {set : Int32} {m : Nat} : ∀ (n c : Nat) (fd : Int32), (∀ j, c ≤ j → j < c + n → vb (sees j) m) → (fd = -1 ∨ vb fd m) → (csa sees set n c fd = -1 ∨ vb (csa sees set n c fd) m) := by
  intro n
  induction n with
  | zero => intro c fd _ h; exact h
  | succ n ih =>
    intro c fd hs h
    show (cI (chb set c) (cI (¬ fd < 0 ∧ ¬ fd = sees c) (-1) (csa sees set n (c + 1) (sees c))) (csa sees set n (c + 1) fd)) = -1 ∨ vb (cI (chb set c) (cI (¬ fd < 0 ∧ ¬ fd = sees c) (-1) (csa sees set n (c + 1) (sees c))) (csa sees set n (c + 1) fd)) m
    by_cases h1 : chb set c
    · rw [cI_t h1]
      by_cases h2 : ¬ fd < 0 ∧ ¬ fd = sees c
      · rw [cI_t h2]; exact Or.inl rfl
      · rw [cI_f h2]; exact ih (c + 1) (sees c) (fun j a b => hs j (by omega) (by omega)) (Or.inr (hs c (by omega) (by omega)))
    · rw [cI_f h1]; exact ih (c + 1) fd (fun j a b => hs j (by omega) (by omega)) h
theorem csF_n {σ : St} (hI : CI σ) (hS : CS σ) (set : Int32) (h : ¬ csF σ set < 0) : csF σ set = nI (cn (csF σ set)) ∧ cn (csF σ set) < rd σ 8 6 := by
  have h1 := hI.nc.2
  by_cases h0 : rd σ 8 6 = 0
  · have hz : rd σ 8 4 = 0 := by
      rcases Nat.eq_zero_or_pos (rd σ 8 4) with q | q
      · exact q
      · exact absurd (hS 0 q) (by omega)
    exfalso
    apply h
    unfold csF
    rw [hz]
    show (-1 : Int32) < 0
    decide
  · have := csa_n (sees := fun c => σ.1 (90 + 3 * c) 3) (set := set) (m := rd σ 8 6 - 1) (rd σ 8 4) 0 (-1) (fun j _ hj => ⟨(hI.se (by omega)).1, by have := hS j (by omega); unfold rd at this; unfold rd; omega⟩) (Or.inl rfl)
    rcases this with q | q
    · exact absurd (by unfold csF; rw [q]; decide) h
    · exact ⟨q.1, by have := q.2; unfold cn csF; omega⟩
/-- the clients of a set among the first i see branch made -/
noncomputable def cfs (σ : St) (set : Int32) (md : Nat) : Nat → St
  | 0 => σ
  | i + 1 => cI (chb set i) (uv (cfs σ set md i) (90 + 3 * i) 3 (nI md)) (cfs σ set md i)
theorem cfs_o (σ : St) (set : Int32) (md : Nat) (i : Nat) {a : Nat} (j : Nat) (h : a < 90 ∨ 90 + 3 * i ≤ a ∨ j ≠ 3) : (cfs σ set md i).1 a j = σ.1 a j := by
  induction i with
  | zero => rfl
  | succ i ih =>
    show (cI _ _ _ : St).1 a j = _
    refine cI_a2 (Q := fun τ : St => τ.1 a j = σ.1 a j) (fun _ => ?_) fun _ => ih (by omega)
    rw [uv_ap, if_neg (by omega)]
    exact ih (by omega)
def cfv (σ : St) (set : Int32) : Prop := ¬ set = 0 ∧ ((set.toUInt32 >>> ((nI (rd σ 8 4)).toUInt32 &&& Int32.toUInt32 31)).toInt32) = 0
noncomputable def cfo (σ : St) (set : Int32) : Int32 × St :=
  cI (cfv σ set) (cI (csF σ set < 0 ∨ 8 ≤ rd σ 8 6) (-3, σ) (nI (rd σ 8 6), cfs (ccp (uv σ 8 6 (nI (rd σ 8 6 + 1))) (rd σ 8 6) (cn (csF σ set))) set (rd σ 8 6) (rd σ 8 4))) (-2, σ)
theorem ccp_o (σ : St) (b o : Nat) {a : Nat} (j : Nat) (h : a < 34 + 7 * b ∨ 34 + 7 * b + 6 < a) : (ccp σ b o).1 a j = σ.1 a j := by
  unfold ccp
  rw [uv_cell _ _ _ _ (by omega), ur_cell _ _ _ (by omega), ur_cell _ _ _ (by omega), ur_cell _ _ _ (by omega), ur_cell _ _ _ (by omega), ur_cell _ _ _ (by omega), ur_cell _ _ _ (by omega)]
/-- a client is brought over -/
noncomputable def cbo (σ : St) (c : Nat) (fo : Int32) (sm md : Nat) : St := uv (cI (cft σ c (rd σ (90 + 3 * c) 3)) (cI (¬ fo = 0 ∧ sm < rd σ (90 + 3 * c) 2) (cth (uv σ (90 + 3 * c) 5 (nI 0)) c md) (uv σ (90 + 3 * c) 5 (nI 0))) σ) (90 + 3 * c) 3 (nI md)
theorem cbo_o (σ : St) (c : Nat) (fo : Int32) (sm md : Nat) {a : Nat} (j : Nat) (h : a < 90 + 3 * c ∨ 90 + 3 * c + 2 < a) : (cbo σ c fo sm md).1 a j = σ.1 a j := by
  unfold cbo
  rw [uv_cell _ _ _ _ (by omega)]
  exact cI_a2 (Q := fun τ : St => τ.1 a j = σ.1 a j) (fun _ => cI_a2 (Q := fun τ : St => τ.1 a j = σ.1 a j) (fun _ => (cth_o _ _ _ _ h).trans (uv_cell _ _ _ _ (by omega))) fun _ => uv_cell _ _ _ _ (by omega)) fun _ => rfl
noncomputable def chl (σ : St) (x y sm md : Nat) : Nat → St
  | 0 => σ
  | c + 1 => cI (rd (chl σ x y sm md c) (90 + 3 * c) 3 = x ∨ rd (chl σ x y sm md c) (90 + 3 * c) 3 = y) (cbo (chl σ x y sm md c) c (cI (rd (chl σ x y sm md c) (90 + 3 * c) 3 = y) (nI 1) (nI 0)) sm md) (chl σ x y sm md c)
theorem chl_o (σ : St) (x y sm md c : Nat) {a : Nat} (j : Nat) (h : a < 90 ∨ 90 + 3 * c ≤ a) : (chl σ x y sm md c).1 a j = σ.1 a j := by
  induction c with
  | zero => rfl
  | succ c ih =>
    show (cI _ _ _ : St).1 a j = _
    exact cI_a2 (Q := fun τ : St => τ.1 a j = σ.1 a j) (fun _ => (cbo_o _ _ _ _ _ _ (by omega)).trans (ih (by omega))) fun _ => ih (by omega)
noncomputable def ch1 (σ : St) (x y : Nat) : St := ccp (uv σ 8 6 (nI (rd σ 8 6 + 1))) (rd σ 8 6) x
noncomputable def ch2 (σ : St) (x y : Nat) : St := cap (ch1 σ x y) (rd σ 8 6) (nI 2) (-1) (-1) (nI 0) ((ch1 σ x y).1 (34 + 7 * y + 6) (rd (ch1 σ x y) (34 + 7 * y) 6))
noncomputable def ch3 (σ : St) (x y : Nat) : St := cho (ch2 σ x y) (rd σ 8 6) y (csh σ x y) (rd (ch2 σ x y) (34 + 7 * y) 6 - csh σ x y)
def chc (σ : St) (x y : Nat) : Prop := ccf σ x y = 0 ∧ rd σ 8 6 < 8 ∧ rd σ (34 + 7 * x) 6 + 1 + rd σ (34 + 7 * y) 6 - csh σ x y ≤ 200
noncomputable def chel (σ : St) (ua ub : Int32) : Int32 × St :=
  cI (vl2 (nI (rd σ 8 6)) ua ∧ vl2 (nI (rd σ 8 6)) ub ∧ ¬ ua = ub) (cI (chc σ (cn ua) (cn ub)) (nI (rd σ 8 6), chl (ch3 σ (cn ua) (cn ub)) (cn ua) (cn ub) (csh σ (cn ua) (cn ub)) (rd σ 8 6) (rd σ 8 4)) (-3, σ)) (-1, σ)
theorem ccp_size (σ : St) {b o : Nat} (h : rd σ (34 + 7 * o) 6 ≤ 200) : nb (ccp σ b o) (34 + 7 * b) 6 200 ∧ rd (ccp σ b o) (34 + 7 * b) 6 = rd σ (34 + 7 * o) 6 := nb_of (uv_same _ _ _ _) h (by decide)
theorem cxa_le {σ : St} {a b : Nat} (h : cfk σ a b) : cxa σ a b ≤ rd σ (90 + 3 * b) 2 := by
  obtain ⟨h1, h2, h3⟩ := fdf_ok (σ.1 (90 + 3 * a + 1)) (σ.1 (90 + 3 * b + 1)) (min (rd σ (90 + 3 * a) 2) (rd σ (90 + 3 * b) 2))
  unfold cxa
  rcases Nat.lt_or_ge (min (rd σ (90 + 3 * a) 2) (rd σ (90 + 3 * b) 2)) (fdf (σ.1 (90 + 3 * a + 1)) (σ.1 (90 + 3 * b + 1)) (min (rd σ (90 + 3 * a) 2) (rd σ (90 + 3 * b) 2))) with q | q
  · exact absurd (h3 _ q).2 h
  · omega
theorem ch1_o (σ : St) (x y : Nat) {a : Nat} (j : Nat) (h : (a < 34 + 7 * rd σ 8 6 ∨ 34 + 7 * rd σ 8 6 + 6 < a) ∧ (a = 8 → j ≠ 6)) : (ch1 σ x y).1 a j = σ.1 a j := by
  unfold ch1
  rw [ccp_o _ _ _ _ h.1, uv_ap, if_neg (fun z => h.2 z.1 z.2)]
theorem ch_ok {σ : St} (hI : CI σ) {x y : Nat} (hx : x < rd σ 8 6) (hy : y < rd σ 8 6) (h0 : σ.1 (34 + 7 * x + 6) 0 = σ.1 (34 + 7 * y + 6) 0) (hc : chc σ x y) :
    (nb (ch1 σ x y) (34 + 7 * y) 6 200 ∧ rd (ch1 σ x y) (34 + 7 * y) 6 = rd σ (34 + 7 * y) 6) ∧ (nb (ch1 σ x y) (34 + 7 * rd σ 8 6) 6 200 ∧ rd (ch1 σ x y) (34 + 7 * rd σ 8 6) 6 = rd σ (34 + 7 * x) 6) ∧ rd σ (34 + 7 * x) 6 < 200 ∧
    (nb (ch2 σ x y) (34 + 7 * y) 6 200 ∧ rd (ch2 σ x y) (34 + 7 * y) 6 = rd σ (34 + 7 * y) 6) ∧ (nb (ch2 σ x y) (34 + 7 * rd σ 8 6) 6 200 ∧ rd (ch2 σ x y) (34 + 7 * rd σ 8 6) 6 = rd σ (34 + 7 * x) 6 + 1) ∧ rd (ch2 σ x y) (34 + 7 * rd σ 8 6) 6 + (rd (ch2 σ x y) (34 + 7 * y) 6 - csh σ x y) ≤ 200 ∧ csh σ x y ≤ rd (ch2 σ x y) (34 + 7 * y) 6 ∧
    (∀ b, b < 8 → nb (ch3 σ x y) (34 + 7 * b) 6 200) ∧ (∀ a j, 90 ≤ a → (ch3 σ x y).1 a j = σ.1 a j) ∧ (ch3 σ x y).1 8 4 = σ.1 8 4 := by
  have h8 := hI.nr.2
  have h8' : rd σ 8 6 < 8 := hc.2.1
  have hle := hc.2.2
  obtain ⟨k1, k2, k3⟩ := csh_ok h0
  have a1 : (ch1 σ x y).1 (34 + 7 * y) 6 = σ.1 (34 + 7 * y) 6 := ch1_o _ _ _ _ (by omega)
  have hy2 := hI.sz (b := y) (by omega)
  have hx2 := hI.sz (b := x) (by omega)
  have hx3 := hx2.2
  have n1 : nb (ch1 σ x y) (34 + 7 * y) 6 200 := nb_cg a1 hy2 hy2.2
  have r1 : rd (ch1 σ x y) (34 + 7 * y) 6 = rd σ (34 + 7 * y) 6 := by unfold rd; rw [a1]
  have e0 : rd (uv σ 8 6 (nI (rd σ 8 6 + 1))) (34 + 7 * x) 6 = rd σ (34 + 7 * x) 6 := rd_uv (by omega) _ _ _ _
  have n2 := ccp_size (uv σ 8 6 (nI (rd σ 8 6 + 1))) (b := rd σ 8 6) (o := x) (by rw [e0]; exact hx2.2)
  rw [e0] at n2
  have hF : rd (ch1 σ x y) (34 + 7 * rd σ 8 6) 6 < 200 := by
    show rd (ccp _ _ _) _ _ < 200
    rw [n2.2]; omega
  have n3 := cap_size (ch1 σ x y) (rd σ 8 6) (nI 2) (-1) (-1) (nI 0) ((ch1 σ x y).1 (34 + 7 * y + 6) (rd (ch1 σ x y) (34 + 7 * y) 6)) hF
  have e2 : rd (ch1 σ x y) (34 + 7 * rd σ 8 6) 6 = rd σ (34 + 7 * x) 6 := n2.2
  have a2 : (ch2 σ x y).1 (34 + 7 * y) 6 = (ch1 σ x y).1 (34 + 7 * y) 6 := cap_o _ _ _ _ _ _ _ _ (by omega)
  have n4 : nb (ch2 σ x y) (34 + 7 * y) 6 200 := nb_cg a2 n1 n1.2
  have r4 : rd (ch2 σ x y) (34 + 7 * y) 6 = rd σ (34 + 7 * y) 6 := by rw [← r1]; unfold rd; rw [a2]
  have e3 : rd (ch2 σ x y) (34 + 7 * rd σ 8 6) 6 = rd σ (34 + 7 * x) 6 + 1 := by rw [← e2]; exact n3.2
  have hb : rd (ch2 σ x y) (34 + 7 * rd σ 8 6) 6 + (rd (ch2 σ x y) (34 + 7 * y) 6 - csh σ x y) ≤ 200 := by rw [e3, r4]; omega
  refine ⟨⟨n1, r1⟩, ⟨n2.1, e2⟩, by omega, ⟨n4, r4⟩, ⟨n3.1, e3⟩, hb, by rw [r4]; exact k3, ?_, ?_, ?_⟩
  · intro b hb8
    by_cases q : b = rd σ 8 6
    · subst q
      exact (cho_size (σ := ch2 σ x y) (b := rd σ 8 6) y (csh σ x y) n3.1 _ hb).1
    · have e : (ch3 σ x y).1 (34 + 7 * b) 6 = σ.1 (34 + 7 * b) 6 := by
        unfold ch3
        rw [cho_o _ _ _ _ _ _ (by omega)]
        unfold ch2
        rw [cap_o _ _ _ _ _ _ _ _ (by omega), ch1_o _ _ _ _ (by omega)]
      have z := hI.sz hb8
      exact nb_cg e z z.2
  · intro a j ha
    unfold ch3
    rw [cho_o _ _ _ _ _ _ (by omega)]
    unfold ch2
    rw [cap_o _ _ _ _ _ _ _ _ (by omega), ch1_o _ _ _ _ (by omega)]
  · unfold ch3
    rw [cho_o _ _ _ _ _ _ (by omega)]
    unfold ch2
    rw [cap_o _ _ _ _ _ _ _ _ (by omega), ch1_o _ _ _ _ (by omega)]
