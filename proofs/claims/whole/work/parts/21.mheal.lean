theorem in_n {n : Int32} {a k : Nat} (ha : a < 2 ^ 31) (hk : k < 2 ^ 31) (h1 : nI a ≤ n) (h2 : n ≤ nI k) : n = nI (cn n) ∧ a ≤ cn n ∧ cn n ≤ k := by
  have h0 : (0 : Int32) ≤ n := by
    have := nI_pos' ha
    simp only [Int32.le_iff_toInt_le] at *
    omega
  have e := i_nat h0
  have hc : cn n < 2 ^ 31 := by
    have := Int32.toInt_lt n
    unfold cn Int32.toNatClampNeg
    omega
  refine ⟨e, ?_, ?_⟩
  · rw [e] at h1; exact (nI_leI ha hc).mp h1
  · rw [e] at h2; exact (nI_leI hc hk).mp h2
theorem MI.en {σ : St} (h : MI σ) {b n : Int32} (hx : mex σ b n) : b = nI (cn b) ∧ cn b < rd σ 15 4 ∧ rd σ 15 4 ≤ 8 ∧ n = nI (cn n) ∧ 1 ≤ cn n ∧ cn n ≤ rd σ 16 (cn b) ∧ rd σ 16 (cn b) ≤ 200 := by
  obtain ⟨h1, h2, h3⟩ := h.br hx.1
  have hl := h.len (b := cn b) (by omega)
  have h4 := in_n (by decide) (by have := hl.2; omega) hx.2.1 (hl.1 ▸ hx.2.2)
  exact ⟨h1, h2, h3, h4.1, h4.2.1, h4.2.2, hl.2⟩
noncomputable def mcom (σ : St) (x y : Nat) : Nat := lst (fun n => ¬ (n < rd σ 16 x ∧ n < rd σ 16 y ∧ mh σ x (n + 1) = mh σ y (n + 1)))
theorem mcom_le (σ : St) (x y : Nat) : mcom σ x y ≤ rd σ 16 x ∧ mcom σ x y ≤ rd σ 16 y := by
  have h : ∃ n, ¬ (n < rd σ 16 x ∧ n < rd σ 16 y ∧ mh σ x (n + 1) = mh σ y (n + 1)) := ⟨rd σ 16 x, fun z => by omega⟩
  have h2 := (lst_ok h).2
  unfold mcom
  constructor
  · rcases Nat.lt_or_ge (rd σ 16 x) (lst fun n => ¬ (n < rd σ 16 x ∧ n < rd σ 16 y ∧ mh σ x (n + 1) = mh σ y (n + 1))) with q | q
    · exact absurd (fun z => absurd z.1 (Nat.lt_irrefl _)) (h2 _ q)
    · exact q
  · rcases Nat.lt_or_ge (rd σ 16 y) (lst fun n => ¬ (n < rd σ 16 x ∧ n < rd σ 16 y ∧ mh σ x (n + 1) = mh σ y (n + 1))) with q | q
    · exact absurd (fun z => absurd z.2.1 (Nat.lt_irrefl _)) (h2 _ q)
    · exact q
/-- the blocks that entries lo + 1 .. lo + i touch -/
def bset (kd bl : Nat → Int32) (wa : Int32) (lo : Nat) : Nat → Int32
  | 0 => nI 0
  | i + 1 => if kd (lo + i) = nI 1 ∨ (kd (lo + i) = 0 ∧ wa = 0) then bset kd bl wa lo i ||| (nI 1 <<< (bl (lo + i) &&& 31)) else bset kd bl wa lo i
theorem bset_t {kd bl : Nat → Int32} {wa : Int32} {lo i : Nat} (h : kd (lo + i) = nI 1 ∨ (kd (lo + i) = 0 ∧ wa = 0)) : bset kd bl wa lo i ||| (nI 1 <<< (bl (lo + i) &&& 31)) = bset kd bl wa lo (i + 1) := by
  show _ = if _ then _ else _
  rw [if_pos h]
theorem bset_f {kd bl : Nat → Int32} {wa : Int32} {lo i : Nat} (h : ¬ (kd (lo + i) = nI 1 ∨ (kd (lo + i) = 0 ∧ wa = 0))) : bset kd bl wa lo i = bset kd bl wa lo (i + 1) := by
  show _ = if _ then _ else _
  rw [if_neg h]
def mts (σ : St) (b lo : Nat) (wa : Int32) (i : Nat) : Int32 := bset (fun n => σ.1 17 (200 * b + n)) (fun n => σ.1 19 (200 * b + n)) wa lo i
noncomputable def mcf (σ : St) (x y : Nat) : Int32 := (mts σ x (mcom σ x y) (nI 1) (rd σ 16 x - mcom σ x y) &&& mts σ y (mcom σ x y) (nI 0) (rd σ 16 y - mcom σ x y)) ||| (mts σ y (mcom σ x y) (nI 1) (rd σ 16 y - mcom σ x y) &&& mts σ x (mcom σ x y) (nI 0) (rd σ 16 x - mcom σ x y))
def mgw (σ : St) (c : Nat) : Prop := rd σ 24 c ≤ rd σ 16 (rd σ 23 c) ∧ mh σ (rd σ 23 c) (rd σ 24 c) = σ.1 27 (201 * c + rd σ 24 c)
/-- the first i entries of f copied over t's -/
def mcp (σ : St) (f t i : Nat) : St := (fun a b => if 17 ≤ a ∧ a ≤ 22 ∧ 200 * t ≤ b ∧ b < 200 * t + i then σ.1 a (b - 200 * t + 200 * f) else σ.1 a b, σ.2)
theorem mcp_0 (σ : St) (f t : Nat) : mcp σ f t 0 = σ := by
  refine St_ext (fun a b => ?_) rfl
  show (if _ then _ else _) = _
  rw [if_neg (by omega)]
theorem mcp_ap (σ : St) (f t i a b : Nat) : (mcp σ f t i).1 a b = if 17 ≤ a ∧ a ≤ 22 ∧ 200 * t ≤ b ∧ b < 200 * t + i then σ.1 a (b - 200 * t + 200 * f) else σ.1 a b := rfl
theorem mcp_src (σ : St) (f t i a : Nat) (hft : f ≠ t) (hi : i < 200) : (mcp σ f t i).1 a (200 * f + (i + 1) - 1) = σ.1 a (200 * f + i) := by
  rw [mcp_ap, if_neg (by omega)]
  rfl
theorem mcp_step (σ : St) (f t i : Nat) (hft : f ≠ t) (hi : i < 200) :
    uv (uv (uv (uv (uv (uv (mcp σ f t i) 17 (200 * t + (i + 1) - 1) ((mcp σ f t i).1 17 (200 * f + (i + 1) - 1))) 18 (200 * t + (i + 1) - 1) ((mcp σ f t i).1 18 (200 * f + (i + 1) - 1))) 19 (200 * t + (i + 1) - 1) ((mcp σ f t i).1 19 (200 * f + (i + 1) - 1))) 20 (200 * t + (i + 1) - 1) ((mcp σ f t i).1 20 (200 * f + (i + 1) - 1))) 21 (200 * t + (i + 1) - 1) ((mcp σ f t i).1 21 (200 * f + (i + 1) - 1))) 22 (200 * t + (i + 1) - 1) ((mcp σ f t i).1 22 (200 * f + (i + 1) - 1)) = mcp σ f t (i + 1) := by
  refine St_ext (fun a b => ?_) rfl
  rw [mcp_src _ _ _ _ _ hft hi, mcp_src _ _ _ _ _ hft hi, mcp_src _ _ _ _ _ hft hi, mcp_src _ _ _ _ _ hft hi, mcp_src _ _ _ _ _ hft hi, mcp_src _ _ _ _ _ hft hi]
  have e : 200 * t + (i + 1) - 1 = 200 * t + i := by omega
  rw [e, mcp_ap]
  simp only [uv_ap, mcp_ap]
  by_cases hb : b = 200 * t + i
  · subst hb
    have e2 : 200 * t + i - 200 * t + 200 * f = 200 * f + i := by omega
    rw [e2]
    have n1 : ¬ (17 ≤ a ∧ a ≤ 22 ∧ 200 * t ≤ 200 * t + i ∧ 200 * t + i < 200 * t + i) := by omega
    rw [if_neg n1]
    by_cases ha : 17 ≤ a ∧ a ≤ 22
    · rw [if_pos (show 17 ≤ a ∧ a ≤ 22 ∧ 200 * t ≤ 200 * t + i ∧ 200 * t + i < 200 * t + (i + 1) by omega)]
      rcases (show a = 17 ∨ a = 18 ∨ a = 19 ∨ a = 20 ∨ a = 21 ∨ a = 22 by omega) with rfl | rfl | rfl | rfl | rfl | rfl <;> simp
    · rw [if_neg (show ¬ (17 ≤ a ∧ a ≤ 22 ∧ 200 * t ≤ 200 * t + i ∧ 200 * t + i < 200 * t + (i + 1)) by omega)]
      rw [if_neg (by omega), if_neg (by omega), if_neg (by omega), if_neg (by omega), if_neg (by omega), if_neg (by omega)]
  · rw [if_neg (by omega), if_neg (by omega), if_neg (by omega), if_neg (by omega), if_neg (by omega), if_neg (by omega)]
    by_cases h : 17 ≤ a ∧ a ≤ 22 ∧ 200 * t ≤ b ∧ b < 200 * t + i
    · rw [if_pos h, if_pos (by omega)]
    · rw [if_neg h, if_neg (by omega)]
def mcps (σ : St) (f t n : Nat) : St := uv (mcp σ f t n) 16 t (nI n)
theorem MI_mcps {σ : St} (h : MI σ) {f t n : Nat} (hf : f < 8) (ht : t < 8) (hn : n ≤ 200) : MI (mcps σ f t n) := by
  have e : ∀ a b, a < 16 ∨ 22 < a → (mcps σ f t n).1 a b = σ.1 a b := by
    intro a b q
    unfold mcps
    rw [uv_cell _ _ _ _ (by omega), mcp_ap, if_neg (by omega)]
  refine MI_of h (fun j hj => e 15 j (by omega)) ?_ ?_ ?_ ?_ ?_ ?_ ?_ ?_
  · rw [e 15 21 (by omega)]; exact h.v21
  · rw [e 15 22 (by omega)]; exact h.v22
  · intro b hb
    unfold mcps
    rw [uv_ap]
    split
    · exact vb_nI hn (by decide)
    · rw [mcp_ap, if_neg (by omega)]; exact h.v16 b hb
  · intro b hb; rw [e 23 b (by omega)]; exact h.v23 b hb
  · intro b hb; rw [e 24 b (by omega)]; exact h.v24 b hb
  · intro b hb; rw [e 29 _ (by omega)]; exact h.v29 b hb
  · intro b hb
    unfold mcps
    rw [uv_cell _ _ _ _ (by omega), mcp_ap]
    split
    · exact h.v18 _ (by omega)
    · exact h.v18 b hb
  · intro b hb; rw [e 28 b (by omega)]; exact h.v28 b hb
def hsb (set : Int32) (c : Nat) : Prop := ((set >>> (nI c &&& 31)) &&& nI 1) = nI 1
/-- the branch that all clients of a set see, as the reference looks for it -/
noncomputable def msa (sees : Nat → Int32) (set : Int32) : Nat → Nat → Int32 → Int32
  | 0, _, fd => fd
  | n + 1, c, fd => cI (hsb set c) (cI (fd ≠ -1 ∧ sees c ≠ fd) (-1) (msa sees set n (c + 1) (sees c))) (msa sees set n (c + 1) fd)
theorem msa_s (sees : Nat → Int32) (set : Int32) {c n : Nat} (h : c < n) (fd : Int32) : msa sees set (n - c) c fd = cI (hsb set c) (cI (fd ≠ -1 ∧ sees c ≠ fd) (-1) (msa sees set (n - (c + 1)) (c + 1) (sees c))) (msa sees set (n - (c + 1)) (c + 1) fd) := by
  rw [show n - c = (n - (c + 1)) + 1 by omega]
  rfl
