def vz (f : Nat → Int32) (c i : Nat) : Nat → Int32 := fun j => if 6 * c ≤ j ∧ j < 6 * c + i then nI 0 else f j
def hi (h f : Nat → Int32) (c i : Nat) : Nat → Int32 := fun j => if 201 * c ≤ j ∧ j < 201 * c + i then h (j - 201 * c) else f j
def cntA (au : Nat → Int32) (a : Nat) : Nat → Nat
  | 0 => 0
  | n + 1 => cntA au a n + (if au n = nI a then 1 else 0)
def vcn (au f : Nat → Int32) (c n : Nat) : Nat → Int32 := fun j => if 6 * c ≤ j ∧ j < 6 * c + 6 then nI (cntA au (j - 6 * c) n) else f j
/-- a client of the reference takes a branch's history -/
def mtk (σ : St) (c b : Nat) : St := ur (ur (uv σ 24 c (nI (rd σ 16 b))) 26 (vcn (fun n => σ.1 18 (200 * b + n)) (σ.1 26) c (rd σ 16 b))) 27 (hi (mh σ b) (σ.1 27) c (rd σ 16 b + 1))
theorem vz_0 (σ : St) (k c : Nat) : ur σ k (vz (σ.1 k) c 0) = σ := by
  refine St_ext (fun a b => ?_) rfl
  by_cases h : a = k
  · subst h
    simp [ur, vz]
    intro h1 h2
    omega
  · simp [ur, h]
theorem row_step (σ : St) (k j : Nat) (f f' : Nat → Int32) (v : Int32) (h1 : f' j = v) (h2 : ∀ b, b ≠ j → f' b = f b) : uv (ur σ k f) k j v = ur σ k f' := by
  refine St_ext (fun a b => ?_) rfl
  by_cases h : a = k
  · subst h
    by_cases hb : b = j
    · subst hb; rw [uv_same]; simp [ur, h1]
    · rw [uv_idx _ _ _ _ hb]; simp [ur, h2 b hb]
  · rw [uv_cell _ _ _ _ h]; simp [ur, h]
theorem vz_step (σ : St) (f : Nat → Int32) (k c i : Nat) : uv (ur σ k (vz f c i)) k (6 * c + i) (nI 0) = ur σ k (vz f c (i + 1)) := by
  refine row_step _ _ _ _ _ _ ?_ (fun b hb => ?_)
  · have : 6 * c ≤ 6 * c + i ∧ 6 * c + i < 6 * c + (i + 1) := by omega
    simp [vz, this]
  · by_cases h : 6 * c ≤ b ∧ b < 6 * c + i
    · have : 6 * c ≤ b ∧ b < 6 * c + (i + 1) := by omega
      simp [vz, h, this]
    · have : ¬ (6 * c ≤ b ∧ b < 6 * c + (i + 1)) := by omega
      simp [vz, h, this]
theorem hi_0 (σ : St) (h : Nat → Int32) (k c : Nat) : ur σ k (hi h (σ.1 k) c 0) = σ := by
  refine St_ext (fun a b => ?_) rfl
  by_cases q : a = k
  · subst q
    simp [ur, hi]
    intro h1 h2
    omega
  · simp [ur, q]
theorem hi_step (σ : St) (h f : Nat → Int32) (k c i : Nat) : uv (ur σ k (hi h f c i)) k (201 * c + i) (h i) = ur σ k (hi h f c (i + 1)) := by
  refine row_step _ _ _ _ _ _ ?_ (fun b hb => ?_)
  · have : 201 * c ≤ 201 * c + i ∧ 201 * c + i < 201 * c + (i + 1) := by omega
    have e : 201 * c + i - 201 * c = i := by omega
    simp [hi, this, e]
  · by_cases q : 201 * c ≤ b ∧ b < 201 * c + i
    · have : 201 * c ≤ b ∧ b < 201 * c + (i + 1) := by omega
      simp [hi, q, this]
    · have : ¬ (201 * c ≤ b ∧ b < 201 * c + (i + 1)) := by omega
      simp [hi, q, this]
theorem nI_inj6 {a b : Nat} (ha : a < 2 ^ 31) (hb : b < 2 ^ 31) (h : nI a = nI b) : a = b := (nI_eq ha hb).mp h
theorem vcn_none (au f : Nat → Int32) (c n : Nat) (h : au n = -1) : vcn au f c (n + 1) = vcn au f c n := by
  funext j
  by_cases q : 6 * c ≤ j ∧ j < 6 * c + 6
  · have : ¬ ((-1 : Int32) = nI (j - 6 * c)) := by
      intro e
      have := congrArg Int32.toInt e
      rw [nI_toInt (by omega)] at this
      simp at this
    simp [vcn, q, cntA, h, this]
  · simp [vcn, q]
theorem ur_ur_comm (σ : St) {k m : Nat} (h : k ≠ m) (f e : Nat → Int32) : ur (ur σ k f) m e = ur (ur σ m e) k f := by
  refine St_ext (fun a b => ?_) rfl
  by_cases h1 : a = m
  · subst h1; simp [ur, Ne.symm h]
  · simp [ur, h1]
theorem vcn_step (σ : St) (e au f : Nat → Int32) (c n a : Nat) (ha : a < 6) (hau : au n = nI a) : uv (ur (ur σ 26 (vcn au f c n)) 27 e) 26 (6 * c + a) ((ur σ 26 (vcn au f c n)).1 26 (6 * c + a) + nI 1) = ur (ur σ 26 (vcn au f c (n + 1))) 27 e := by
  rw [ur_ur_comm σ (k := 26) (m := 27) (by decide) (vcn au f c n) e, ur_ur_comm σ (k := 26) (m := 27) (by decide) (vcn au f c (n + 1)) e]
  refine row_step _ _ _ _ _ _ ?_ (fun b hb => ?_)
  · have : 6 * c ≤ 6 * c + a ∧ 6 * c + a < 6 * c + 6 := by omega
    have e1 : 6 * c + a - 6 * c = a := by omega
    simp [ur, vcn, this, e1, cntA, hau, nI_add, ha]
  · by_cases q : 6 * c ≤ b ∧ b < 6 * c + 6
    · have : ¬ (nI a = nI (b - 6 * c)) := fun z => by
        have := nI_inj6 (by omega) (by omega) z
        omega
      simp [vcn, q, cntA, hau, this]
    · simp [vcn, q]
/-- the value of a block in the reference's branch, looking from entry n down -/
def mval (σ : St) (b : Nat) (w : Int32) : Nat → Int32
  | 0 => nI 0
  | n + 1 => if σ.1 17 (200 * b + n) = nI 1 ∧ σ.1 19 (200 * b + n) = w then σ.1 20 (200 * b + n) else mval σ b w n
theorem mval_step (σ : St) (b : Nat) (w : Int32) (i : Nat) (hi : i ≠ 0) (h : ¬ σ.1 17 (200 * b + i - 1) = nI 1 ∨ ¬ σ.1 19 (200 * b + i - 1) = w) : mval σ b w i = mval σ b w (i - 1) := by
  obtain ⟨n, rfl⟩ : ∃ n, i = n + 1 := ⟨i - 1, by omega⟩
  have e : 200 * b + (n + 1) - 1 = 200 * b + n := by omega
  rw [e] at h
  show (if _ then _ else _) = _
  rw [if_neg (fun z => h.elim (fun q => q z.1) (fun q => q z.2))]
  rfl
theorem mval_hit (σ : St) (b : Nat) (w : Int32) (i : Nat) (hi : i ≠ 0) (h1 : σ.1 17 (200 * b + i - 1) = nI 1) (h2 : σ.1 19 (200 * b + i - 1) = w) : mval σ b w i = σ.1 20 (200 * b + i - 1) := by
  obtain ⟨n, rfl⟩ : ∃ n, i = n + 1 := ⟨i - 1, by omega⟩
  have e : 200 * b + (n + 1) - 1 = 200 * b + n := by omega
  rw [e] at h1 h2 ⊢
  show (if _ then _ else _) = _
  rw [if_pos ⟨h1, h2⟩]
