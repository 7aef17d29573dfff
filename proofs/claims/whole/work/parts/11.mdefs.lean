/-! numbers of the state -/
def rd (σ : St) (k j : Nat) : Nat := (σ.1 k j).toNatClampNeg
def nb (σ : St) (k j m : Nat) : Prop := σ.1 k j = nI (rd σ k j) ∧ rd σ k j ≤ m
theorem nb_of {σ : St} {k j m n : Nat} (h : σ.1 k j = nI n) (hn : n ≤ m) (hm : m < 2 ^ 31) : nb σ k j m ∧ rd σ k j = n := by
  have e : rd σ k j = n := by unfold rd; rw [h]; exact nI_clamp (by omega)
  exact ⟨⟨by rw [e]; exact h, by rw [e]; exact hn⟩, e⟩
theorem nb_le {σ : St} {k j m n : Nat} (h : nb σ k j m) (hn : m ≤ n) : nb σ k j n := ⟨h.1, Nat.le_trans h.2 hn⟩
/-- the hash of a branch of the reference -/
def mh (σ : St) (b n : Nat) : Int32 := if n = 0 then nI 1 else σ.1 22 (200 * b + n - 1)
def rs (v : Int64) : Int32 := (v - v / 2147483647 * 2147483647).toInt32
/-- the computed hash out of an entry's parts -/
def hq (h kd au bl va li n : Int32) : Int32 :=
  if kd = nI 2 then rs (h.toInt64 * 1000003 + n.toInt64 + li.toInt64 * 1299709)
  else rs (if kd = nI 1 then h.toInt64 * 1000003 + n.toInt64 + au.toInt64 * 7919 + bl.toInt64 * 104729 + (va.toInt64 + 1) * 15485863 else h.toInt64 * 1000003 + n.toInt64 + au.toInt64 * 7919 + bl.toInt64 * 104729)
def mcomp (σ : St) (b n : Nat) : Int32 := hq (mh σ b (n - 1)) (σ.1 17 (200 * b + n - 1)) (σ.1 18 (200 * b + n - 1)) (σ.1 19 (200 * b + n - 1)) (σ.1 20 (200 * b + n - 1)) (σ.1 21 (200 * b + n - 1)) (nI n)
def sgn (c n its : Int32) : Int32 := rs (its.toInt64 * 31 + n.toInt64 * 17 + c.toInt64 * 13 + 12345)
theorem St_ext {a b : St} (h1 : ∀ k j, a.1 k j = b.1 k j) (h2 : a.2 = b.2) : a = b := by
  obtain ⟨a1, a2⟩ := a
  obtain ⟨b1, b2⟩ := b
  have e : a1 = b1 := funext fun k => funext fun j => h1 k j
  subst e
  cases h2
  rfl
def shf (f : Nat → Int32) (w k : Nat) : Nat → Int32 := fun j => if j + w < k then f (j + w) else f j
theorem shf_step (σ : St) (c w k : Nat) (hk : w ≤ k) (hw : 0 < w) : uv (ur σ c (shf (σ.1 c) w k)) c (k - w) ((ur σ c (shf (σ.1 c) w k)).1 c k) = ur σ c (shf (σ.1 c) w (k + 1)) := by
  refine St_ext (fun a b => ?_) rfl
  by_cases ha : a = c
  · subst ha
    by_cases hb : b = k - w
    · subst hb
      rw [uv_same]
      have e1 : ¬ (k + w < k) := by omega
      have e2 : k - w + w < k + 1 := by omega
      have e3 : k - w + w = k := by omega
      simp [ur, shf, e1, e2, e3]
    · rw [uv_idx _ _ _ _ hb]
      by_cases h : b + w < k
      · have h2 : b + w < k + 1 := by omega
        simp [ur, shf, h, h2]
      · have h2 : ¬ b + w < k + 1 := by omega
        simp [ur, shf, h, h2]
  · rw [uv_cell _ _ _ _ ha]
    simp [ur, ha]
theorem shf_0 (σ : St) (c w k : Nat) (hk : k ≤ w) : ur σ c (shf (σ.1 c) w k) = σ := by
  refine St_ext (fun a b => ?_) rfl
  by_cases ha : a = c
  · subst ha
    have : ¬ b + w < k := by omega
    simp [ur, shf, this]
  · simp [ur, ha]
/-- an entry behind a branch of the reference -/
def mapp6 (σ : St) (b : Nat) (kd au bl va li : Int32) : St := uv (uv (uv (uv (uv (uv σ 16 b (nI (rd σ 16 b + 1))) 17 (200 * b + (rd σ 16 b + 1) - 1) kd) 18 (200 * b + (rd σ 16 b + 1) - 1) au) 19 (200 * b + (rd σ 16 b + 1) - 1) bl) 20 (200 * b + (rd σ 16 b + 1) - 1) va) 21 (200 * b + (rd σ 16 b + 1) - 1) li
def mapp (σ : St) (b : Nat) (kd au bl va li : Int32) : St := uv (mapp6 σ b kd au bl va li) 22 (200 * b + (rd σ 16 b + 1) - 1) (mcomp (mapp6 σ b kd au bl va li) b (rd σ 16 b + 1))
def mb0 (σ : St) : St := if rd σ 15 22 = 60 then uv (ur σ 30 (shf (σ.1 30) 6 360)) 15 22 (nI 59) else σ
def mbn (σ : St) : Nat := if rd σ 15 22 = 60 then 59 else rd σ 15 22
/-- a blame record of the reference -/
def mblm (σ : St) (w c o n f s : Int32) : St := uv (uv (uv (uv (uv (uv (uv (mb0 σ) 30 (6 * mbn σ) w) 30 (6 * mbn σ + 1) c) 30 (6 * mbn σ + 2) o) 30 (6 * mbn σ + 3) n) 30 (6 * mbn σ + 4) f) 30 (6 * mbn σ + 5) s) 15 22 (nI (mbn σ + 1))
def mp0 (σ : St) : St := if rd σ 15 21 = 40 then uv (ur σ 29 (shf (σ.1 29) 4 160)) 15 21 (nI 39) else σ
def mpn (σ : St) : Nat := if rd σ 15 21 = 40 then 39 else rd σ 15 21
def msl (σ : St) (c : Nat) : Int32 := rs ((σ.1 15 23).toInt64 * 1000003 + (σ.1 27 (201 * c + rd σ 24 c)).toInt64 * 7919 + (nI (rd σ 24 c)).toInt64 * 17 + (nI c).toInt64)
/-- a post of the reference -/
def mpst (σ : St) (c : Nat) : St := uv (uv (uv (uv (uv (uv (mp0 σ) 15 23 (msl σ c)) 29 (4 * mpn σ) (nI c)) 29 (4 * mpn σ + 1) (nI (rd σ 24 c))) 29 (4 * mpn σ + 2) (σ.1 27 (201 * c + rd σ 24 c))) 29 (4 * mpn σ + 3) (msl σ c)) 15 21 (nI (mpn σ + 1))
/-- a number out of 0 .. n - 1, as the reference asks it -/
def vlt (n c : Int32) : Prop := 0 ≤ c ∧ c ≤ n - 1
def cn (c : Int32) : Nat := c.toNatClampNeg
theorem i_nat {c : Int32} (h : 0 ≤ c) : c = nI (cn c) := by
  have h0 : ¬ c < 0 := fun z => by simp only [Int32.lt_iff_toInt_lt, Int32.le_iff_toInt_le] at *; omega
  obtain ⟨j, hj, e⟩ := nI_of h0
  subst e
  unfold cn
  rw [nI_clamp hj]
theorem vlt_n {n c : Int32} {m k : Nat} (hn : n = nI k) (hk : k ≤ m) (hm : m < 2 ^ 30) (h : vlt n c) : c = nI (cn c) ∧ cn c < k := by
  have e := i_nat h.1
  refine ⟨e, ?_⟩
  have h2 := h.2
  subst hn
  have hc : cn c < 2 ^ 31 := by
    have := Int32.toInt_lt c
    unfold cn Int32.toNatClampNeg
    omega
  simp only [Int32.le_iff_toInt_le] at h2
  rw [e, nI_toInt hc] at h2
  by_cases h0 : k = 0
  · subst h0
    rw [nI_0] at h2
    have e1 : ((0 : Int32) - 1).toInt = -1 := by decide
    rw [e1] at h2
    omega
  · have e1 : nI k - 1 = nI (k - 1) := by
      obtain ⟨j, rfl⟩ : ∃ j, k = j + 1 := ⟨k - 1, by omega⟩
      rw [nI_pred]
      rfl
    rw [e1, nI_toInt (by omega)] at h2
    omega
theorem vlt_of {k c m : Nat} (hk : k ≤ m) (hm : m < 2 ^ 30) (h : c < k) : vlt (nI k) (nI c) := by
  refine ⟨nI_pos' (by omega), ?_⟩
  obtain ⟨j, rfl⟩ : ∃ j, k = j + 1 := ⟨k - 1, by omega⟩
  rw [nI_pred]
  exact nI_le (by omega) (by omega)
