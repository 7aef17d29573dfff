theorem cI_no {p : Prop} {e : String} (h : cI p none (some e) = none) : p := Classical.byContradiction fun z => by rw [cI_f z] at h; cases h
theorem cI_so {p : Prop} {e E : String} (h : cI p none (some e) = some E) : ¬ p ∧ E = e := by
  by_cases q : p
  · rw [cI_t q] at h; cases h
  · rw [cI_f q] at h; exact ⟨q, (Option.some.inj h).symm⟩
/-- an outcome of a step as an exception -/
def wr9 (r : Int32) : Option String := if r = -1 then some exNo else if r = -2 then some exA else if r = -3 then some exI else none
def cpq (w : Int32) (k : Nat) : Prop := ¬ w < 0 ∧ w < nI k
theorem cpq_n {w : Int32} {k : Nat} (hk : k < 2 ^ 30) (h : cpq w k) : w = nI (cn w) ∧ cn w < k := vl2_n hk ⟨h.1, Int32.not_le.mpr h.2⟩
noncomputable def wCl (σ : St) (c : Int32) : Option String := cI (vl2 (nI (rd σ 8 4)) c) none (some exNo)
noncomputable def wBr (σ : St) (c : Int32) : Option String := cI (vl2 (nI (rd σ 8 6)) c) none (some exNo)
noncomputable def wPo (σ : St) (c : Int32) : Option String := cI (vl2 (nI (rd σ 13 3)) c) none (some exNo)
noncomputable def wPt (w : Int32) (k : Nat) : Option String := cI (cpq w k) none (some exA)
noncomputable def wEn (σ : St) (b n w : Int32) : Option String := cI (vl2 (nI (rd σ 8 6)) b) (cI (cen σ (cn b) n) (wPt w 7) (some exNo)) (some exNo)
noncomputable def wVa (σ : St) (b w : Int32) : Option String := cI (vl2 (nI (rd σ 8 6)) b) (cI (vl2 (nI (rd σ 8 5)) w) none (some exNo)) (some exNo)
noncomputable def w2C (σ : St) (a b : Int32) : Option String := cI (vl2 (nI (rd σ 8 4)) a) (wCl σ b) (some exNo)
noncomputable def w2B (σ : St) (a b : Int32) : Option String := cI (vl2 (nI (rd σ 8 6)) a) (wBr σ b) (some exNo)
noncomputable def wRc (σ : St) (a w : Int32) : Option String := cI (vl2 (nI (rd σ 8 4)) a) (wPt w 3) (some exNo)
noncomputable def wHa (σ : St) (a n : Int32) : Option String := cI (vl2 (nI (rd σ 8 4)) a) (cI (¬ n < 0 ∧ n ≤ nI (rd σ (90 + 3 * cn a) 2)) none (some exNo)) (some exNo)
noncomputable def wBm (σ : St) (i w : Int32) : Option String := cI (vl2 (nI (rd σ 11 3)) i) (wPt w 6) (some exNo)
noncomputable def wBp (σ : St) (i w : Int32) : Option String := cI (vl2 (nI (rd σ 13 3)) i) (wPt w 4) (some exNo)
noncomputable def wCp (σ : St) (c i : Int32) : Option String := cI (vl2 (nI (rd σ 8 4)) c) (wPo σ i) (some exNo)
noncomputable def crc (σ : St) (c w : Int32) : Int32 := cI (w = 0) (nI (rd σ (90 + 3 * cn c) 2)) (cI (w = nI 1) (σ.1 (90 + 3 * cn c + 1) (rd σ (90 + 3 * cn c) 2)) (sgn c (nI (rd σ (90 + 3 * cn c) 2)) (σ.1 (90 + 3 * cn c + 1) (rd σ (90 + 3 * cn c) 2))))
def csg (σ : St) (c n t s : Int32) : Prop := (vl2 (nI (rd σ 8 4)) c ∧ ¬ n < 0 ∧ ¬ nI 200 < n ∧ ¬ t < 0 ∧ ¬ (0 ≤ lg_cmp t.toInt64 2147483647)) ∧ s = sgn c n t
noncomputable def ccp' (σ : St) (c i : Int32) : Int32 := cI (rd σ (90 + 3 * cn c) 2 < rd σ 14 (cn i * 4 + 1)) (nI 2) (cI (σ.1 (90 + 3 * cn c + 1) (rd σ 14 (cn i * 4 + 1)) = σ.1 14 (cn i * 4 + 2)) (nI 0) (nI 1))
/-- the clients that have seen client c's last entry, among the first i -/
noncomputable def csb (σ : St) (c : Nat) : Nat → Int32
  | 0 => nI 0
  | i + 1 => cI (¬ i = c ∧ ¬ σ.1 (90 + 3 * i + 2) c < σ.1 (90 + 3 * c + 2) c ∧ ¬ cfk σ i c) (csb σ c i ||| (nI 1 <<< (nI i &&& 31))) (csb σ c i)
/-- pairs of forked clients, row by row -/
noncomputable def cfr1 (σ : St) (a : Nat) : Nat → Nat
  | 0 => 0
  | i + 1 => cfr1 σ a i + cI (cfk σ a (a + 1 + i)) 1 0
noncomputable def cfp (σ : St) (n : Nat) : Nat → Nat
  | 0 => 0
  | a + 1 => cfp σ n a + cfr1 σ a (n - (a + 1))
theorem cfr1_le (σ : St) (a i : Nat) : cfr1 σ a i ≤ i := by
  induction i with
  | zero => exact Nat.le_refl _
  | succ i ih =>
    show cfr1 σ a i + cI (cfk σ a (a + 1 + i)) 1 0 ≤ i + 1
    by_cases h : cfk σ a (a + 1 + i)
    · rw [cI_t h]; omega
    · rw [cI_f h]; omega
theorem cfp_le (σ : St) (n a : Nat) : cfp σ n a ≤ a * n := by
  induction a with
  | zero => exact Nat.zero_le _
  | succ a ih =>
    show cfp σ n a + cfr1 σ a (n - (a + 1)) ≤ (a + 1) * n
    have := cfr1_le σ a (n - (a + 1))
    rw [Nat.succ_mul]
    omega
theorem sus_nar {v : Int32} (h : v = nI 0 ∨ v = nI 1) : narrow .boolean (.int v) = .int v := by
  rcases h with rfl | rfl <;> rfl
/-- four bytes into the class's text -/
def cby (v : Int32) (s : Nat) : Int32 := ((v.toUInt32 >>> ((nI s).toUInt32 &&& Int32.toUInt32 31)).toInt32).toInt8.toInt32
def cpu (σ : St) (v : Int32) : St := uv (uv (uv (uv (uv (uv (uv (uv σ 3 (rd σ 0 2) (cby v 24)) 0 2 (nI (rd σ 0 2 + 1))) 3 (rd σ 0 2 + 1) (cby v 16)) 0 2 (nI (rd σ 0 2 + 1 + 1))) 3 (rd σ 0 2 + 1 + 1) (cby v 8)) 0 2 (nI (rd σ 0 2 + 1 + 1 + 1))) 3 (rd σ 0 2 + 1 + 1 + 1) (cby v 0)) 0 2 (nI (rd σ 0 2 + 1 + 1 + 1 + 1))
theorem cpu_fed (σ : St) (v : Int32) {m : Nat} (h : rd σ 0 2 + 4 ≤ m) (hm : m < 2 ^ 31) : nb (cpu σ v) 0 2 m ∧ rd (cpu σ v) 0 2 = rd σ 0 2 + 4 := nb_of (uv_same _ _ _ _) (by omega) hm
def cfd (σ : St) (a b c d e : Int32) : St := cpu (cpu (cpu (cpu (cpu σ a) b) c) d) e
noncomputable def wFd (σ : St) : Option String := cI (rd σ 0 2 ≤ 880) none (some exI)
noncomputable def cfS (σ : St) (a b c d e : Int32) : St := cI (rd σ 0 2 ≤ 880) (cfd σ a b c d e) σ
noncomputable def wTk (σ : St) (n : Int32) : Option String := cI (¬ n < 0 ∧ n ≤ nI (rd σ 0 2)) none (some exA)
noncomputable def ctS (σ : St) (n : Int32) : St := cI (¬ n < 0 ∧ n ≤ nI (rd σ 0 2)) (uv σ 0 2 (nI 0)) σ
