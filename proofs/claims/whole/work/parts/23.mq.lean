theorem tsw_out {a : Int32} (m : Nat) (hm : m < 2 ^ 31) (h : ∀ j, j ≤ m → ¬ a = nI j) : a.toInt < 0 ∨ (m : Int) < a.toInt := by
  rcases Int.lt_or_le a.toInt 0 with q | q
  · exact Or.inl q
  · refine Or.inr ?_
    rcases Int.lt_or_le (m : Int) a.toInt with z | z
    · exact z
    · exfalso
      have h0 : (0 : Int32) ≤ a := Int32.le_iff_toInt_le.mpr (by simpa using q)
      have e := i_nat h0
      have hc : cn a < 2 ^ 31 := by
        have := Int32.toInt_lt a
        unfold cn Int32.toNatClampNeg
        omega
      refine h (cn a) ?_ e
      rw [e, nI_toInt hc] at z
      omega
noncomputable def mln (σ : St) (b : Int32) : Int32 × St := cI (vlt (σ.1 15 4) b) (σ.1 16 (cn b), m0 σ) (nI 0, uv (m0 σ) 15 0 (nI 1))
noncomputable def mbo (σ : St) (c : Int32) : Int32 × St := cI (vlt (σ.1 15 1) c) (σ.1 23 (cn c), m0 σ) (nI 0, uv (m0 σ) 15 0 (nI 1))
noncomputable def mvl (σ : St) (b w : Int32) : Int32 × St := cI (vlt (σ.1 15 4) b ∧ vlt (σ.1 15 2) w) (mval σ (cn b) w (rd σ 16 (cn b)), m0 σ) (nI 0, uv (m0 σ) 15 0 (nI 1))
noncomputable def mcl (σ : St) (ua ub : Int32) : Int32 × St := cI (vlt (σ.1 15 4) ua ∧ vlt (σ.1 15 4) ub) (nI (mcom σ (cn ua) (cn ub)), m0 σ) (nI 0, uv (m0 σ) 15 0 (nI 1))
noncomputable def mcn (σ : St) (ua ub : Int32) : Int32 × St := cI (vlt (σ.1 15 4) ua ∧ vlt (σ.1 15 4) ub) (mcf σ (cn ua) (cn ub), m0 σ) (nI 0, uv (m0 σ) 15 0 (nI 1))
noncomputable def mvc (σ : St) (ua ub : Int32) : Int32 × St := cI (vlt (σ.1 15 1) ua ∧ vlt (σ.1 15 1) ub) (σ.1 26 (6 * cn ua + cn ub), m0 σ) (nI 0, uv (m0 σ) 15 0 (nI 1))
noncomputable def mha (σ : St) (c n : Int32) : Int32 × St := cI (vlt (σ.1 15 1) c ∧ nI 0 ≤ n ∧ n ≤ σ.1 24 (cn c)) (σ.1 27 (201 * cn c + cn n), m0 σ) (nI 0, uv (m0 σ) 15 0 (nI 1))
noncomputable def mwf (σ : St) (c : Int32) : Int32 × St := cI (vlt (σ.1 15 1) c) (nI (mfc (m0 σ) (cn c)), mo1 (m0 σ) (cn c)) (nI 0, uv (m0 σ) 15 0 (nI 1))
noncomputable def mis (σ : St) (c : Int32) : Int32 × St := cI (vlt (σ.1 15 1) c) (bI (¬ σ.1 28 (cn c) = 0), m0 σ) (nI 0, uv σ 15 0 (nI 1))
noncomputable def mbm (σ : St) (i w : Int32) : Int32 × St := cI (vlt (σ.1 15 22) i) (cI (nI 0 ≤ w ∧ w ≤ nI 5) (σ.1 30 (6 * cn i + cn w), m0 σ) (nI 0, uv (m0 σ) 15 0 (nI 2))) (nI 0, uv (m0 σ) 15 0 (nI 1))
noncomputable def mbp (σ : St) (i w : Int32) : Int32 × St := cI (vlt (σ.1 15 21) i) (cI (nI 0 ≤ w ∧ w ≤ nI 3) (σ.1 29 (4 * cn i + cn w), m0 σ) (nI 0, uv (m0 σ) 15 0 (nI 2))) (nI 0, uv (m0 σ) 15 0 (nI 1))
noncomputable def mcp' (σ : St) (c i : Int32) : Int32 × St := cI (vlt (σ.1 15 1) c ∧ vlt (σ.1 15 21) i) (cI (rd σ 24 (cn c) < rd σ 29 (4 * cn i + 1)) (nI 2, m0 σ) (cI (σ.1 27 (201 * cn c + rd σ 29 (4 * cn i + 1)) = σ.1 29 (4 * cn i + 2)) (nI 0, m0 σ) (nI 1, m0 σ))) (nI 0, uv (m0 σ) 15 0 (nI 1))
noncomputable def men (σ : St) (b n w : Int32) : Int32 × St := cI (mex σ b n) (cI (w = nI 0) (σ.1 17 (200 * cn b + cn n - 1), m0 σ) (cI (w = nI 1) (σ.1 18 (200 * cn b + cn n - 1), m0 σ) (cI (w = nI 2) (σ.1 19 (200 * cn b + cn n - 1), m0 σ) (cI (w = nI 3) (σ.1 20 (200 * cn b + cn n - 1), m0 σ) (cI (w = nI 4) (σ.1 22 (200 * cn b + cn n - 1), m0 σ) (cI (w = nI 5) (σ.1 21 (200 * cn b + cn n - 1), m0 σ) (cI (w = nI 6) (cI (mcomp σ (cn b) (cn n) = σ.1 22 (200 * cn b + cn n - 1)) (nI 1) (nI 0), m0 σ) (nI 0, uv (m0 σ) 15 0 (nI 2))))))))) (nI 0, uv (m0 σ) 15 0 (nI 1))
noncomputable def mrc (σ : St) (c w : Int32) : Int32 × St := cI (vlt (σ.1 15 1) c) (cI (w = nI 0) (σ.1 24 (cn c), m0 σ) (cI (w = nI 1) (σ.1 27 (201 * cn c + rd σ 24 (cn c)), m0 σ) (cI (w = nI 2) (sgn c (σ.1 24 (cn c)) (σ.1 27 (201 * cn c + rd σ 24 (cn c))), m0 σ) (nI 0, uv (m0 σ) 15 0 (nI 2))))) (nI 0, uv (m0 σ) 15 0 (nI 1))
def msg (σ : St) (c n t s : Int32) : Prop := vlt (σ.1 15 1) c ∧ (nI 0 ≤ n ∧ n ≤ nI 200) ∧ (nI 0 ≤ t ∧ t ≤ nI 2147483646) ∧ sgn c n t = s
/-- one vector has a greater number than the other, among the first c -/
def gtx (f e : Nat → Int32) (c : Nat) : Prop := ∃ j, j < c ∧ e j < f j
theorem gtx_s {f e : Nat → Int32} {c : Nat} : gtx f e (c + 1) ↔ gtx f e c ∨ e c < f c := by
  constructor
  · rintro ⟨j, h1, h2⟩
    rcases Nat.lt_or_eq_of_le (Nat.le_of_lt_succ h1) with q | q
    · exact Or.inl ⟨j, q, h2⟩
    · exact Or.inr (q ▸ h2)
  · rintro (⟨j, h1, h2⟩ | h)
    · exact ⟨j, by omega, h2⟩
    · exact ⟨c, by omega, h⟩
noncomputable def ordF (f e : Nat → Int32) (c : Nat) : Int32 := cI (gtx f e c) (cI (gtx e f c) (nI 3) (nI 2)) (cI (gtx e f c) (nI 1) (nI 0))
noncomputable def mor (σ : St) (ua ub : Int32) : Int32 × St := cI (vlt (σ.1 15 1) ua ∧ vlt (σ.1 15 1) ub) (ordF (fun j => σ.1 26 (6 * cn ua + j)) (fun j => σ.1 26 (6 * cn ub + j)) (rd σ 15 1), m0 σ) (nI 0, uv (m0 σ) 15 0 (nI 1))
noncomputable def cntP (P : Nat → Prop) : Nat → Nat
  | 0 => 0
  | n + 1 => cntP P n + cI (P n) 1 0
theorem cntP_le (P : Nat → Prop) (n : Nat) : cntP P n ≤ n := by
  induction n with
  | zero => exact Nat.le_refl _
  | succ n ih =>
    show cntP P n + cI (P n) 1 0 ≤ n + 1
    by_cases h : P n
    · rw [cI_t h]; omega
    · rw [cI_f h]; omega
def sumN (f : Nat → Nat) : Nat → Nat
  | 0 => 0
  | n + 1 => sumN f n + f n
theorem sumN_le {f : Nat → Nat} {m n : Nat} (h : ∀ j, j < n → f j ≤ m) : sumN f n ≤ n * m := by
  induction n with
  | zero => exact Nat.zero_le _
  | succ n ih =>
    show sumN f n + f n ≤ (n + 1) * m
    have h1 := ih (fun j hj => h j (by omega))
    have h2 := h n (by omega)
    rw [Nat.succ_mul]
    omega
/-- the clients that have seen client c's last entry, among the first i -/
noncomputable def msb (σ : St) (c : Nat) : Nat → Int32
  | 0 => nI 0
  | i + 1 => cI (i ≠ c ∧ σ.1 26 (6 * c + c) ≤ σ.1 26 (6 * i + c) ∧ ¬ mfk σ i c) (msb σ c i ||| (nI 1 <<< (nI i &&& 31))) (msb σ c i)
noncomputable def msn (σ : St) (c : Int32) : Int32 × St := cI (vlt (σ.1 15 1) c) (msb σ (cn c) (rd σ 15 1), m0 σ) (nI 0, uv (m0 σ) 15 0 (nI 1))
theorem MI.bm {σ : St} (h : MI σ) {c : Int32} (hc : vlt (σ.1 15 22) c) : c = nI (cn c) ∧ cn c < rd σ 15 22 ∧ rd σ 15 22 ≤ 60 := ⟨(vlt_n h.blms.1 h.blms.2 (by decide) hc).1, (vlt_n h.blms.1 h.blms.2 (by decide) hc).2, h.blms.2⟩
theorem MI.bp {σ : St} (h : MI σ) {c : Int32} (hc : vlt (σ.1 15 21) c) : c = nI (cn c) ∧ cn c < rd σ 15 21 ∧ rd σ 15 21 ≤ 40 := ⟨(vlt_n h.posts.1 h.posts.2 (by decide) hc).1, (vlt_n h.posts.1 h.posts.2 (by decide) hc).2, h.posts.2⟩
section LDCW
variable {x : Ctx} {g : Lay} {z0 nL n1 n2 h : Nat} {Q : State → Prop} {σ : St} {pc : Nat} {lv lv' : List (Nat × Value)} {st : List Value} {own : String} {cc : ByteArray} {ret : Option FieldType}
theorem g_ldcw {pc' idx : Nat} {v : Int32} (hC : Cx x own cc nL ret h g z0) (hw : WIn (.constant own idx v)) (hd : decode cc pc = .ok (.ldc_w idx, 3)) (hp : pc + 3 = pc') (k : GG x g z0 nL n1 n2 Q σ pc' lv (.int v :: st)) : GG x g z0 nL n1 n2 Q σ pc lv st := fun H locs ls hP hS hl => lv_ldcw hC.1 hC.2.1 hC.2.2.2.1 (wWIn hC hw) hd (hp ▸ k H locs ls hP hS hl)
end LDCW
theorem mval_m0 (σ : St) (v : Int32) (b : Nat) (w : Int32) (n : Nat) : mval (uv σ 15 0 v) b w n = mval σ b w n := by
  induction n with
  | zero => rfl
  | succ n ih =>
    show (if _ then _ else _) = (if _ then _ else _)
    rw [uv_cell _ _ _ _ (by decide), uv_cell _ _ _ _ (by decide), uv_cell _ _ _ _ (by decide), ih]
theorem mfk_cg {σ σ' : St} (h1 : ∀ j, σ'.1 24 j = σ.1 24 j) (h2 : ∀ j, σ'.1 27 j = σ.1 27 j) (a b : Nat) : mfk σ' a b ↔ mfk σ a b := by
  unfold mfk rd
  rw [h1, h1, h2, h2]
noncomputable def mfp (σ : St) : Nat := sumN (fun a => cntP (fun b => mfk σ a b) a) (rd σ 15 1)
theorem cntP_s (P : Nat → Prop) (n : Nat) : (P n → cntP P (n + 1) = cntP P n + 1) ∧ (¬ P n → cntP P (n + 1) = cntP P n) := by
  constructor
  · intro h; show cntP P n + cI (P n) 1 0 = _; rw [cI_t h]
  · intro h; show cntP P n + cI (P n) 1 0 = _; rw [cI_f h]; rfl
