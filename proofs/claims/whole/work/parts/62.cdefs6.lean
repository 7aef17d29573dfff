/-! the class's tokens: pure functions of the text -/
noncomputable def rne (P : Int32 → Prop) (T : Nat → Int32) (s e : Nat) : Nat := lst (fun a => s ≤ a ∧ (e ≤ a ∨ ¬ P (T a)))
theorem rne_eq {P : Int32 → Prop} {T : Nat → Int32} {s e a : Nat} (h1 : s ≤ a) (h2 : e ≤ a ∨ ¬ P (T a)) (h3 : ∀ j, s ≤ j → j < a → j < e ∧ P (T j)) : rne P T s e = a := by
  refine lst_eq ⟨h1, h2⟩ (fun j hj z => ?_)
  obtain ⟨q1, q2⟩ := h3 j z.1 hj
  rcases z.2 with z | z
  · omega
  · exact z q2
theorem rne_ok {P : Int32 → Prop} {T : Nat → Int32} {s e : Nat} (h : s ≤ e) : s ≤ rne P T s e ∧ rne P T s e ≤ e ∧ (rne P T s e < e → ¬ P (T (rne P T s e))) ∧ ∀ j, s ≤ j → j < rne P T s e → j < e ∧ P (T j) := by
  have hx : ∃ a, s ≤ a ∧ (e ≤ a ∨ ¬ P (T a)) := ⟨e, h, Or.inl (Nat.le_refl _)⟩
  obtain ⟨q1, q2⟩ := lst_ok hx
  have hle : rne P T s e ≤ e := Nat.not_lt.mp (fun z => q2 e z ⟨h, Or.inl (Nat.le_refl _)⟩)
  refine ⟨q1.1, hle, fun hl => ?_, fun j hj hl => ?_⟩
  · rcases q1.2 with z | z
    · exact absurd hl (Nat.not_lt.mpr z)
    · exact z
  · have hje : j < e := Nat.lt_of_lt_of_le hl hle
    exact ⟨hje, Classical.byContradiction fun z => q2 j hl ⟨hj, Or.inr z⟩⟩
noncomputable def eor (T : Nat → Int32) (s e : Nat) : Nat := cI (s < rne ltr T s e) (rne ltr T s e) (rne dgt T s e)
theorem eor_ok {T : Nat → Int32} {s e : Nat} (h : s ≤ e) : s ≤ eor T s e ∧ eor T s e ≤ e := by
  by_cases q : s < rne ltr T s e
  · unfold eor; rw [cI_t q]; exact ⟨(rne_ok h).1, (rne_ok h).2.1⟩
  · unfold eor; rw [cI_f q]; exact ⟨(rne_ok h).1, (rne_ok h).2.1⟩
def nmv (T : Nat → Int32) (s : Nat) : Nat → Int32
  | 0 => nI 0
  | i + 1 => nmv T s i * nI 10 + (T (s + i) - nI 48)
def spl (T : Nat → Int32) (w s e : Nat) : Prop := kLen.getD w 0 = e - s ∧ ∀ j, j < e - s → T (s + j) = (kByt.getD w []).getD j 0
noncomputable def kfi (T : Nat → Int32) (s e : Nat) : Nat := cI (∃ k, k < 16 ∧ spl T (kSp.getD k 0) s e) (lst (fun k => k < 16 ∧ spl T (kSp.getD k 0) s e)) 1
theorem kfi_y {T : Nat → Int32} {s e k : Nat} (hk : k < 16) (h : spl T (kSp.getD k 0) s e) (hm : ∀ j, j < k → ¬ spl T (kSp.getD j 0) s e) : kfi T s e = k := by
  unfold kfi
  rw [cI_t ⟨k, hk, h⟩]
  exact lst_eq ⟨hk, h⟩ (fun j hj z => hm j hj z.2)
theorem kfi_n {T : Nat → Int32} {s e : Nat} (hm : ∀ j, j < 16 → ¬ spl T (kSp.getD j 0) s e) : kfi T s e = 1 := by
  unfold kfi
  rw [cI_f (fun ⟨k, hk, z⟩ => hm k hk z)]
theorem kfi_lt (T : Nat → Int32) (s e : Nat) : kfi T s e < 16 := by
  by_cases q : ∃ k, k < 16 ∧ spl T (kSp.getD k 0) s e
  · unfold kfi; rw [cI_t q]; exact (lst_ok q).1.1
  · unfold kfi; rw [cI_f q]; decide
noncomputable def kdo (T : Nat → Int32) (s e : Nat) : Nat := cI (dgt (T s)) (cI (6 < e - s) 1 3) (kfi T s e)
theorem kdo_lt (T : Nat → Int32) (s e : Nat) : kdo T s e < 16 := by
  unfold kdo
  by_cases q : dgt (T s)
  · rw [cI_t q]
    by_cases q2 : 6 < e - s
    · rw [cI_t q2]; decide
    · rw [cI_f q2]; decide
  · rw [cI_f q]; exact kfi_lt _ _ _
theorem kSp_lt {k : Nat} (h : k < 16) : kSp.getD k 0 < 22 := by
  have : ∀ k, k < 16 → kSp.getD k 0 < 22 := by decide +kernel
  exact this k h
theorem kOp_lt {k : Nat} (h : k < 16) : kOp.getD k 0 < 22 := by
  have : ∀ k, k < 16 → kOp.getD k 0 < 22 := by decide +kernel
  exact this k h
/-- a token more -/
def cat (σ : St) (k s e : Nat) : St := uv (uv (uv (uq σ 4 (rd σ 2 4) (some k)) 5 (rd σ 2 4) (nI s)) 6 (rd σ 2 4) (if k = 3 then nmv (σ.1 3) s (e - s) else nI 0)) 2 4 (nI (rd σ 2 4 + 1))
theorem cat_3 (σ : St) (k s e : Nat) : (cat σ k s e).1 3 = σ.1 3 := by
  unfold cat
  rw [uv_fun _ _ _ (by decide), uv_fun _ _ _ (by decide), uv_fun _ _ _ (by decide)]
  rfl
theorem cat_n {σ : St} {k s e m : Nat} (h : rd σ 2 4 + 1 ≤ m) (hm : m < 2 ^ 31) : nb (cat σ k s e) 2 4 m ∧ rd (cat σ k s e) 2 4 = rd σ 2 4 + 1 := nb_of (uv_same _ _ _ _) h hm
noncomputable def scK (T : Nat → Int32) (a nx : Nat) (r : Int32) : Nat := cI ((ltr (T a) ∨ dgt (T a)) ∧ nI a = r) 1 (kdo T a nx)
noncomputable def scn (T : Nat → Int32) (e : Nat) : Nat → Nat → Int32 → St → St
  | 0, _, _, σ => σ
  | f + 1, a, r, σ => cI (a < e) (cI (blk (T a)) (scn T e f (max (a + 1) (eor T a e)) r σ) (scn T e f (max (a + 1) (eor T a e)) (cI (ltr (T a) ∨ dgt (T a)) (nI (max (a + 1) (eor T a e))) (-1)) (cat σ (scK T a (max (a + 1) (eor T a e)) r) a (max (a + 1) (eor T a e))))) σ
theorem scn_e {T : Nat → Int32} {e f a : Nat} {r : Int32} {σ : St} (h : e ≤ a) : scn T e f a r σ = σ := by
  cases f with
  | zero => rfl
  | succ f => exact cI_f (by omega)
theorem scn_b {T : Nat → Int32} {e f a : Nat} {r : Int32} {σ : St} (h : a < e) (hb : blk (T a)) : scn T e (f + 1) a r σ = scn T e f (max (a + 1) (eor T a e)) r σ := (cI_t h).trans (cI_t hb)
theorem scn_t {T : Nat → Int32} {e f a k : Nat} {r r' : Int32} {σ : St} (h : a < e) (hb : ¬ blk (T a)) (hk : scK T a (max (a + 1) (eor T a e)) r = k) (hr : cI (ltr (T a) ∨ dgt (T a)) (nI (max (a + 1) (eor T a e))) (-1) = r') : scn T e (f + 1) a r σ = scn T e f (max (a + 1) (eor T a e)) r' (cat σ k a (max (a + 1) (eor T a e))) := by
  rw [← hk, ← hr]
  exact (cI_t h).trans (cI_f hb)
/-- the tokens of the first e bytes -/
noncomputable def csc (σ : St) (e : Nat) : St := cat (scn (σ.1 3) e e 0 (-1) (uv σ 2 4 (nI 0))) 0 e e
