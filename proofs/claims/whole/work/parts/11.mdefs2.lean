noncomputable def cI {α : Type} (p : Prop) (a b : α) : α := @ite α p (Classical.propDecidable p) a b
theorem cI_t {α : Type} {p : Prop} {a b : α} (h : p) : cI p a b = a := if_pos h
theorem cI_f {α : Type} {p : Prop} {a b : α} (h : ¬ p) : cI p a b = b := if_neg h
theorem cI_c {α : Type} {p q : Prop} (h : p ↔ q) (a b : α) : cI p a b = cI q a b := by rw [propext h]
noncomputable def lst (P : Nat → Prop) : Nat := @dite Nat (∃ k, P k) (Classical.propDecidable _) (fun h => Classical.choose (pk_least P h)) (fun _ => 0)
theorem lst_ok {P : Nat → Prop} (h : ∃ k, P k) : P (lst P) ∧ ∀ j, j < lst P → ¬ P j := by
  unfold lst
  rw [dif_pos h]
  exact Classical.choose_spec (pk_least P h)
theorem lst_eq {P : Nat → Prop} {k : Nat} (h : P k) (hm : ∀ j, j < k → ¬ P j) : lst P = k := by
  obtain ⟨h1, h2⟩ := lst_ok ⟨k, h⟩
  rcases Nat.lt_trichotomy (lst P) k with q | q | q
  · exact absurd h1 (hm _ q)
  · exact q
  · exact absurd h (h2 _ q)
theorem lst_c {P P' : Nat → Prop} (h : ∀ n, P n ↔ P' n) : lst P = lst P' := by
  have : P = P' := funext fun n => propext (h n)
  rw [this]
/-- which case an operation finds, and where -/
noncomputable def caseF (len p : Nat) (df bad wit : Nat → Prop) : Nat := cI (len < p) 1 (cI (df p) 2 (cI (∃ n, p < n ∧ n ≤ len ∧ bad n) 3 (cI (∃ k, wit k) 4 0)))
noncomputable def atF (len p : Nat) (df bad wit : Nat → Prop) : Nat := cI (len < p) p (cI (df p) (lst df) (cI (∃ n, p < n ∧ n ≤ len ∧ bad n) (lst (fun n => p < n ∧ n ≤ len ∧ bad n)) (cI (∃ k, wit k) (lst wit) p)))
theorem caseF_1 {len p : Nat} {df bad wit : Nat → Prop} (h : len < p) : caseF len p df bad wit = 1 ∧ atF len p df bad wit = p := by
  unfold caseF atF
  rw [cI_t h, cI_t h]
  exact ⟨rfl, rfl⟩
theorem caseF_2 {len p n : Nat} {df bad wit : Nat → Prop} (h : p ≤ len) (h1 : df p) (h2 : df n) (h3 : ∀ j, j < n → ¬ df j) : caseF len p df bad wit = 2 ∧ atF len p df bad wit = n := by
  unfold caseF atF
  rw [cI_f (Nat.not_lt.mpr h), cI_t h1, cI_f (Nat.not_lt.mpr h), cI_t h1, lst_eq h2 h3]
  exact ⟨rfl, rfl⟩
theorem caseF_3 {len p n : Nat} {df bad wit : Nat → Prop} (h : p ≤ len) (h1 : ¬ df p) (h2 : p < n) (h3 : n ≤ len) (h4 : bad n) (h5 : ∀ j, p < j → j < n → ¬ bad j) : caseF len p df bad wit = 3 ∧ atF len p df bad wit = n := by
  have he : ∃ n, p < n ∧ n ≤ len ∧ bad n := ⟨n, h2, h3, h4⟩
  unfold caseF atF
  rw [cI_f (Nat.not_lt.mpr h), cI_f h1, cI_t he, cI_f (Nat.not_lt.mpr h), cI_f h1, cI_t he, lst_eq (P := fun n => p < n ∧ n ≤ len ∧ bad n) ⟨h2, h3, h4⟩ (fun j hj z => h5 j z.1 hj z.2.2)]
  exact ⟨rfl, rfl⟩
theorem caseF_4 {len p k : Nat} {df bad wit : Nat → Prop} (h : p ≤ len) (h1 : ¬ df p) (h2 : ∀ j, p < j → j ≤ len → ¬ bad j) (h3 : wit k) (h4 : ∀ j, j < k → ¬ wit j) : caseF len p df bad wit = 4 ∧ atF len p df bad wit = k := by
  have he : ¬ ∃ n, p < n ∧ n ≤ len ∧ bad n := fun ⟨n, a, b, c⟩ => h2 n a b c
  unfold caseF atF
  rw [cI_f (Nat.not_lt.mpr h), cI_f h1, cI_f he, cI_t ⟨k, h3⟩, cI_f (Nat.not_lt.mpr h), cI_f h1, cI_f he, cI_t ⟨k, h3⟩, lst_eq h3 h4]
  exact ⟨rfl, rfl⟩
theorem caseF_0 {len p : Nat} {df bad wit : Nat → Prop} (h : p ≤ len) (h1 : ¬ df p) (h2 : ∀ j, p < j → j ≤ len → ¬ bad j) (h4 : ∀ j, ¬ wit j) : caseF len p df bad wit = 0 ∧ atF len p df bad wit = p := by
  have he : ¬ ∃ n, p < n ∧ n ≤ len ∧ bad n := fun ⟨n, a, b, c⟩ => h2 n a b c
  have hw : ¬ ∃ k, wit k := fun ⟨k, a⟩ => h4 k a
  unfold caseF atF
  rw [cI_f (Nat.not_lt.mpr h), cI_f h1, cI_f he, cI_f hw, cI_f (Nat.not_lt.mpr h), cI_f h1, cI_f he, cI_f hw]
  exact ⟨rfl, rfl⟩
theorem uv_uv (σ : St) (k j : Nat) (a b : Int32) : uv (uv σ k j a) k j b = uv σ k j b := by
  refine St_ext (fun c d => ?_) rfl
  by_cases h1 : c = k
  · subst h1
    by_cases h2 : d = j
    · subst h2; rw [uv_same, uv_same]
    · rw [uv_idx _ _ _ _ h2, uv_idx _ _ _ _ h2, uv_idx _ _ _ _ h2]
  · rw [uv_cell _ _ _ _ h1, uv_cell _ _ _ _ h1, uv_cell _ _ _ _ h1]
theorem mh_uv {k : Nat} (h : k ≠ 22) (σ : St) (j : Nat) (v : Int32) (b n : Nat) : mh (uv σ k j v) b n = mh σ b n := by
  unfold mh
  rw [uv_cell _ _ _ _ (Ne.symm h)]
theorem mh_ur {k : Nat} (h : k ≠ 22) (σ : St) (f : Nat → Int32) (b n : Nat) : mh (ur σ k f) b n = mh σ b n := by
  unfold mh
  rw [ur_cell _ _ _ (Ne.symm h)]
theorem rd_uv {k a : Nat} (h : a ≠ k) (σ : St) (j : Nat) (v : Int32) (b : Nat) : rd (uv σ k j v) a b = rd σ a b := by
  unfold rd
  rw [uv_cell _ _ _ _ h]
theorem rd_ur {k a : Nat} (h : a ≠ k) (σ : St) (f : Nat → Int32) (b : Nat) : rd (ur σ k f) a b = rd σ a b := by
  unfold rd
  rw [ur_cell _ _ _ h]
theorem mcomp_uv {k : Nat} (h : k < 17 ∨ 22 < k) (σ : St) (j : Nat) (v : Int32) (b n : Nat) : mcomp (uv σ k j v) b n = mcomp σ b n := by
  unfold mcomp
  rw [mh_uv (by omega), uv_cell _ _ _ _ (by omega), uv_cell _ _ _ _ (by omega), uv_cell _ _ _ _ (by omega), uv_cell _ _ _ _ (by omega), uv_cell _ _ _ _ (by omega)]
/-- the reference's numbers are in their ranges -/
def MI (σ : St) : Prop :=
  (nb σ 15 1 6 ∧ nb σ 15 2 16 ∧ nb σ 15 3 50 ∧ nb σ 15 4 8 ∧ nb σ 15 5 60) ∧ (nb σ 15 21 40 ∧ nb σ 15 22 60 ∧ nb σ 15 26 900) ∧
  (∀ b, b < 8 → nb σ 16 b 200) ∧ (∀ c, c < 6 → nb σ 23 c 7 ∧ nb σ 24 c 200) ∧ (∀ k, k < 40 → nb σ 29 (4 * k + 1) 200) ∧ (∀ i, i < 1600 → σ.1 18 i = -1 ∨ nb σ 18 i 5) ∧ (rd σ 15 1 ≠ 0 → rd σ 15 3 ≠ 0) ∧ (∀ c, c < 6 → σ.1 28 c = nI 0 ∨ σ.1 28 c = nI 1)
theorem MI.len {σ : St} (h : MI σ) {b : Nat} (hb : b < 8) : nb σ 16 b 200 := h.2.2.1 b hb
theorem MI.see {σ : St} (h : MI σ) {c : Nat} (hc : c < 6) : nb σ 23 c 7 := (h.2.2.2.1 c hc).1
theorem MI.pos {σ : St} (h : MI σ) {c : Nat} (hc : c < 6) : nb σ 24 c 200 := (h.2.2.2.1 c hc).2
theorem MI.pps {σ : St} (h : MI σ) {k : Nat} (hk : k < 40) : nb σ 29 (4 * k + 1) 200 := h.2.2.2.2.1 k hk
theorem MI.aut {σ : St} (h : MI σ) {i : Nat} (hi : i < 1600) : σ.1 18 i = -1 ∨ nb σ 18 i 5 := h.2.2.2.2.2.1 i hi
theorem MI.posts {σ : St} (h : MI σ) : nb σ 15 21 40 := h.2.1.1
theorem MI.blms {σ : St} (h : MI σ) : nb σ 15 22 60 := h.2.1.2.1
/-- what the reference finds -/
def mdf (σ : St) (c : Nat) : Nat → Prop := fun n => mh σ (rd σ 23 c) n ≠ σ.1 27 (201 * c + n)
def mbad (σ : St) (b : Nat) : Nat → Prop := fun n => mcomp σ b n ≠ mh σ b n
def mwit (σ : St) (b : Nat) : Nat → Prop := fun k => k < rd σ 15 21 ∧ rd σ 29 (4 * k + 1) ≤ rd σ 16 b ∧ σ.1 29 (4 * k + 2) ≠ mh σ b (rd σ 29 (4 * k + 1))
noncomputable def mfc (σ : St) (c : Nat) : Nat := caseF (rd σ 16 (rd σ 23 c)) (rd σ 24 c) (mdf σ c) (mbad σ (rd σ 23 c)) (mwit σ (rd σ 23 c))
noncomputable def mfa (σ : St) (c : Nat) : Nat := atF (rd σ 16 (rd σ 23 c)) (rd σ 24 c) (mdf σ c) (mbad σ (rd σ 23 c)) (mwit σ (rd σ 23 c))
noncomputable def mo1 (σ : St) (c : Nat) : St := uv σ 15 24 (nI (mfa σ c))
theorem uv_fun (σ : St) {k a : Nat} (j : Nat) (v : Int32) (h : a ≠ k) : (uv σ k j v).1 a = σ.1 a := u2_ne σ.1 k j v h
theorem rd_idx (σ : St) (k a : Nat) {j b : Nat} (v : Int32) (h : b ≠ j) : rd (uv σ k j v) a b = rd σ a b := by
  unfold rd
  rw [uv_idx _ _ _ _ h]
