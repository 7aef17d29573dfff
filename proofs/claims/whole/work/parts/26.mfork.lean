theorem MI_u15 {σ : St} (h : MI σ) {j n : Nat} (hj : (j = 4 ∧ n ≤ 8) ∨ (j = 5 ∧ n ≤ 60) ∨ (j = 21 ∧ n ≤ 40) ∨ (j = 22 ∧ n ≤ 60) ∨ (j = 26 ∧ n ≤ 900)) : MI (uv σ 15 j (nI n)) := by
  obtain ⟨⟨a1, a2, a3, a4, a5⟩, ⟨b1, b2, b3⟩, c1, c2, c3, c4, z, c5⟩ := h
  have e : ∀ a b, a ≠ 15 → (uv σ 15 j (nI n)).1 a b = σ.1 a b := fun a b q => uv_cell _ _ _ _ q
  have f : ∀ i, i ≠ j → (uv σ 15 j (nI n)).1 15 i = σ.1 15 i := fun i q => uv_idx _ _ _ _ q
  have key : ∀ i m, (j = i → n ≤ m) → m < 2 ^ 31 → nb σ 15 i m → nb (uv σ 15 j (nI n)) 15 i m := by
    intro i m q1 q2 q3
    by_cases q : i = j
    · subst q
      exact (nb_of (uv_same _ _ _ _) (q1 rfl) q2).1
    · exact nb_cg (f i q) q3 q3.2
  refine ⟨⟨key 1 6 (by omega) (by decide) a1, key 2 16 (by omega) (by decide) a2, key 3 50 (by omega) (by decide) a3, key 4 8 (by omega) (by decide) a4, key 5 60 (by omega) (by decide) a5⟩, ⟨key 21 40 (by omega) (by decide) b1, key 22 60 (by omega) (by decide) b2, key 26 900 (by omega) (by decide) b3⟩, fun b hb => nb_cg (e 16 b (by decide)) (c1 b hb) (c1 b hb).2, fun c hc => ⟨nb_cg (e 23 c (by decide)) (c2 c hc).1 (c2 c hc).1.2, nb_cg (e 24 c (by decide)) (c2 c hc).2 (c2 c hc).2.2⟩, fun k hk => nb_cg (e 29 _ (by decide)) (c3 k hk) (c3 k hk).2, fun i hi => ?_, ?_, fun c hc => ?_⟩
  · rw [e 18 i (by decide)]
    exact (c4 i hi).elim Or.inl (fun q => Or.inr (nb_cg (e 18 i (by decide)) q q.2))
  · unfold rd
    rw [f 1 (by omega), f 3 (by omega)]
    exact z
  · rw [e 28 c (by decide)]; exact c5 c hc
theorem MI_ur26 {σ : St} (h : MI σ) (f : Nat → Int32) {k : Nat} (hk : k = 26 ∨ k = 27 ∨ k = 17 ∨ k = 19 ∨ k = 20 ∨ k = 21 ∨ k = 22 ∨ k = 25 ∨ 29 < k) : MI (ur σ k f) := by
  have e : ∀ a b, a = 15 ∨ a = 16 ∨ a = 18 ∨ a = 23 ∨ a = 24 ∨ a = 28 ∨ a = 29 → (ur σ k f).1 a b = σ.1 a b := fun a b q => ur_cell _ _ _ (by omega)
  refine MI_of h (fun j hj => e 15 j (by omega)) ?_ ?_ ?_ ?_ ?_ ?_ ?_ ?_
  · rw [e 15 21 (by omega)]; exact h.v21
  · rw [e 15 22 (by omega)]; exact h.v22
  · intro b hb; rw [e 16 b (by omega)]; exact h.v16 b hb
  · intro b hb; rw [e 23 b (by omega)]; exact h.v23 b hb
  · intro b hb; rw [e 24 b (by omega)]; exact h.v24 b hb
  · intro b hb; rw [e 29 _ (by omega)]; exact h.v29 b hb
  · intro b hb; rw [e 18 b (by omega)]; exact h.v18 b hb
  · intro b hb; rw [e 28 b (by omega)]; exact h.v28 b hb
theorem MI_ur23 {σ : St} (h : MI σ) (f : Nat → Int32) (hf : ∀ c, c < 6 → vb (f c) 7) : MI (ur σ 23 f) := by
  have e : ∀ a b, a ≠ 23 → (ur σ 23 f).1 a b = σ.1 a b := fun a b q => ur_cell _ _ _ q
  refine MI_of h (fun j hj => e 15 j (by omega)) ?_ ?_ ?_ ?_ ?_ ?_ ?_ ?_
  · rw [e 15 21 (by omega)]; exact h.v21
  · rw [e 15 22 (by omega)]; exact h.v22
  · intro b hb; rw [e 16 b (by omega)]; exact h.v16 b hb
  · intro b hb; rw [ur_ap, if_pos rfl]; exact hf b hb
  · intro b hb; rw [e 24 b (by omega)]; exact h.v24 b hb
  · intro b hb; rw [e 29 _ (by omega)]; exact h.v29 b hb
  · intro b hb; rw [e 18 b (by omega)]; exact h.v18 b hb
  · intro b hb; rw [e 28 b (by omega)]; exact h.v28 b hb
def mst0 (σ : St) : St := uv (uv (uv (uv (uv (uv σ 15 4 (nI 1)) 15 5 (nI 0)) 16 0 (nI 0)) 15 21 (nI 0)) 15 22 (nI 0)) 15 23 (nI 1)
/-- the reference begins anew: the first i clients -/
def mst (σ : St) : Nat → St
  | 0 => mst0 σ
  | i + 1 => mtk (uv (uv (uv (mst σ i) 23 i (nI 0)) 25 i (nI 0)) 28 i (nI 0)) i 0
theorem MI_mst0 {σ : St} (h : MI σ) : MI (mst0 σ) := by
  unfold mst0
  exact MI_uv (MI_u15 (MI_u15 (MI_uv16 (MI_u15 (MI_u15 h (by omega)) (by omega)) (by omega)) (by omega)) (by omega)) _ (by omega)
theorem MI_mstS {σ : St} (h : MI σ) (i : Nat) : MI (uv (uv (uv σ 23 i (nI 0)) 25 i (nI 0)) 28 i (nI 0)) := MI_uv28 (MI_uv (MI_uv23 h (by omega)) _ (by omega)) (by omega)
theorem MI_mst {σ : St} (h : MI σ) (i : Nat) : MI (mst σ i) := by
  induction i with
  | zero => exact MI_mst0 h
  | succ i ih => exact MI_mtk (MI_mstS ih i) (by omega)
def MS (σ : St) : Prop := ∀ c, c < rd σ 15 1 → rd σ 23 c < rd σ 15 4
theorem msa_n {sees : Nat → Int32} {set : Int32} {m : Nat} : ∀ (n c : Nat) (fd : Int32), (∀ j, c ≤ j → j < c + n → vb (sees j) m) → (fd = -1 ∨ vb fd m) → (msa sees set n c fd = -1 ∨ vb (msa sees set n c fd) m) := by
  intro n
  induction n with
  | zero => intro c fd _ h; exact h
  | succ n ih =>
    intro c fd hs h
    show (cI (hsb set c) (cI (fd ≠ -1 ∧ sees c ≠ fd) (-1) (msa sees set n (c + 1) (sees c))) (msa sees set n (c + 1) fd)) = -1 ∨ vb (cI (hsb set c) (cI (fd ≠ -1 ∧ sees c ≠ fd) (-1) (msa sees set n (c + 1) (sees c))) (msa sees set n (c + 1) fd)) m
    by_cases h1 : hsb set c
    · rw [cI_t h1]
      by_cases h2 : fd ≠ -1 ∧ sees c ≠ fd
      · rw [cI_t h2]; exact Or.inl rfl
      · rw [cI_f h2]; exact ih (c + 1) (sees c) (fun j a b => hs j (by omega) (by omega)) (Or.inr (hs c (by omega) (by omega)))
    · rw [cI_f h1]; exact ih (c + 1) fd (fun j a b => hs j (by omega) (by omega)) h
noncomputable def fkr (f : Nat → Int32) (set nbr : Int32) (i : Nat) : Nat → Int32 := fun j => cI (j < i ∧ hsb set j) nbr (f j)
theorem fkr_0 (σ : St) (set nbr : Int32) : ur σ 23 (fkr (σ.1 23) set nbr 0) = σ := by
  refine St_ext (fun a b => ?_) rfl
  rw [ur_ap]
  split
  · next h => subst h; unfold fkr; rw [cI_f (by omega)]
  · rfl
theorem fkr_t (σ : St) (f : Nat → Int32) (set nbr : Int32) (i : Nat) (h : hsb set i) : uv (ur σ 23 (fkr f set nbr i)) 23 i nbr = ur σ 23 (fkr f set nbr (i + 1)) := by
  refine row_step _ _ _ _ _ _ ?_ (fun b hb => ?_)
  · unfold fkr; rw [cI_t ⟨by omega, h⟩]
  · unfold fkr; exact cI_c ⟨fun z => ⟨by omega, z.2⟩, fun z => ⟨by omega, z.2⟩⟩ _ _
theorem fkr_f (σ : St) (f : Nat → Int32) (set nbr : Int32) (i : Nat) (h : ¬ hsb set i) : uv (ur σ 23 (fkr f set nbr i)) 23 i ((ur σ 23 (fkr f set nbr i)).1 23 i) = ur σ 23 (fkr f set nbr (i + 1)) := by
  refine row_step _ _ _ _ _ _ ?_ (fun b hb => ?_)
  · rw [ur_ap, if_pos rfl]; unfold fkr; rw [cI_f (fun z => h z.2), cI_f (by omega)]
  · unfold fkr; exact cI_c ⟨fun z => ⟨by omega, z.2⟩, fun z => ⟨by omega, z.2⟩⟩ _ _
def mfv (σ : St) (set : Int32) : Prop := nI 1 ≤ set ∧ set < nI 1 <<< (nI (rd σ 15 1) &&& 31)
noncomputable def msF (σ : St) (set : Int32) : Int32 := msa (σ.1 23) set (rd σ 15 1) 0 (-1)
noncomputable def mfo (σ : St) (set : Int32) : Int32 × St :=
  cI (mfv σ set) (cI (msF σ set = -1 ∨ rd σ 15 4 = 8) (nI 0, uv (m0 σ) 15 0 (nI 2)) (nI (rd σ 15 4), uv (ur (mcps (m0 σ) (cn (msF σ set)) (rd σ 15 4) (rd σ 16 (cn (msF σ set)))) 23 (fkr (σ.1 23) set (nI (rd σ 15 4)) (rd σ 15 1))) 15 4 (nI (rd σ 15 4 + 1)))) (nI 0, uv (m0 σ) 15 0 (nI 1))
theorem msF_n {σ : St} (hM : MI σ) (hS : MS σ) (set : Int32) (h : ¬ msF σ set = -1) : msF σ set = nI (cn (msF σ set)) ∧ cn (msF σ set) < rd σ 15 4 := by
  have h1 := hM.1.1.2
  by_cases h0 : rd σ 15 4 = 0
  · have hz : rd σ 15 1 = 0 := by
      rcases Nat.eq_zero_or_pos (rd σ 15 1) with q | q
      · exact q
      · exact absurd (hS 0 q) (by omega)
    exfalso
    apply h
    unfold msF
    rw [hz]
    rfl
  · have := msa_n (sees := σ.1 23) (set := set) (m := rd σ 15 4 - 1) (rd σ 15 1) 0 (-1) (fun j _ hj => ⟨(hM.see (by omega)).1, by have := hS j (by omega); unfold rd at this; unfold rd; omega⟩) (Or.inl rfl)
    rcases this with q | q
    · exact absurd q h
    · exact ⟨q.1, by have := q.2; unfold cn msF; omega⟩
/-- a client is brought over to a healed branch -/
noncomputable def mcv (σ : St) (c : Nat) (fo : Int32) (same made : Nat) : St := uv (cI (mgw σ c) (cI (¬ fo = 0 ∧ same < rd σ 24 c) (mtk (uv σ 28 c (nI 0)) c made) (uv σ 28 c (nI 0))) σ) 23 c (nI made)
theorem MI_mcv {σ : St} (h : MI σ) (c : Nat) (fo : Int32) (same : Nat) {made : Nat} (hm : made < 8) : MI (mcv σ c fo same made) := by
  unfold mcv
  refine MI_uv23 ?_ hm
  by_cases h1 : mgw σ c
  · rw [cI_t h1]
    by_cases h2 : ¬ fo = 0 ∧ same < rd σ 24 c
    · rw [cI_t h2]; exact MI_mtk (MI_uv28 h (by omega)) hm
    · rw [cI_f h2]; exact MI_uv28 h (by omega)
  · rw [cI_f h1]; exact h
theorem mcps_o (σ : St) (f t n : Nat) {a : Nat} (j : Nat) (h : a < 16 ∨ 22 < a) : (mcps σ f t n).1 a j = σ.1 a j := by
  unfold mcps
  rw [uv_cell _ _ _ _ (by omega), mcp_ap, if_neg (by omega)]
