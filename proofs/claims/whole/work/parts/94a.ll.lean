/-! reading a text leaves the law's long alone -/
def LL (σ τ : St) : Prop := τ.2.2 33 = σ.2.2 33
section LLS
theorem LL.rf (σ : St) : LL σ σ := rfl
theorem LL.tr {σ τ υ : St} (h1 : LL σ τ) (h2 : LL τ υ) : LL σ υ := Eq.trans h2 h1
theorem LL_ul (σ : St) (v : Int64) : LL σ (ul σ 15 34 v) := by
  show (ul σ 15 34 v).2.2 33 = σ.2.2 33
  funext b
  simp [ul, u2]
theorem LL_sW (σ : St) : LL σ (sW σ) := cI_a2 (Q := fun z : St => LL σ z) (fun _ => LL_ul (mpk σ) _) fun _ => rfl
theorem LL_sN (σ : St) (lo hi : Int32) : LL σ (sN σ lo hi) := cI_a2 (Q := fun z : St => LL σ z) (fun _ => cI_a2 (Q := fun z : St => LL σ z) (fun _ => cI_a2 (Q := fun z : St => LL σ z) (fun _ => rfl) fun _ => rfl) fun _ => rfl) fun _ => rfl
theorem LL_sS (σ : St) : LL σ (sS σ) := cI_a2 (Q := fun z : St => LL σ z) (fun _ => rfl) fun _ => rfl
theorem LL_sT (σ : St) (w : Int64) : LL σ (sT σ w) := cI_a2 (Q := fun z : St => LL σ z) (fun _ => cI_a2 (Q := fun z : St => LL σ z) (fun _ => LL_sW σ) fun _ => LL_sW σ) fun _ => LL_sW σ
theorem LL_mPk (σ : St) : LL σ (mPk σ).2 := cI_a2 (Q := fun z : St => LL σ z) (fun _ => rfl) fun _ => rfl
theorem LL_sq {σ s : St} {p : Prop} {f : St → Prop × St} (h1 : LL σ s) (h2 : LL s (f s).2) : LL σ (sq p s f).2 := cI_a2 (Q := fun z : St => LL σ z) (fun _ => h1.tr h2) fun _ => h1
theorem LL_mSrv (σ : St) : LL σ (mSrv σ).2 := by
  unfold mSrv
  refine LL_sq (LL_sT _ _) (LL_sq (LL_sN _ _ _) (LL_sq ?_ (LL_sq (LL_sN _ _ _) (LL_sq ?_ (LL_sq (LL_sN _ _ _) (LL_sq ?_ (LL_mPk _)))))))
  · exact LL_sT (uv _ _ _ _) _
  · exact LL_sT (uv _ _ _ _) _
  · exact LL_sS (uv _ _ _ _)
theorem LL_mInto (σ : St) (pl : Nat) (lo hi : Int32) : LL σ (mInto σ pl lo hi).2 := LL_sq (LL_sN σ lo hi) rfl
theorem LL_mMany (σ : St) (w : Int32) : LL σ (mMany σ w).2 := cI_a2 (Q := fun z : St => LL σ z) (fun _ => rfl) fun _ => rfl
abbrev LLQ (σ : St) : Prop × St → Prop := fun z => LL σ z.2
theorem LL_mFk : ∀ (n : Nat) (set : Int32) (σ : St), LL σ (mFk n set σ).2 := by
  intro n
  induction n with
  | zero => intro set σ; rfl
  | succ n ih =>
    intro set σ
    refine LL_sq (LL_mInto _ _ _ _) (cI_a2 (Q := LLQ (mCl σ 1).2) (fun _ => ?_) fun _ => rfl)
    exact ih _ (mpk (mCl σ 1).2)
theorem LL_mRest (σ : St) (w : Int32) : LL σ (mRest σ w).2 := by
  have a := fun σ pl lo hi => LL_mInto σ pl lo hi
  exact cI_a2 (Q := LLQ σ) (fun _ => LL_mFk _ _ _) fun _ => cI_a2 (Q := LLQ σ) (fun _ => LL_sq (a _ _ _ _) (a _ _ _ _)) fun _ => cI_a2 (Q := LLQ σ) (fun _ => LL_sq (a _ _ _ _) (a _ _ _ _)) fun _ => cI_a2 (Q := LLQ σ) (fun _ => LL_sq (a _ _ _ _) (LL_sq (a _ _ _ _) (a _ _ _ _))) fun _ => cI_a2 (Q := LLQ σ) (fun _ => LL_sq (a _ _ _ _) (a _ _ _ _)) fun _ => cI_a2 (Q := LLQ σ) (fun _ => a _ _ _ _) fun _ => LL_sq (a _ _ _ _) (a _ _ _ _)
theorem LL_mOp4 (σ s : St) : LL s (mOp4 σ s).2 := by
  have a := fun σ pl lo hi => LL_mInto σ pl lo hi
  exact cI_a2 (Q := LLQ s) (fun _ => LL_sq (a (uv s _ _ _) _ _ _) (a _ _ _ _)) fun _ => a (uv s _ _ _) _ _ _
theorem LL_mOp3 (σ s : St) : LL s (mOp3 σ s).2 := LL_sq (LL_sW s) (cI_a2 (Q := LLQ (sW s)) (fun _ => LL_mOp4 σ _) fun _ => rfl)
theorem LL_mOp (σ : St) : LL σ (mOp σ).2 := LL_sq (LL_sN _ _ _) (LL_sq (LL_mMany _ _) (LL_mOp3 σ (uv _ _ _ _)))
theorem LL_mSt2 (τ s : St) : LL s (mSt2 τ s).2 := cI_a2 (Q := LLQ s) (fun _ => rfl) fun _ => LL_sq (LL_mMany s _) (LL_sq (LL_mRest (uv _ _ _ _) _) (LL_sS _))
theorem LL_mStep (σ : St) : LL σ (mStep σ).2 := cI_a2 (Q := LLQ σ) (fun _ => LL_sq (LL_mOp (mpk σ)) (LL_sS _)) fun _ => LL_sq (LL_sW (mpk σ)) (LL_mSt2 _ _)
theorem LL_mSc : ∀ (n : Nat) (σ : St), LL σ (mSc n σ).2 := by
  intro n
  induction n with
  | zero => intro σ; rfl
  | succ n ih =>
    intro σ
    refine cI_a2 (Q := LLQ σ) (fun _ => rfl) fun _ => cI_a2 (Q := LLQ σ) (fun _ => ?_) fun _ => LL_mStep (mpk σ)
    exact (LL_mStep (mpk σ)).tr (ih (uv (mStep (mpk σ)).2 _ _ _))
/-- load leaves the class alone -/
theorem mld_fr (m : St) (n : Int32) : (∀ a b, a < 15 ∨ 32 < a → (mld m n).2.1 a b = m.1 a b) ∧ LL m (mld m n).2 := by
  have hz := LZ_mSrv (mopn (m0 m) n)
  have f : ∀ a b, a < 15 ∨ 32 < a → (mSrv (mopn (m0 m) n)).2.1 a b = m.1 a b := fun a b q => by
    rw [hz.1 a b (by omega), mopn_o _ _ (by omega), uv_cell _ _ _ _ (by omega)]
  have l : LL m (mSrv (mopn (m0 m) n)).2 := LL_mSrv (mopn (m0 m) n)
  unfold mld
  refine cI_a2 (Q := fun z : Int32 × St => (∀ a b, a < 15 ∨ 32 < a → z.2.1 a b = m.1 a b) ∧ LL m z.2) (fun _ => cI_a2 (Q := fun z : Int32 × St => (∀ a b, a < 15 ∨ 32 < a → z.2.1 a b = m.1 a b) ∧ LL m z.2) (fun _ => ?_) fun _ => ?_) fun _ => ?_
  · refine ⟨fun a b q => ?_, l⟩
    show (mst (mset (mSrv (mopn (m0 m) n)).2) 6).1 a b = _
    rw [mst6_ap]
    repeat first | rw [if_neg (by omega)]
    exact f a b q
  · exact ⟨fun a b q => (uv_cell _ _ _ _ (by omega)).trans (f a b q), l⟩
  · exact ⟨fun a b q => (uv_cell _ _ _ _ (by omega)).trans (uv_cell _ _ _ _ (by omega)), rfl⟩
theorem clS_a (σ : St) (n : Int32) {a : Nat} (b : Nat) (h : 15 ≤ a ∧ a ≤ 33) : (clS σ n).1 a b = σ.1 a b := by
  have e : (cpv (uv σ 0 2 (nI 0)) (cn n)).1 a b = σ.1 a b := by rw [cpv_a _ _ _ (by omega), uv_cell _ _ _ _ (by omega)]
  unfold clS
  refine cI_a2 (Q := fun z : St => z.1 a b = σ.1 a b) (fun _ => cI_a2 (Q := fun z : St => z.1 a b = σ.1 a b) (fun _ => ?_) fun _ => e) fun _ => rfl
  rw [uv_cell _ _ _ _ (by omega), csv_ap]
  repeat first | rw [if_neg (by omega)]
  exact e
end LLS
