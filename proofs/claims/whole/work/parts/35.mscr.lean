theorem tsw_out2 {a : Int32} (lo m : Nat) (hm : m < 2 ^ 31) (h : ∀ j, lo ≤ j → j ≤ m → ¬ a = nI j) : a.toInt < (lo : Int) ∨ (m : Int) < a.toInt := by
  rcases Int.lt_or_le a.toInt lo with q | q
  · exact Or.inl q
  · refine Or.inr ?_
    rcases Int.lt_or_le (m : Int) a.toInt with z | z
    · exact z
    · exfalso
      have h0 : (0 : Int32) ≤ a := Int32.le_iff_toInt_le.mpr (by have : (0 : Int) ≤ (lo : Int) := Int.natCast_nonneg lo; have e : (0 : Int32).toInt = 0 := rfl; omega)
      have e := i_nat h0
      have hc : cn a < 2 ^ 31 := by
        have := Int32.toInt_lt a
        unfold cn Int32.toNatClampNeg
        omega
      rw [e, nI_toInt hc] at z q
      exact h (cn a) (by omega) (by omega) e
theorem sq_yy {p : Prop} {s : St} {f : St → Prop × St} (h : p) : sq p s f = f s := Prod.ext (propext ⟨fun z => z.2, fun z => ⟨h, z⟩⟩) (cI_t h)
/-- what reading a script changes: LX, and the steps -/
def LY (σ σ' : St) : Prop := (∀ a b, a ≠ 32 → ¬ (a = 15 ∧ (b = 27 ∨ b = 29 ∨ b = 30 ∨ b = 31 ∨ b = 32 ∨ b = 33)) → σ'.1 a b = σ.1 a b) ∧ σ'.2.1 = σ.2.1
theorem LX.ly {σ τ : St} (h : LX σ τ) : LY σ τ := ⟨fun a b _ q => h.1 a b q, h.2⟩
theorem LY.rf (σ : St) : LY σ σ := ⟨fun _ _ _ _ => rfl, rfl⟩
theorem LY.tr {σ τ υ : St} (h1 : LY σ τ) (h2 : LY τ υ) : LY σ υ := ⟨fun a b p q => (h2.1 a b p q).trans (h1.1 a b p q), h2.2.trans h1.2⟩
theorem LY.u32 {σ τ : St} (h : LY σ τ) (j : Nat) (v : Int32) : LY σ (uv τ 32 j v) := ⟨fun a b p q => by rw [uv_cell _ _ _ _ p]; exact h.1 a b p q, h.2⟩
theorem LY.mfl {σ τ : St} (h : LY σ τ) (c n : Int32) : LY σ (mfl τ c n) := h.tr ((LX.rf τ).mfl c n).ly
theorem LY.cI {σ τ υ : St} {p : Prop} (h1 : p → LY σ τ) (h2 : ¬ p → LY σ υ) : LY σ (cI p τ υ) := by
  by_cases h : p
  · rw [cI_t h]; exact h1 h
  · rw [cI_f h]; exact h2 h
theorem LY.sq {σ s : St} {p : Prop} {f : St → Prop × St} (h1 : LY σ s) (h2 : p → LY σ (f s).2) : LY σ (sq p s f).2 := LY.cI h2 (fun _ => h1)
theorem LY.r39 {σ τ : St} (h : LY σ τ) : τ.1 15 39 = σ.1 15 39 := h.1 15 39 (by decide) (by omega)
theorem LY.n39 {σ τ : St} (h : LY σ τ) {m : Nat} (hs : nb σ 15 39 m) : nb τ 15 39 m := nb_cg h.r39 hs hs.2
theorem LY.d39 {σ τ : St} (h : LY σ τ) : rd τ 15 39 = rd σ 15 39 := by unfold rd; rw [h.r39]
theorem LY.r28 {σ τ : St} (h : LY σ τ) : rd τ 15 28 = rd σ 15 28 := by unfold rd; rw [h.1 15 28 (by decide) (by omega)]
theorem PI_sq {s : St} {p : Prop} {f : St → Prop × St} (h1 : PI s) (h2 : p → PI (f s).2) : PI (sq p s f).2 := PI_cI h2 (fun _ => h1)
theorem LY_mInto (σ : St) (pl : Nat) (lo hi : Int32) : LY σ (mInto σ pl lo hi).2 := LY.sq (LX_sN σ lo hi).ly (fun _ => (LX_sN σ lo hi).ly.u32 _ _)
theorem PI_mInto {σ : St} (h : PI σ) (pl : Nat) (lo hi : Int32) : PI (mInto σ pl lo hi).2 := PI_sq (PI_sN h _ _) (fun _ => PI_32 (PI_sN h _ _) _ _)
theorem LY_mMany (σ : St) (w : Int32) : LY σ (mMany σ w).2 := LY.cI (fun _ => (LY.rf σ).mfl _ _) (fun _ => LY.rf σ)
theorem PI_mMany {σ : St} (h : PI σ) (w : Int32) : PI (mMany σ w).2 := PI_cI (fun _ => PI_mfl h _ _) (fun _ => h)
noncomputable abbrev mCl (σ : St) (pl : Nat) : Prop × St := mInto σ pl (nI 0) (σ.1 15 1 - nI 1)
noncomputable abbrev mBr (σ : St) (pl : Nat) : Prop × St := mInto σ pl (nI 0) (nI 7)
/-- the clients of a fork -/
noncomputable def mFk : Nat → Int32 → St → Prop × St
  | 0, _, σ => (False, σ)
  | n + 1, set, σ => sq (mCl σ 1).1 (mCl σ 1).2 (fun τ => cI (dgt (mB τ (msk τ))) (mFk n (set ||| (nI 1 <<< (τ.1 15 31 &&& 31))) (mpk τ)) (True, uv (mpk τ) 32 (4 * rd σ 15 39 + 1) (set ||| (nI 1 <<< (τ.1 15 31 &&& 31)))))
theorem LY_mFk : ∀ (n : Nat) (set : Int32) (σ : St), LY σ (mFk n set σ).2 := by
  intro n
  induction n with
  | zero => intro set σ; exact LY.rf σ
  | succ n ih =>
    intro set σ
    refine LY.sq (LY_mInto _ _ _ _) (fun _ => ?_)
    by_cases h : dgt (mB (mCl σ 1).2 (msk (mCl σ 1).2))
    · rw [cI_t h]; exact ((LY_mInto _ _ _ _).tr (LX_mpk _).ly).tr (ih _ _)
    · rw [cI_f h]; exact ((LY_mInto _ _ _ _).tr (LX_mpk _).ly).u32 _ _
theorem PI_mFk : ∀ (n : Nat) (set : Int32) (σ : St), PI σ → PI (mFk n set σ).2 := by
  intro n
  induction n with
  | zero => intro set σ h; exact h
  | succ n ih =>
    intro set σ h
    refine PI_sq (PI_mInto h _ _ _) (fun _ => ?_)
    by_cases q : dgt (mB (mCl σ 1).2 (msk (mCl σ 1).2))
    · rw [cI_t q]; exact ih _ _ (PI_mpk (PI_mInto h _ _ _))
    · rw [cI_f q]; exact PI_32 (PI_mpk (PI_mInto h _ _ _)) _ _
theorem mInto_at {σ : St} (h : PI σ) {pl : Nat} {lo hi : Int32} (q : (mInto σ pl lo hi).1) : rd σ 15 27 + 1 ≤ rd (mInto σ pl lo hi).2 15 27 := by
  have hp : pN σ lo hi := q.1
  have h1 := h.sk
  have e : (mInto σ pl lo hi).2 = uv (sN σ lo hi) 32 (4 * rd σ 15 39 + pl) ((sN σ lo hi).1 15 31) := cI_t hp
  have e2 : sN σ lo hi = uv (uv (sN1 σ) 15 27 (nI (msk σ + mnl σ))) 15 29 (nI (msk σ + mnl σ)) := by
    unfold sN
    rw [cI_t hp.1, cI_t hp.2.1, cI_t hp.2.2]
  have hr := rnl_ok (P := dgt) (B := mB σ) m1_dgt h1.2.1 (mB_end (Nat.le_refl _))
  have hm : mnl σ ≠ 0 := fun z => by
    have h3 := hr.2.1
    have z2 : rnl dgt (mB σ) (msk σ) = 0 := z
    rw [z2] at h3
    exact h3 hp.1.1
  have hE := h.2.1.2
  have hr1 : msk σ + mnl σ ≤ rd σ 15 28 := hr.1
  have e3 : (mInto σ pl lo hi).2.1 15 27 = nI (msk σ + mnl σ) := by
    rw [e, e2]
    exact (uv_cell _ _ _ _ (by decide)).trans ((uv_idx _ _ _ _ (by decide)).trans (uv_same _ _ _ _))
  rw [(nb_of (m := 900) e3 (by omega) (by decide)).2]
  omega
noncomputable def mRest (σ : St) (w : Int32) : Prop × St :=
  cI (w = nI 2) (mFk 901 (nI 0) σ) (cI (w = nI 3) (sq (mCl σ 1).1 (mCl σ 1).2 (fun τ => mBr τ 2)) (cI (w = nI 4) (sq (mBr σ 1).1 (mBr σ 1).2 (fun τ => mInto τ 2 (nI 1) (nI 200))) (cI (w = nI 5) (sq (mBr σ 1).1 (mBr σ 1).2 (fun τ => sq (mInto τ 2 (nI 1) (nI 200)).1 (mInto τ 2 (nI 1) (nI 200)).2 (fun τ => mInto τ 3 (nI 0) (nI 999999)))) (cI (w = nI 6) (sq (mCl σ 1).1 (mCl σ 1).2 (fun τ => mCl τ 2)) (cI (w = nI 7) (mCl σ 1) (sq (mBr σ 1).1 (mBr σ 1).2 (fun τ => mBr τ 2)))))))
theorem cI_ap {p : Prop} {a b : Prop × St} {Q : Prop × St → Prop} (h1 : p → Q a) (h2 : ¬ p → Q b) : Q (cI p a b) := by
  by_cases h : p
  · rw [cI_t h]; exact h1 h
  · rw [cI_f h]; exact h2 h
theorem LY_mRest (σ : St) (w : Int32) : LY σ (mRest σ w).2 := by
  have a := fun σ pl lo hi => LY_mInto σ pl lo hi
  refine cI_ap (Q := fun z => LY σ z.2) (fun _ => LY_mFk _ _ _) fun _ => cI_ap (Q := fun z => LY σ z.2) (fun _ => LY.sq (a _ _ _ _) fun _ => (a _ _ _ _).tr (a _ _ _ _)) fun _ => cI_ap (Q := fun z => LY σ z.2) (fun _ => LY.sq (a _ _ _ _) fun _ => (a _ _ _ _).tr (a _ _ _ _)) fun _ => cI_ap (Q := fun z => LY σ z.2) (fun _ => LY.sq (a _ _ _ _) fun _ => (a _ _ _ _).tr (LY.sq (a _ _ _ _) fun _ => (a _ _ _ _).tr (a _ _ _ _))) fun _ => cI_ap (Q := fun z => LY σ z.2) (fun _ => LY.sq (a _ _ _ _) fun _ => (a _ _ _ _).tr (a _ _ _ _)) fun _ => cI_ap (Q := fun z => LY σ z.2) (fun _ => a _ _ _ _) (fun _ => LY.sq (a _ _ _ _) fun _ => (a _ _ _ _).tr (a _ _ _ _))
theorem PI_mRest {σ : St} (h : PI σ) (w : Int32) : PI (mRest σ w).2 := by
  have a := fun (σ : St) (h : PI σ) pl lo hi => PI_mInto h pl lo hi
  refine cI_ap (Q := fun z => PI z.2) (fun _ => PI_mFk _ _ _ h) fun _ => cI_ap (Q := fun z => PI z.2) (fun _ => PI_sq (a _ h _ _ _) fun _ => a _ (a _ h _ _ _) _ _ _) fun _ => cI_ap (Q := fun z => PI z.2) (fun _ => PI_sq (a _ h _ _ _) fun _ => a _ (a _ h _ _ _) _ _ _) fun _ => cI_ap (Q := fun z => PI z.2) (fun _ => PI_sq (a _ h _ _ _) fun _ => PI_sq (a _ (a _ h _ _ _) _ _ _) fun _ => a _ (a _ (a _ h _ _ _) _ _ _) _ _ _) fun _ => cI_ap (Q := fun z => PI z.2) (fun _ => PI_sq (a _ h _ _ _) fun _ => a _ (a _ h _ _ _) _ _ _) fun _ => cI_ap (Q := fun z => PI z.2) (fun _ => a _ h _ _ _) (fun _ => PI_sq (a _ h _ _ _) fun _ => a _ (a _ h _ _ _) _ _ _)
def wok (s : St) : Prop := s.2.2 15 34 = 790941875 ∨ s.2.2 15 34 = 19039379
noncomputable def mOp4 (σ s : St) : Prop × St := cI (s.2.2 15 34 = 790941875) (sq (mInto (uv s 32 (4 * rd σ 15 39) (nI 0)) 2 (nI 0) (s.1 15 2 - nI 1)).1 (mInto (uv s 32 (4 * rd σ 15 39) (nI 0)) 2 (nI 0) (s.1 15 2 - nI 1)).2 (fun τ => mInto τ 3 (nI 0) (nI 999999))) (mInto (uv s 32 (4 * rd σ 15 39) (nI 1)) 2 (nI 0) (s.1 15 2 - nI 1))
noncomputable def mOp3 (σ s : St) : Prop × St := sq (pW s) (sW s) (fun τ => cI (wok τ) (mOp4 σ τ) (False, mfl τ (nI 1) (nI (msk s))))
noncomputable def mOp (σ : St) : Prop × St := sq (pN σ (nI 0) (σ.1 15 1 - nI 1)) (sN σ (nI 0) (σ.1 15 1 - nI 1)) (fun s1 => sq (¬ (mMany s1 (σ.1 15 27)).1) (mMany s1 (σ.1 15 27)).2 (fun s2 => mOp3 σ (uv s2 32 (4 * rd σ 15 39 + 1) (s2.1 15 31))))
theorem LY_mOp4 (σ s : St) : LY s (mOp4 σ s).2 := by
  have a := fun σ pl lo hi => LY_mInto σ pl lo hi
  exact cI_ap (Q := fun z => LY s z.2) (fun _ => LY.sq (((LY.rf s).u32 _ _).tr (a _ _ _ _)) fun _ => (((LY.rf s).u32 _ _).tr (a _ _ _ _)).tr (a _ _ _ _)) (fun _ => ((LY.rf s).u32 _ _).tr (a _ _ _ _))
theorem LY_mOp3 (σ s : St) : LY s (mOp3 σ s).2 := LY.sq (LX_sW s).ly fun _ => cI_ap (Q := fun z => LY s z.2) (fun _ => (LX_sW s).ly.tr (LY_mOp4 σ _)) (fun _ => (LX_sW s).ly.mfl _ _)
theorem LY_mOp (σ : St) : LY σ (mOp σ).2 := LY.sq (LX_sN _ _ _).ly fun _ => LY.sq ((LX_sN _ _ _).ly.tr (LY_mMany _ _)) fun _ => (((LX_sN _ _ _).ly.tr (LY_mMany _ _)).u32 _ _).tr (LY_mOp3 σ _)
theorem PI_mOp4 (σ : St) {s : St} (h : PI s) : PI (mOp4 σ s).2 := cI_ap (Q := fun z => PI z.2) (fun _ => PI_sq (PI_mInto (PI_32 h _ _) _ _ _) fun _ => PI_mInto (PI_mInto (PI_32 h _ _) _ _ _) _ _ _) (fun _ => PI_mInto (PI_32 h _ _) _ _ _)
theorem PI_mOp3 (σ : St) {s : St} (h : PI s) : PI (mOp3 σ s).2 := PI_sq (PI_sW h) fun _ => cI_ap (Q := fun z => PI z.2) (fun _ => PI_mOp4 σ (PI_sW h)) (fun _ => PI_mfl (PI_sW h) _ _)
theorem PI_mOp {σ : St} (h : PI σ) : PI (mOp σ).2 := PI_sq (PI_sN h _ _) fun _ => PI_sq (PI_mMany (PI_sN h _ _) _) fun _ => PI_mOp3 σ (PI_32 (PI_mMany (PI_sN h _ _) _) _ _)
noncomputable def mSt2 (τ s : St) : Prop × St := cI (stp (s.2.2 15 34) = -1) (False, mfl s (nI 1) (nI (rd τ 15 30))) (sq (¬ (mMany s (nI (rd τ 15 30))).1) (mMany s (nI (rd τ 15 30))).2 (fun s2 => sq (mRest (uv s2 32 (4 * rd τ 15 39) (stp (s.2.2 15 34))) (stp (s.2.2 15 34))).1 (mRest (uv s2 32 (4 * rd τ 15 39) (stp (s.2.2 15 34))) (stp (s.2.2 15 34))).2 (fun s3 => (pS s3, sS s3))))
/-- a step, as the reference reads it -/
noncomputable def mStep (σ : St) : Prop × St := cI (dgt (mB σ (msk σ))) (sq (mOp (mpk σ)).1 (mOp (mpk σ)).2 (fun s => (pS s, sS s))) (sq (pW (mpk σ)) (sW (mpk σ)) (fun s => mSt2 s s))
theorem LY_mSt2 (τ s : St) : LY s (mSt2 τ s).2 := cI_ap (Q := fun z => LY s z.2) (fun _ => (LY.rf s).mfl _ _) fun _ => LY.sq (LY_mMany s _) fun _ => LY.sq (((LY_mMany s _).u32 _ _).tr (LY_mRest _ _)) fun _ => (((LY_mMany s _).u32 _ _).tr (LY_mRest _ _)).tr (LX_sS _).ly
theorem LY_mStep (σ : St) : LY σ (mStep σ).2 := cI_ap (Q := fun z => LY σ z.2) (fun _ => LY.sq ((LX_mpk σ).ly.tr (LY_mOp _)) fun _ => ((LX_mpk σ).ly.tr (LY_mOp _)).tr (LX_sS _).ly) fun _ => LY.sq ((LX_mpk σ).ly.tr (LX_sW _).ly) fun _ => ((LX_mpk σ).ly.tr (LX_sW _).ly).tr (LY_mSt2 _ _)
theorem PI_mSt2 (τ : St) {s : St} (h : PI s) : PI (mSt2 τ s).2 := cI_ap (Q := fun z => PI z.2) (fun _ => PI_mfl h _ _) fun _ => PI_sq (PI_mMany h _) fun _ => PI_sq (PI_mRest (PI_32 (PI_mMany h _) _ _) _) fun _ => PI_sS (PI_mRest (PI_32 (PI_mMany h _) _ _) _)
theorem PI_mStep {σ : St} (h : PI σ) : PI (mStep σ).2 := cI_ap (Q := fun z => PI z.2) (fun _ => PI_sq (PI_mOp (PI_mpk h)) fun _ => PI_sS (PI_mOp (PI_mpk h))) fun _ => PI_sq (PI_sW (PI_mpk h)) fun _ => PI_mSt2 _ (PI_sW (PI_mpk h))
noncomputable def mSc : Nat → St → Prop × St
  | 0, σ => (False, σ)
  | n + 1, σ => cI (mB σ (msk σ) = -1) (True, mpk σ) (cI (mStep (mpk σ)).1 (mSc n (uv (mStep (mpk σ)).2 15 39 (nI (rd σ 15 39 + 1)))) (False, (mStep (mpk σ)).2))
