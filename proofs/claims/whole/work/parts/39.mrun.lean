theorem mOp_lt {σ : St} (h : (mOp σ).1) : rd σ 15 39 ≠ 60 := by
  have h1 : ¬ (mMany (sN σ (nI 0) (σ.1 15 1 - nI 1)) (σ.1 15 27)).1 := h.2.1
  intro z
  apply h1
  show rd (sN σ (nI 0) (σ.1 15 1 - nI 1)) 15 39 = 60
  rw [(LX_sN _ _ _).ly.d39]
  exact z
theorem cI_fst {p : Prop} {a b : Prop × St} (h : (cI p a b).1) : (p ∧ a.1) ∨ (¬ p ∧ b.1) := by
  by_cases q : p
  · rw [cI_t q] at h; exact Or.inl ⟨q, h⟩
  · rw [cI_f q] at h; exact Or.inr ⟨q, h⟩
theorem mStep_lt {σ : St} (h : (mStep σ).1) : rd σ 15 39 ≠ 60 := by
  rcases cI_fst h with ⟨-, h1⟩ | ⟨-, h1⟩
  · have := mOp_lt h1.1
    rw [(LX_mpk σ).ly.d39] at this
    exact this
  · rcases cI_fst h1.2 with ⟨-, h2⟩ | ⟨-, h2⟩
    · exact h2.elim
    · intro z
      apply h2.1
      show rd (sW (mpk σ)) 15 39 = 60
      rw [(LX_sW _).ly.d39, (LX_mpk σ).ly.d39]
      exact z
theorem MI_fr {σ σ' : St} (h : MI σ) (e : ∀ a b, 15 ≤ a → a ≤ 30 → (a = 15 → b < 27) → σ'.1 a b = σ.1 a b) : MI σ' := by
  refine MI_of h (fun j hj => e 15 j (by omega) (by omega) (by omega)) ?_ ?_ ?_ ?_ ?_ ?_ ?_ ?_
  · rw [e 15 21 (by omega) (by omega) (by omega)]; exact h.v21
  · rw [e 15 22 (by omega) (by omega) (by omega)]; exact h.v22
  · intro b hb; rw [e 16 b (by omega) (by omega) (by omega)]; exact h.v16 b hb
  · intro b hb; rw [e 23 b (by omega) (by omega) (by omega)]; exact h.v23 b hb
  · intro b hb; rw [e 24 b (by omega) (by omega) (by omega)]; exact h.v24 b hb
  · intro b hb; rw [e 29 _ (by omega) (by omega) (by omega)]; exact h.v29 b hb
  · intro b hb; rw [e 18 b (by omega) (by omega) (by omega)]; exact h.v18 b hb
  · intro b hb; rw [e 28 b (by omega) (by omega) (by omega)]; exact h.v28 b hb
theorem MI_mopn {σ : St} (h : MI σ) (len : Int32) : MI (mopn σ len) := MI_u15 (MI_uv (MI_uv (MI_uv (MI_uv (MI_uv h _ (by omega)) _ (by omega)) _ (by omega)) _ (by omega)) _ (by omega)) (by omega)
theorem PI_mopn {σ : St} {len : Nat} (hl : len ≤ 900) (h3 : nb σ 15 30 900) : PI (mopn σ (nI len)) := by
  refine PI_of (t := 0) (e := len) (k := rd σ 15 30) ?_ ?_ ?_ (by omega) hl h3.2
  · unfold mopn
    rw [uv_idx _ _ _ _ (by decide), uv_idx _ _ _ _ (by decide), uv_idx _ _ _ _ (by decide), uv_idx _ _ _ _ (by decide), uv_same]
  · unfold mopn
    rw [uv_idx _ _ _ _ (by decide), uv_idx _ _ _ _ (by decide), uv_idx _ _ _ _ (by decide), uv_idx _ _ _ _ (by decide), uv_idx _ _ _ _ (by decide), uv_same]
  · unfold mopn
    rw [uv_idx _ _ _ _ (by decide), uv_idx _ _ _ _ (by decide), uv_idx _ _ _ _ (by decide), uv_idx _ _ _ _ (by decide), uv_idx _ _ _ _ (by decide), uv_idx _ _ _ _ (by decide)]
    exact h3.1
theorem sN_num {σ : St} {lo hi : Int32} (h : pN σ lo hi) : (sN σ lo hi).1 15 31 = mnv σ := by
  unfold sN
  rw [cI_t h.1, cI_t h.2.1, cI_t h.2.2, uv_idx _ _ _ _ (by decide), uv_idx _ _ _ _ (by decide)]
  exact uv_same _ _ _ _
/-- what reading a service changes -/
def LZ (σ σ' : St) : Prop := (∀ a b, ¬ (a = 15 ∧ (b = 27 ∨ b = 29 ∨ b = 30 ∨ b = 31 ∨ b = 32 ∨ b = 33 ∨ b = 35 ∨ b = 36 ∨ b = 37)) → σ'.1 a b = σ.1 a b) ∧ σ'.2.1 = σ.2.1
theorem LX.lz {σ τ : St} (h : LX σ τ) : LZ σ τ := ⟨fun a b q => h.1 a b (by omega), h.2⟩
theorem LZ.tr {σ τ υ : St} (h1 : LZ σ τ) (h2 : LZ τ υ) : LZ σ υ := ⟨fun a b q => (h2.1 a b q).trans (h1.1 a b q), h2.2.trans h1.2⟩
theorem LZ.u {σ τ : St} (h : LZ σ τ) {j : Nat} (v : Int32) (hj : j = 35 ∨ j = 36 ∨ j = 37) : LZ σ (uv τ 15 j v) := ⟨fun a b q => by rw [uv_ap, if_neg (by omega)]; exact h.1 a b q, h.2⟩
theorem LZ_sq {σ s : St} {p : Prop} {f : St → Prop × St} (h1 : LZ σ s) (h2 : p → LZ σ (f s).2) : LZ σ (sq p s f).2 := by
  by_cases q : p
  · have e : (sq p s f).2 = (f s).2 := cI_t q
    rw [e]; exact h2 q
  · have e : (sq p s f).2 = s := cI_f q
    rw [e]; exact h1
theorem LX_mPk (σ : St) : LX σ (mPk σ).2 := LX.cI (fun _ => LX_mpk σ) (fun _ => (LX_mpk σ).mfl _ _)
theorem LZ_mSrv (σ : St) : LZ σ (mSrv σ).2 := by
  have a := fun s w => (LX_sT s w).lz
  have b := fun s lo hi => (LX_sN s lo hi).lz
  refine LZ_sq (a _ _) fun _ => LZ_sq ((a _ _).tr (b _ _ _)) fun _ => LZ_sq ((((a _ _).tr (b _ _ _)).u _ (by omega)).tr (a _ _)) fun _ => LZ_sq (((((a _ _).tr (b _ _ _)).u _ (by omega)).tr (a _ _)).tr (b _ _ _)) fun _ => ?_
  have h4 := fun s => ((((a σ 3633494675).tr (b _ (nI 2) (nI 6))).u (j := 35) s (by omega)).tr (a _ 80186739)).tr (b _ (nI 1) (nI 16))
  refine LZ_sq (((h4 _).u _ (by omega)).tr (a _ _)) fun _ => LZ_sq ((((h4 _).u _ (by omega)).tr (a _ _)).tr (b _ _ _)) fun _ => LZ_sq ((((((h4 _).u _ (by omega)).tr (a _ _)).tr (b _ _ _)).u _ (by omega)).tr (LX_sS _).lz) fun _ => (((((((h4 _).u _ (by omega)).tr (a _ _)).tr (b _ _ _)).u _ (by omega)).tr (LX_sS _).lz)).tr (LX_mPk _).lz
theorem PI_mPk {σ : St} (h : PI σ) : PI (mPk σ).2 := PI_cI (fun _ => PI_mpk h) (fun _ => PI_mfl (PI_mpk h) _ _)
theorem PI_mSrv {σ : St} (h : PI σ) : PI (mSrv σ).2 := PI_sq (PI_sT h _) fun _ => PI_sq (PI_sN (PI_sT h _) _ _) fun _ => PI_sq (PI_sT (PI_hi (PI_sN (PI_sT h _) _ _) _ (by omega)) _) fun _ => PI_sq (PI_sN (PI_sT (PI_hi (PI_sN (PI_sT h _) _ _) _ (by omega)) _) _ _) fun _ => PI_sq (PI_sT (PI_hi (PI_sN (PI_sT (PI_hi (PI_sN (PI_sT h _) _ _) _ (by omega)) _) _ _) _ (by omega)) _) fun _ => PI_sq (PI_sN (PI_sT (PI_hi (PI_sN (PI_sT (PI_hi (PI_sN (PI_sT h _) _ _) _ (by omega)) _) _ _) _ (by omega)) _) _ _) fun _ => PI_sq (PI_sS (PI_hi (PI_sN (PI_sT (PI_hi (PI_sN (PI_sT (PI_hi (PI_sN (PI_sT h _) _ _) _ (by omega)) _) _ _) _ (by omega)) _) _ _) _ (by omega))) fun _ => PI_mPk (PI_sS (PI_hi (PI_sN (PI_sT (PI_hi (PI_sN (PI_sT (PI_hi (PI_sN (PI_sT h _) _ _) _ (by omega)) _) _ _) _ (by omega)) _) _ _) _ (by omega)))
theorem sq_s {p : Prop} {s : St} {f : St → Prop × St} (h : (sq p s f).1) : sq p s f = f s ∧ p ∧ (f s).1 := ⟨sq_yy h.1, h.1, h.2⟩
theorem LX.ne {σ τ : St} (h : LX σ τ) {b : Nat} (hb : 35 ≤ b) : τ.1 15 b = σ.1 15 b := h.1 15 b (by omega)
theorem mSrv_ok {σ : St} (h : (mSrv σ).1) : ∃ a b c : Nat, (mSrv σ).2.1 15 35 = nI a ∧ (mSrv σ).2.1 15 36 = nI b ∧ (mSrv σ).2.1 15 37 = nI c ∧ 2 ≤ a ∧ a ≤ 6 ∧ 1 ≤ b ∧ b ≤ 16 ∧ 1 ≤ c ∧ c ≤ 50 := by
  unfold mSrv at h ⊢
  obtain ⟨e1, p1, h⟩ := sq_s h
  rw [e1]
  obtain ⟨e2, p2, h⟩ := sq_s h
  rw [e2]
  obtain ⟨e3, p3, h⟩ := sq_s h
  rw [e3]
  obtain ⟨e4, p4, h⟩ := sq_s h
  rw [e4]
  obtain ⟨e5, p5, h⟩ := sq_s h
  rw [e5]
  obtain ⟨e6, p6, h⟩ := sq_s h
  rw [e6]
  obtain ⟨e7, p7, h⟩ := sq_s h
  rw [e7]
  obtain ⟨x1, y1, z1⟩ := in_n (by decide) (by decide) p2.2.2.1 p2.2.2.2
  obtain ⟨x2, y2, z2⟩ := in_n (by decide) (by decide) p4.2.2.1 p4.2.2.2
  obtain ⟨x3, y3, z3⟩ := in_n (by decide) (by decide) p6.2.2.1 p6.2.2.2
  refine ⟨_, _, _, ?_, ?_, ?_, y1, z1, y2, z2, y3, z3⟩
  · rw [← x1, (LX_mPk _).ne (by decide), (LX_sS _).ne (by decide), uv_idx _ _ _ _ (by decide), (LX_sN _ _ _).ne (by decide), (LX_sT _ _).ne (by decide), uv_idx _ _ _ _ (by decide), (LX_sN _ _ _).ne (by decide), (LX_sT _ _).ne (by decide), uv_same]
    exact sN_num p2
  · rw [← x2, (LX_mPk _).ne (by decide), (LX_sS _).ne (by decide), uv_idx _ _ _ _ (by decide), (LX_sN _ _ _).ne (by decide), (LX_sT _ _).ne (by decide), uv_same]
    exact sN_num p4
  · rw [← x3, (LX_mPk _).ne (by decide), (LX_sS _).ne (by decide), uv_same]
    exact sN_num p6
theorem MI_new {σ : St} (h : MI σ) {a b c : Nat} (ha : a ≤ 6) (hb : b ≤ 16) (hc : 1 ≤ c ∧ c ≤ 50) : MI (uv (uv (uv σ 15 1 (nI a)) 15 2 (nI b)) 15 3 (nI c)) := by
  have e : ∀ i j, ¬ (i = 15 ∧ (j = 1 ∨ j = 2 ∨ j = 3)) → (uv (uv (uv σ 15 1 (nI a)) 15 2 (nI b)) 15 3 (nI c)).1 i j = σ.1 i j := by
    intro i j q
    rw [uv_ap, if_neg (by omega), uv_ap, if_neg (by omega), uv_ap, if_neg (by omega)]
  have e1 : (uv (uv (uv σ 15 1 (nI a)) 15 2 (nI b)) 15 3 (nI c)).1 15 1 = nI a := (uv_idx _ _ _ _ (by decide)).trans ((uv_idx _ _ _ _ (by decide)).trans (uv_same _ _ _ _))
  have e2 : (uv (uv (uv σ 15 1 (nI a)) 15 2 (nI b)) 15 3 (nI c)).1 15 2 = nI b := (uv_idx _ _ _ _ (by decide)).trans (uv_same _ _ _ _)
  have e3 : (uv (uv (uv σ 15 1 (nI a)) 15 2 (nI b)) 15 3 (nI c)).1 15 3 = nI c := uv_same _ _ _ _
  have cg : ∀ {i j m : Nat}, ¬ (i = 15 ∧ (j = 1 ∨ j = 2 ∨ j = 3)) → nb σ i j m → nb (uv (uv (uv σ 15 1 (nI a)) 15 2 (nI b)) 15 3 (nI c)) i j m := fun q z => nb_cg (e _ _ q) z z.2
  obtain ⟨⟨a1, a2, a3, a4, a5⟩, ⟨b1, b2, b3⟩, c1, c2, c3, c4, z, c5⟩ := h
  refine ⟨⟨(nb_of e1 ha (by decide)).1, (nb_of e2 hb (by decide)).1, (nb_of e3 hc.2 (by decide)).1, cg (by omega) a4, cg (by omega) a5⟩, ⟨cg (by omega) b1, cg (by omega) b2, cg (by omega) b3⟩, fun b hb => cg (by omega) (c1 b hb), fun c hc => ⟨cg (by omega) (c2 c hc).1, cg (by omega) (c2 c hc).2⟩, fun k hk => cg (by omega) (c3 k hk), fun i hi => ?_, fun _ => ?_, fun c hc => ?_⟩
  · rw [e 18 i (by omega)]
    exact (c4 i hi).elim Or.inl (fun q => Or.inr (cg (by omega) q))
  · rw [(nb_of (m := 50) e3 hc.2 (by decide)).2]; omega
  · rw [e 28 c (by omega)]; exact c5 c hc
def mset (s : St) : St := uv (uv (uv s 15 1 (s.1 15 35)) 15 2 (s.1 15 36)) 15 3 (s.1 15 37)
theorem MI_mset {σ s : St} (h : MI σ) (hz : LZ σ s) {a b c : Nat} (e1 : s.1 15 35 = nI a) (e2 : s.1 15 36 = nI b) (e3 : s.1 15 37 = nI c) (ha : a ≤ 6) (hb : b ≤ 16) (hc : 1 ≤ c ∧ c ≤ 50) : MI (mset s) := by
  unfold mset
  rw [e1, e2, e3]
  exact MI_new (MI_fr h (fun a b _ _ _ => hz.1 a b (by omega))) ha hb hc
noncomputable def mld (σ : St) (len : Int32) : Int32 × St :=
  cI (nI 0 ≤ len ∧ len ≤ σ.1 15 26) (cI (mSrv (mopn (m0 σ) len)).1 ((mst (mset (mSrv (mopn (m0 σ) len)).2) 6).1 15 1, mst (mset (mSrv (mopn (m0 σ) len)).2) 6) (nI 0, uv (mSrv (mopn (m0 σ) len)).2 15 0 (nI 2))) (nI 0, uv (m0 σ) 15 0 (nI 1))
noncomputable def mDo (σ : St) (k : Nat) : Int32 × St :=
  cI (σ.1 32 (4 * k) = nI 0) (mwr σ (σ.1 32 (4 * k + 1)) (σ.1 32 (4 * k + 2)) (σ.1 32 (4 * k + 3))) (cI (σ.1 32 (4 * k) = nI 1) (mrd σ (σ.1 32 (4 * k + 1)) (σ.1 32 (4 * k + 2))) (cI (σ.1 32 (4 * k) = nI 2) (mfo σ (σ.1 32 (4 * k + 1))) (cI (σ.1 32 (4 * k) = nI 3) (mmv σ (σ.1 32 (4 * k + 1)) (σ.1 32 (4 * k + 2))) (cI (σ.1 32 (4 * k) = nI 4) (mrw σ (σ.1 32 (4 * k + 1)) (σ.1 32 (4 * k + 2))) (cI (σ.1 32 (4 * k) = nI 5) (mco σ (σ.1 32 (4 * k + 1)) (σ.1 32 (4 * k + 2)) (σ.1 32 (4 * k + 3))) (cI (σ.1 32 (4 * k) = nI 6) (mxc σ (σ.1 32 (4 * k + 1)) (σ.1 32 (4 * k + 2))) (cI (σ.1 32 (4 * k) = nI 7) (mpo σ (σ.1 32 (4 * k + 1))) (mhl σ (σ.1 32 (4 * k + 1)) (σ.1 32 (4 * k + 2))))))))))
theorem MK_mDo {σ : St} (h : MJ σ) (k : Nat) : MK σ (mDo σ k).2 := by
  have a := fun {p : Prop} {x y : Int32 × St} (h1 : p → MK σ x.2) (h2 : ¬ p → MK σ y.2) => cI_a2 (p := p) (a := x) (b := y) (Q := fun z : Int32 × St => MK σ z.2) h1 h2
  exact a (fun _ => MK_mwr h _ _ _) fun _ => a (fun _ => MK_mrd h _ _) fun _ => a (fun _ => MK_mfo h _) fun _ => a (fun _ => MK_mmv h _ _) fun _ => a (fun _ => MK_mrw h _ _) fun _ => a (fun _ => MK_mco h _ _ _) fun _ => a (fun _ => MK_mxc h _ _) fun _ => a (fun _ => MK_mpo h _) fun _ => MK_mhl h _ _
noncomputable def mRf (s : St) : St := uv s 15 5 (nI (cI (s.1 15 0 ≤ 0) (rd s 15 5) (rd s 15 5 + 1)))
noncomputable def mRk : Nat → St → St
  | 0, σ => σ
  | k + 1, σ => mRf (mDo (mRk k σ) k).2
def OG (σ σ' : St) : Prop := (∀ a b, (a = 15 ∧ (b = 1 ∨ b = 2 ∨ b = 3 ∨ 25 ≤ b)) ∨ a < 15 ∨ 30 < a → σ'.1 a b = σ.1 a b) ∧ σ'.2 = σ.2
theorem OG.rf (σ : St) : OG σ σ := ⟨fun _ _ _ => rfl, rfl⟩
theorem OG.tr {σ τ υ : St} (h1 : OG σ τ) (h2 : OG τ υ) : OG σ υ := ⟨fun a b q => (h2.1 a b q).trans (h1.1 a b q), h2.2.trans h1.2⟩
theorem OF.og {σ τ : St} (h : OF σ τ) : OG σ τ := ⟨fun a b q => h.1 a b (by omega), h.2⟩
theorem MJ_mRf {s : St} (h : MJ s) {k : Nat} (hk : rd s 15 5 ≤ k) (h6 : k < 60) : MJ (mRf s) ∧ OG s (mRf s) ∧ rd (mRf s) 15 5 ≤ k + 1 := by
  obtain ⟨n, e, hn⟩ : ∃ n, cI (s.1 15 0 ≤ 0) (rd s 15 5) (rd s 15 5 + 1) = n ∧ n ≤ k + 1 := ⟨_, rfl, cI_a2 (Q := fun n : Nat => n ≤ k + 1) (fun _ => by omega) fun _ => by omega⟩
  have ho : OG s (mRf s) := ⟨fun a b q => by unfold mRf; rw [uv_ap, if_neg (by omega)], rfl⟩
  have e5 : (mRf s).1 15 5 = nI n := by unfold mRf; rw [e]; exact uv_same _ _ _ _
  refine ⟨⟨?_, ?_⟩, ho, ?_⟩
  · unfold mRf
    rw [e]
    exact MI_u15 h.1 (by omega)
  · intro c hc
    have e1 : rd (mRf s) 15 1 = rd s 15 1 := by unfold rd; rw [ho.1 15 1 (by omega)]
    have e2 : rd (mRf s) 23 c = rd s 23 c := rd_uv (by decide) _ _ _ _
    have e3 : rd (mRf s) 15 4 = rd s 15 4 := rd_idx _ _ _ _ (by decide)
    rw [e2, e3]
    exact h.2 c (by rw [← e1]; exact hc)
  · rw [(nb_of (m := 60) e5 (by omega) (by decide)).2]; exact hn
theorem mRk_ok {σ : St} (h : MJ σ) (h0 : rd σ 15 5 = 0) : ∀ k, k ≤ 60 → MJ (mRk k σ) ∧ OG σ (mRk k σ) ∧ rd (mRk k σ) 15 5 ≤ k := by
  intro k
  induction k with
  | zero => intro _; exact ⟨h, OG.rf σ, by show rd σ 15 5 ≤ 0; omega⟩
  | succ k ih =>
    intro hk
    obtain ⟨a, b, c⟩ := ih (by omega)
    have d := MK_mDo a k
    have e5 : rd (mDo (mRk k σ) k).2 15 5 = rd (mRk k σ) 15 5 := by unfold rd; rw [d.2.1 15 5 (by omega)]
    obtain ⟨x, y, z⟩ := MJ_mRf d.1 (k := k) (by rw [e5]; exact c) (by omega)
    exact ⟨x, b.tr (d.2.og.tr y), z⟩
noncomputable def mrq (σ : St) (len : Int32) : Prop × St := mSc 61 (uv (mopn (m0 σ) len) 15 39 (nI 0))
noncomputable def mre (s : St) : St := mRk (rd s 15 39) (uv s 15 5 (nI 0))
noncomputable def mrn (σ : St) (len : Int32) : Int32 × St :=
  cI (nI 0 ≤ len ∧ len ≤ σ.1 15 26) (cI (rd σ 15 1 = 0) (nI 0, uv (uv (m0 σ) 15 26 (nI 0)) 15 0 (nI 2)) (cI (mrq σ len).1 (nI (rd (mrq σ len).2 15 39 - rd (mre (mrq σ len).2) 15 5), uv (mre (mrq σ len).2) 15 0 (nI 0)) (nI 0, uv (mrq σ len).2 15 0 (nI 2)))) (nI 0, uv (m0 σ) 15 0 (nI 1))
/-- what reading a script changes, the number of steps too -/
def LV (σ σ' : St) : Prop := (∀ a b, a ≠ 32 → ¬ (a = 15 ∧ (b = 27 ∨ b = 29 ∨ b = 30 ∨ b = 31 ∨ b = 32 ∨ b = 33 ∨ b = 39)) → σ'.1 a b = σ.1 a b) ∧ σ'.2.1 = σ.2.1
theorem LY.lv {σ τ : St} (h : LY σ τ) : LV σ τ := ⟨fun a b p q => h.1 a b p (by omega), h.2⟩
theorem LV.rf (σ : St) : LV σ σ := ⟨fun _ _ _ _ => rfl, rfl⟩
theorem LV.tr {σ τ υ : St} (h1 : LV σ τ) (h2 : LV τ υ) : LV σ υ := ⟨fun a b p q => (h2.1 a b p q).trans (h1.1 a b p q), h2.2.trans h1.2⟩
theorem LV.u {σ τ : St} (h : LV σ τ) (v : Int32) : LV σ (uv τ 15 39 v) := ⟨fun a b p q => by rw [uv_ap, if_neg (by omega)]; exact h.1 a b p q, h.2⟩
theorem mSc_ok : ∀ (n : Nat) (σ : St), PI σ → nb σ 15 39 60 → rd σ 15 39 + n = 61 → LV σ (mSc n σ).2 ∧ PI (mSc n σ).2 ∧ nb (mSc n σ).2 15 39 60 := by
  intro n
  induction n with
  | zero => intro σ h h2 h3; exact ⟨LV.rf σ, h, h2⟩
  | succ n ih =>
    intro σ h h2 h3
    have q1 := PI_mpk h
    have q2 := PI_mStep q1
    have y1 : LY σ (mpk σ) := (LX_mpk σ).ly
    have y2 : LY σ (mStep (mpk σ)).2 := y1.tr (LY_mStep _)
    show LV σ (cI _ _ _ : Prop × St).2 ∧ PI (cI _ _ _ : Prop × St).2 ∧ nb (cI _ _ _ : Prop × St).2 15 39 60
    refine cI_a2 (Q := fun z : Prop × St => LV σ z.2 ∧ PI z.2 ∧ nb z.2 15 39 60) (fun _ => ⟨y1.lv, q1, y1.n39 h2⟩) fun _ => cI_a2 (Q := fun z : Prop × St => LV σ z.2 ∧ PI z.2 ∧ nb z.2 15 39 60) (fun r => ?_) fun _ => ⟨y2.lv, q2, y2.n39 h2⟩
    have hlt := mStep_lt r
    rw [y1.d39] at hlt
    have h60 := h2.2
    have e := nb_of (σ := uv (mStep (mpk σ)).2 15 39 (nI (rd σ 15 39 + 1))) (m := 60) (uv_same _ _ _ _) (by omega) (by decide)
    obtain ⟨a, b, c⟩ := ih (uv (mStep (mpk σ)).2 15 39 (nI (rd σ 15 39 + 1))) (PI_hi q2 _ (by decide)) e.1 (by rw [e.2]; omega)
    exact ⟨(y2.lv.u _).tr a, b, c⟩
theorem MJ_u5 {s : St} (h : MJ s) : MJ (uv s 15 5 (nI 0)) := by
  refine ⟨MI_u15 h.1 (by omega), fun c hc => ?_⟩
  rw [rd_uv (by decide), rd_idx _ _ _ _ (by decide)]
  exact h.2 c (by rw [← rd_idx s 15 15 (j := 5) (b := 1) (nI 0) (by decide)]; exact hc)
theorem MJ_fr {σ σ' : St} (h : MJ σ) (e : ∀ a b, 15 ≤ a → a ≤ 30 → (a = 15 → b < 27) → σ'.1 a b = σ.1 a b) : MJ σ' := by
  refine ⟨MI_fr h.1 e, fun c hc => ?_⟩
  have e1 : rd σ' 15 1 = rd σ 15 1 := by unfold rd; rw [e 15 1 (by omega) (by omega) (by omega)]
  have e2 : rd σ' 23 c = rd σ 23 c := by unfold rd; rw [e 23 c (by omega) (by omega) (by omega)]
  have e3 : rd σ' 15 4 = rd σ 15 4 := by unfold rd; rw [e 15 4 (by omega) (by omega) (by omega)]
  rw [e2, e3]
  exact h.2 c (by rw [← e1]; exact hc)
theorem LV_mSc : ∀ (n : Nat) (σ : St), LV σ (mSc n σ).2 := by
  intro n
  induction n with
  | zero => intro σ; exact LV.rf σ
  | succ n ih =>
    intro σ
    have y1 : LY σ (mpk σ) := (LX_mpk σ).ly
    have y2 : LY σ (mStep (mpk σ)).2 := y1.tr (LY_mStep _)
    show LV σ (cI _ _ _ : Prop × St).2
    exact cI_a2 (Q := fun z : Prop × St => LV σ z.2) (fun _ => y1.lv) fun _ => cI_a2 (Q := fun z : Prop × St => LV σ z.2) (fun r => (y2.lv.u _).tr (ih _)) fun _ => y2.lv
theorem mopn_o (σ : St) (len : Int32) {a b : Nat} (h : ¬ (a = 15 ∧ (b = 26 ∨ b = 27 ∨ b = 28 ∨ b = 29 ∨ b = 32 ∨ b = 33))) : (mopn σ len).1 a b = σ.1 a b := by
  unfold mopn
  rw [uv_ap, if_neg (by omega), uv_ap, if_neg (by omega), uv_ap, if_neg (by omega), uv_ap, if_neg (by omega), uv_ap, if_neg (by omega), uv_ap, if_neg (by omega)]
theorem mrq_J {σ : St} (h : MJ σ) (len : Int32) : MJ (mrq σ len).2 := by
  have h1 : MI (mopn (m0 σ) len) := MI_mopn (MI_m0 h.1) len
  have h2 : MJ (mopn (m0 σ) len) := by
    refine ⟨h1, fun c hc => ?_⟩
    have e : ∀ a b, a = 23 ∨ (a = 15 ∧ (b = 1 ∨ b = 4)) → rd (mopn (m0 σ) len) a b = rd σ a b := by
      intro a b q
      unfold rd
      rw [mopn_o _ _ (by omega)]
      exact congrArg _ (by rw [show m0 σ = uv σ 15 0 (nI 0) from rfl, uv_ap, if_neg (by omega)])
    rw [e 23 c (by omega), e 15 4 (by omega)]
    exact h.2 c (by rw [← e 15 1 (by omega)]; exact hc)
  have y := (LV.rf (mopn (m0 σ) len)).u (nI 0) |>.tr (LV_mSc 61 (uv (mopn (m0 σ) len) 15 39 (nI 0)))
  exact MJ_fr h2 (fun a b p q r => y.1 a b (by omega) (by omega))
