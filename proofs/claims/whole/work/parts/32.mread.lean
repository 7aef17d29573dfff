/-- four bytes into the reference's buffer -/
def mput (σ : St) (v : Int32) : St := uv (uv (uv (uv (uv (uv (uv (uv σ 31 (rd σ 15 26) ((v >>> (nI 24 &&& 31)) &&& nI 255)) 15 26 (nI (rd σ 15 26 + 1))) 31 (rd σ 15 26 + 1) ((v >>> (nI 16 &&& 31)) &&& nI 255)) 15 26 (nI (rd σ 15 26 + 1 + 1))) 31 (rd σ 15 26 + 1 + 1) ((v >>> (nI 8 &&& 31)) &&& nI 255)) 15 26 (nI (rd σ 15 26 + 1 + 1 + 1))) 31 (rd σ 15 26 + 1 + 1 + 1) ((v >>> (nI 0 &&& 31)) &&& nI 255)) 15 26 (nI (rd σ 15 26 + 1 + 1 + 1 + 1))
theorem mput_26 (σ : St) (v : Int32) {m : Nat} (h : rd σ 15 26 + 4 ≤ m) (hm : m < 2 ^ 31) : nb (mput σ v) 15 26 m ∧ rd (mput σ v) 15 26 = rd σ 15 26 + 4 := nb_of (uv_same _ _ _ _) (by omega) hm
theorem mput_o (σ : St) (v : Int32) {a : Nat} (b : Nat) (h : a ≠ 31 ∧ (a = 15 → b ≠ 26)) : (mput σ v).1 a b = σ.1 a b := by
  unfold mput
  rw [uv_ap, if_neg (by omega), uv_cell _ _ _ _ h.1, uv_ap, if_neg (by omega), uv_cell _ _ _ _ h.1, uv_ap, if_neg (by omega), uv_cell _ _ _ _ h.1, uv_ap, if_neg (by omega), uv_cell _ _ _ _ h.1]
noncomputable def mfd (σ : St) (a b c d e : Int32) : Int32 × St := cI (rd σ 15 26 + 20 ≤ 900) ((mput (mput (mput (mput (mput (m0 σ) a) b) c) d) e).1 15 26, mput (mput (mput (mput (mput (m0 σ) a) b) c) d) e) (nI 0, uv (m0 σ) 15 0 (nI 1))
def mopn (σ : St) (len : Int32) : St := uv (uv (uv (uv (uv (uv σ 15 28 len) 15 27 (nI 0)) 15 29 (-1)) 15 32 (nI 0)) 15 33 (-1)) 15 26 (nI 0)
def stp (w : Int64) : Int32 := if w = 212555 then nI 2 else if w = 442053 then nI 3 else if w = 609985988 then nI 4 else if w = 3744028180 then nI 5 else if w = 197677594853 then nI 6 else if w = 540276 then nI 7 else if w = 267308 then nI 8 else -1
/-- one reading behind another -/
noncomputable def sq (p : Prop) (s : St) (f : St → Prop × St) : Prop × St := (p ∧ (f s).1, cI p (f s).2 s)
theorem sq_n {p : Prop} {s : St} {f : St → Prop × St} (h : ¬ p) : bI (sq p s f).1 = nI 0 ∧ (sq p s f).2 = s := ⟨bI_f (fun z => h z.1), cI_f h⟩
theorem sq_y {p : Prop} {s : St} {f : St → Prop × St} (h : p) : bI (sq p s f).1 = bI (f s).1 ∧ (sq p s f).2 = (f s).2 := ⟨bI_c ⟨fun z => z.2, fun z => ⟨h, z⟩⟩, cI_t h⟩
noncomputable def mInto (σ : St) (pl : Nat) (lo hi : Int32) : Prop × St := sq (pN σ lo hi) (sN σ lo hi) (fun τ => (True, uv τ 32 (4 * rd σ 15 39 + pl) (τ.1 15 31)))
noncomputable def mMany (σ : St) (w : Int32) : Prop × St := (rd σ 15 39 = 60, cI (rd σ 15 39 = 60) (mfl σ (nI 3) w) σ)
/-- what reading changes: some numbers of the reference, no others -/
def LX (σ σ' : St) : Prop := (∀ a b, ¬ (a = 15 ∧ (b = 27 ∨ b = 29 ∨ b = 30 ∨ b = 31 ∨ b = 32 ∨ b = 33)) → σ'.1 a b = σ.1 a b) ∧ σ'.2.1 = σ.2.1
theorem LX.rf (σ : St) : LX σ σ := ⟨fun _ _ _ => rfl, rfl⟩
theorem LX.uv {σ τ : St} (h : LX σ τ) {j : Nat} (v : Int32) (hj : j = 27 ∨ j = 29 ∨ j = 30 ∨ j = 31 ∨ j = 32 ∨ j = 33) : LX σ (uv τ 15 j v) := ⟨fun a b q => by rw [uv_ap, if_neg (by omega)]; exact h.1 a b q, h.2⟩
theorem LX.ul {σ τ : St} (h : LX σ τ) (k j : Nat) (v : Int64) : LX σ (ul τ k j v) := ⟨h.1, h.2⟩
theorem LX.cI {σ τ υ : St} {p : Prop} (h1 : p → LX σ τ) (h2 : ¬ p → LX σ υ) : LX σ (cI p τ υ) := by
  by_cases h : p
  · rw [cI_t h]; exact h1 h
  · rw [cI_f h]; exact h2 h
theorem LX.tr {σ τ υ : St} (h1 : LX σ τ) (h2 : LX τ υ) : LX σ υ := ⟨fun a b q => (h2.1 a b q).trans (h1.1 a b q), h2.2.trans h1.2⟩
theorem LX_mpk (σ : St) : LX σ (mpk σ) := ((LX.rf σ).uv _ (by omega)).uv _ (by omega)
theorem LX.mfl {σ τ : St} (h : LX σ τ) (c n : Int32) : LX σ (mfl τ c n) := (h.uv _ (by omega)).uv _ (by omega)
theorem LX_sW (σ : St) : LX σ (sW σ) := LX.cI (fun _ => (((LX_mpk σ).ul _ _ _).uv _ (by omega)).uv _ (by omega)) (fun _ => (LX_mpk σ).mfl _ _)
theorem LX_sN (σ : St) (lo hi : Int32) : LX σ (sN σ lo hi) := by
  have h1 : LX σ (sN1 σ) := (LX_mpk σ).uv _ (by omega)
  exact LX.cI (fun _ => LX.cI (fun _ => LX.cI (fun _ => (h1.uv _ (by omega)).uv _ (by omega)) (fun _ => h1.mfl _ _)) (fun _ => h1.mfl _ _)) (fun _ => (LX_mpk σ).mfl _ _)
theorem LX_sS (σ : St) : LX σ (sS σ) := LX.cI (fun _ => ((LX_mpk σ).uv _ (by omega)).uv _ (by omega)) (fun _ => (LX_mpk σ).mfl _ _)
theorem LX_sT (σ : St) (w : Int64) : LX σ (sT σ w) := LX.cI (fun _ => LX.cI (fun _ => LX_sW σ) (fun _ => (LX_sW σ).mfl _ _)) (fun _ => LX_sW σ)
theorem LX_rdx {σ τ : St} (h : LX σ τ) {a b : Nat} (q : ¬ (a = 15 ∧ (b = 27 ∨ b = 29 ∨ b = 30 ∨ b = 31 ∨ b = 32 ∨ b = 33))) : rd τ a b = rd σ a b := by
  unfold rd
  rw [h.1 a b q]
theorem PI_mfl {σ : St} (h : PI σ) (c n : Int32) : PI (mfl σ c n) := PI_of ((uv_idx _ _ _ _ (by decide)).trans ((uv_idx _ _ _ _ (by decide)).trans h.1.1)) ((uv_idx _ _ _ _ (by decide)).trans ((uv_idx _ _ _ _ (by decide)).trans h.2.1.1)) ((uv_idx _ _ _ _ (by decide)).trans ((uv_idx _ _ _ _ (by decide)).trans h.2.2.1.1)) h.2.2.2 h.2.1.2 h.2.2.1.2
theorem PI_at {σ : St} (h : PI σ) {t : Nat} (ht : t ≤ rd σ 15 28) (v : Int32) : PI (uv (uv σ 15 27 (nI t)) 15 29 v) := PI_of ((uv_idx _ _ _ _ (by decide)).trans (uv_same _ _ _ _)) ((uv_idx _ _ _ _ (by decide)).trans ((uv_idx _ _ _ _ (by decide)).trans h.2.1.1)) ((uv_idx _ _ _ _ (by decide)).trans ((uv_idx _ _ _ _ (by decide)).trans h.2.2.1.1)) ht h.2.1.2 h.2.2.1.2
theorem PI_cI {p : Prop} {τ υ : St} (h1 : p → PI τ) (h2 : ¬ p → PI υ) : PI (cI p τ υ) := by
  by_cases h : p
  · rw [cI_t h]; exact h1 h
  · rw [cI_f h]; exact h2 h
theorem PI_ul {σ : St} (h : PI σ) (k j : Nat) (v : Int64) : PI (ul σ k j v) := h
theorem PI_sW {σ : St} (h : PI σ) : PI (sW σ) := by
  have h1 := h.sk
  refine PI_cI (fun _ => ?_) (fun _ => PI_mfl (PI_mpk h) _ _)
  refine PI_at (PI_ul (PI_mpk h) _ _ _) ?_ _
  show _ ≤ rd (mpk σ) 15 28
  rw [rd28_mpk]
  exact (rnl_ok m1_ltr h1.2.1 (mB_end (Nat.le_refl _))).1
theorem PI_31 {σ : St} (h : PI σ) (v : Int32) : PI (uv σ 15 31 v) := PI_of ((uv_idx _ _ _ _ (by decide)).trans h.1.1) ((uv_idx _ _ _ _ (by decide)).trans h.2.1.1) ((uv_idx _ _ _ _ (by decide)).trans h.2.2.1.1) h.2.2.2 h.2.1.2 h.2.2.1.2
theorem PI_sN {σ : St} (h : PI σ) (lo hi : Int32) : PI (sN σ lo hi) := by
  have h1 := h.sk
  have h2 : PI (sN1 σ) := PI_31 (PI_mpk h) _
  refine PI_cI (fun _ => PI_cI (fun _ => PI_cI (fun _ => PI_at h2 ?_ _) (fun _ => PI_mfl h2 _ _)) (fun _ => PI_mfl h2 _ _)) (fun _ => PI_mfl (PI_mpk h) _ _)
  have e : rd (sN1 σ) 15 28 = rd σ 15 28 := (rd_idx _ _ _ _ (by decide)).trans (rd28_mpk σ)
  rw [e]
  exact (rnl_ok m1_dgt h1.2.1 (mB_end (Nat.le_refl _))).1
theorem PI_sS {σ : St} (h : PI σ) : PI (sS σ) := by
  have h1 := h.sk
  refine PI_cI (fun q => PI_at (PI_mpk h) ?_ _) (fun _ => PI_mfl (PI_mpk h) _ _)
  rw [rd28_mpk]
  have q2 : mB σ (msk σ) = nI 59 := q
  exact mB_in (by rw [q2]; decide)
theorem PI_sT {σ : St} (h : PI σ) (w : Int64) : PI (sT σ w) := PI_cI (fun _ => PI_cI (fun _ => PI_sW h) (fun _ => PI_mfl (PI_sW h) _ _)) (fun _ => PI_sW h)
theorem PI_32 {σ : St} (h : PI σ) (j : Nat) (v : Int32) : PI (uv σ 32 j v) := PI_of ((uv_cell _ _ _ _ (by decide)).trans h.1.1) ((uv_cell _ _ _ _ (by decide)).trans h.2.1.1) ((uv_cell _ _ _ _ (by decide)).trans h.2.2.1.1) h.2.2.2 h.2.1.2 h.2.2.1.2
noncomputable def mPk (σ : St) : Prop × St := (mB σ (msk σ) = -1, cI (mB σ (msk σ) = -1) (mpk σ) (mfl (mpk σ) (nI 1) (nI (msk σ))))
/-- a service, as the reference reads it -/
noncomputable def mSrv (σ : St) : Prop × St :=
  sq (pT σ 3633494675) (sT σ 3633494675) (fun s1 => sq (pN s1 (nI 2) (nI 6)) (sN s1 (nI 2) (nI 6)) (fun s2 => sq (pT (uv s2 15 35 (s2.1 15 31)) 80186739) (sT (uv s2 15 35 (s2.1 15 31)) 80186739) (fun s3 => sq (pN s3 (nI 1) (nI 16)) (sN s3 (nI 1) (nI 16)) (fun s4 => sq (pT (uv s4 15 36 (s4.1 15 31)) 25019487859) (sT (uv s4 15 36 (s4.1 15 31)) 25019487859) (fun s5 => sq (pN s5 (nI 1) (nI 50)) (sN s5 (nI 1) (nI 50)) (fun s6 => sq (pS (uv s6 15 37 (s6.1 15 31))) (sS (uv s6 15 37 (s6.1 15 31))) (fun s7 => mPk s7)))))))
theorem PI_hi {σ : St} (h : PI σ) {j : Nat} (v : Int32) (hj : 31 ≤ j) : PI (uv σ 15 j v) := PI_of ((uv_idx _ _ _ _ (by omega)).trans h.1.1) ((uv_idx _ _ _ _ (by omega)).trans h.2.1.1) ((uv_idx _ _ _ _ (by omega)).trans h.2.2.1.1) h.2.2.2 h.2.1.2 h.2.2.1.2
