/-! the two parsers in step: the clients of a fork, a step -/
section PR4
variable {N1 N2 : Int32} {B : Nat → Int32} {t : Nat} {K : Int32} {c m : St}
theorem QR.cg {c' : St} (h : QR N1 N2 B t K c m) (h0 : ∀ b, b = 2 ∨ b = 4 ∨ b = 5 ∨ b = 7 ∨ b = 8 → c'.1 1 b = c.1 1 b) (h4 : c'.1 2 4 = c.1 2 4) (h5 : c'.1 3 = c.1 3) (h6 : c'.2.1 4 = c.2.1 4) (h7 : c'.1 5 = c.1 5) (h8 : c'.1 6 = c.1 6) : QR N1 N2 B t K c' m :=
  ⟨h.1.cg (h0 7 (by decide)) (h0 8 (by decide)) (h0 2 (by decide)) h4 h5 h6 h7 h8, ⟨(h0 4 (by decide)).trans h.2.1.1, (h0 5 (by decide)).trans h.2.1.2.1, h.2.1.2.2⟩, h.2.2⟩
theorem QR.u (h : QR N1 N2 B t K c m) {a : Nat} (b : Nat) (v : Int32) (ha : 108 ≤ a) : QR N1 N2 B t K (uv c a b v) m :=
  h.cg (fun _ _ => uv_cell _ _ _ _ (by omega)) (uv_cell _ _ _ _ (by omega)) (uv_fun _ _ _ (by omega)) rfl (uv_fun _ _ _ (by omega)) (uv_fun _ _ _ (by omega))
theorem QR.pk (h : QR N1 N2 B t K c m) : QR N1 N2 B t K c (mpk m) := by
  have hl := LX_mpk m
  exact ⟨h.1.pk, ⟨h.2.1.1, h.2.1.2.1, (hl.1 15 1 (by omega)).trans h.2.1.2.2.1, (hl.1 15 2 (by omega)).trans h.2.1.2.2.2⟩, (LX_rdx hl (by omega)).trans h.2.2.1, (hl.1 32 _ (by omega)).trans h.2.2.2.1, fun y hy => (hl.1 32 y (by omega)).trans (h.2.2.2.2 y hy)⟩
theorem QR.mu (h : QR N1 N2 B t K c m) (a : Nat) (v : Int32) : QR N1 N2 B t K c (uv m 32 (4 * t + 1 + a) v) := by
  refine ⟨h.1.mg (PI_32 h.1.2.2.2.1 _ _) (fun k => mB_cg (uv_cell _ _ _ _ (by decide)) (fun k => uv_cell _ _ _ _ (by decide)) k) (uv_cell _ _ _ _ (by decide)) (uv_cell _ _ _ _ (by decide)) (uv_cell _ _ _ _ (by decide)) (uv_cell _ _ _ _ (by decide)) (uv_cell _ _ _ _ (by decide)), ⟨h.2.1.1, h.2.1.2.1, (uv_cell _ _ _ _ (by decide)).trans h.2.1.2.2.1, (uv_cell _ _ _ _ (by decide)).trans h.2.1.2.2.2⟩, (rd_eq (uv_cell _ _ _ _ (by decide))).trans h.2.2.1, (uv_idx _ _ _ _ (by omega)).trans h.2.2.2.1, fun y hy => (uv_idx _ _ _ _ (by omega)).trans (h.2.2.2.2 y hy)⟩
theorem QR.mk' (h : QR N1 N2 B t K c m) (v : Int32) : QR N1 N2 B t v c (uv m 32 (4 * t) v) := by
  refine ⟨h.1.mg (PI_32 h.1.2.2.2.1 _ _) (fun k => mB_cg (uv_cell _ _ _ _ (by decide)) (fun k => uv_cell _ _ _ _ (by decide)) k) (uv_cell _ _ _ _ (by decide)) (uv_cell _ _ _ _ (by decide)) (uv_cell _ _ _ _ (by decide)) (uv_cell _ _ _ _ (by decide)) (uv_cell _ _ _ _ (by decide)), ⟨h.2.1.1, h.2.1.2.1, (uv_cell _ _ _ _ (by decide)).trans h.2.1.2.2.1, (uv_cell _ _ _ _ (by decide)).trans h.2.1.2.2.2⟩, (rd_eq (uv_cell _ _ _ _ (by decide))).trans h.2.2.1, uv_same _ _ _ _, fun y hy => (uv_idx _ _ _ _ (by omega)).trans (h.2.2.2.2 y hy)⟩
theorem rd27_mpk (h : PI m) : rd (mpk m) 15 27 = msk m := by
  have e27' : (mpk m).1 15 27 = nI (msk m) := by
    unfold mpk
    rw [uv_idx _ _ _ _ (by decide), uv_same]
  have h1 := h.sk.2.1
  have h9 := h.2.1.2
  exact rd_of e27' (by omega)
theorem msk_mpk (h : PI m) : msk (mpk m) = msk m := by
  have a := h.sk
  have b := (PI_mpk h).sk
  rw [rd27_mpk h] at b
  rcases Nat.lt_or_ge (msk m) (msk (mpk m)) with z | z
  · have := b.2.2.2 (msk m) (Nat.le_refl _) z
    rw [mB_mpk] at this
    exact absurd this a.2.2.1
  · have := b.1
    omega
/-- QR behind a reading -/
theorem QR.nx {c' m' : St} (h : QR N1 N2 B t K c m) (hx : PX c c') (hl : LX m m') (hp : PRL c' m') : QR N1 N2 B t K c' m' :=
  ⟨hp, ⟨(hx.1 1 4 (by omega)).trans h.2.1.1, (hx.1 1 5 (by omega)).trans h.2.1.2.1, (hl.1 15 1 (by omega)).trans h.2.1.2.2.1, (hl.1 15 2 (by omega)).trans h.2.1.2.2.2⟩, (LX_rdx hl (by omega)).trans h.2.2.1, (hl.1 32 _ (by omega)).trans h.2.2.2.1, fun y hy => (hl.1 32 y (by omega)).trans (h.2.2.2.2 y hy)⟩
/-- a number, and it's kept -/
theorem qr_N (h : QR N1 N2 B t K c m) (lo hi : Int32) : ((mInto m 1 lo hi).1 ∧ QR N1 N2 B t K (ctN c lo hi) (mInto m 1 lo hi).2 ∧ c.1 6 (rd c 1 2) = (mInto m 1 lo hi).2.1 15 31) ∨ (¬ (mInto m 1 lo hi).1 ∧ ERR (ctN c lo hi) (mInto m 1 lo hi).2) := by
  unfold mInto
  rcases prs_N h.1 lo hi with ⟨p, q, r1, r2, -⟩ | ⟨p, q, -⟩
  · rw [sq_yy p, h.2.2.1]
    exact Or.inl ⟨trivial, (h.nx (PX_ctN _ _ _) (LX_sN _ _ _) q).mu 0 _, by rw [uv_cell _ _ _ _ (by decide), r1, r2]⟩
  · exact Or.inr ⟨fun z => p z.1, by rw [(sq_n p).2]; exact q⟩
theorem crs_n {n : Nat} {set : Int32} (h : ¬ (c.1 1 7 = 0 ∧ kdH c = 3)) : crs n set c = (set, c) := by
  cases n with
  | zero => rfl
  | succ n => exact cI_f h
theorem crs_y {n : Nat} {set : Int32} (h : c.1 1 7 = 0 ∧ kdH c = 3) : crs (n + 1) set c = crs n (set ||| (nI 1 <<< (c.1 6 (rd c 1 2) &&& 31))) (ctN c (nI 0) (c.1 1 4 - nI 1)) := cI_t h
noncomputable def fR (t nr : Nat) (set : Int32) (m : St) : Prop × St := cI (dgt (mB m (msk m))) (mFk nr set (mpk m)) (True, uv (mpk m) 32 (4 * t + 1) set)
noncomputable def fC (t n : Nat) (set : Int32) (c : St) : St := uv (crs n set c).2 (108 + 2 * t + 1) 0 (crs n set c).1
def RT (N1 N2 : Int32) (B : Nat → Int32) (t : Nat) (K : Int32) (A : Nat) (c m : St) (p : Prop) : Prop := (p ∧ QR N1 N2 B t K c m ∧ EQ3 t A c m) ∨ (¬ p ∧ ERR (ctK c 2) m)
theorem RS.rt {A : Nat} {p : Prop} (h : RS N1 N2 B t K A c m p) : RT N1 N2 B t K A c m p := h.elim Or.inl fun z => Or.inr ⟨z.1, z.2.tK 2⟩
theorem fR_ok : ∀ (n nr : Nat) (set : Int32) (c m : St), QR N1 N2 B t K c m → 900 ≤ rd m 15 27 + n → 900 < rd m 15 27 + nr → RT N1 N2 B t K 1 (fC t n set c) (fR t nr set m).2 (fR t nr set m).1 := by
  intro n
  induction n with
  | zero =>
    intro nr set c m h h1 h2
    obtain ⟨F, hF, hK⟩ := h.1.tok
    have hs := h.1.2.2.2.1.sk
    have h9 := h.1.2.2.2.1.2.1.2
    have d : ¬ dgt (mB m (msk m)) := fun z => by
      have := mB_in (σ := m) (k := msk m) (fun y => by rw [y] at z; exact m1_dgt z)
      have : rd m 15 27 ≤ msk m := hs.1
      omega
    unfold fR fC
    rw [cI_f d, crs_n (fun z => d (hK.2.2.1.mp z.2).1.1)]
    exact Or.inl ⟨trivial, (h.u _ _ (by omega)).pk.mu 0 _, fun a ha => by
      have : a = 0 := by omega
      subst this
      rw [uv_same]
      exact (uv_same _ _ _ _).symm⟩
  | succ n ih =>
    intro nr set c m h h1 h2
    obtain ⟨F, hF, hK⟩ := h.1.pk.tok
    have hs := h.1.2.2.2.1.sk
    have e1 : mB (mpk m) (msk (mpk m)) = mB m (msk m) := by rw [mB_mpk, msk_mpk h.1.2.2.2.1]
    by_cases d : dgt (mB m (msk m))
    · unfold fR
      rw [cI_t d]
      obtain ⟨nr', rfl⟩ : ∃ x, nr = x + 1 := ⟨nr - 1, by
        have := mB_in (σ := m) (k := msk m) (fun y => by rw [y] at d; exact m1_dgt d)
        have : rd m 15 27 ≤ msk m := hs.1
        have h9 := h.1.2.2.2.1.2.1.2
        omega⟩
      have hp := h.pk
      have e27' : (mpk m).1 15 27 = nI (msk m) := by
        unfold mpk
        rw [uv_idx _ _ _ _ (by decide), uv_same]
      have hs2 : msk m ≤ rd m 15 28 := hs.2.1
      have h9 := h.1.2.2.2.1.2.1.2
      have e27 : rd (mpk m) 15 27 = msk m := rd_of e27' (by omega)
      by_cases k3 : kdH c = 3
      · unfold fC
        rw [crs_y ⟨h.1.1.1.trans nI_0, k3⟩]
        have e4 : c.1 1 4 - nI 1 = (mpk m).1 15 1 - nI 1 := by rw [h.2.1.1, hp.2.1.2.2.1]
        rw [e4]
        show RT N1 N2 B t K 1 _ (sq (mCl (mpk m) 1).1 (mCl (mpk m) 1).2 (fun τ => cI (dgt (mB τ (msk τ))) (mFk nr' (set ||| (nI 1 <<< (τ.1 15 31 &&& 31))) (mpk τ)) (True, uv (mpk τ) 32 (4 * rd (mpk m) 15 39 + 1) (set ||| (nI 1 <<< (τ.1 15 31 &&& 31)))))).2 (sq (mCl (mpk m) 1).1 (mCl (mpk m) 1).2 (fun τ => cI (dgt (mB τ (msk τ))) (mFk nr' (set ||| (nI 1 <<< (τ.1 15 31 &&& 31))) (mpk τ)) (True, uv (mpk τ) 32 (4 * rd (mpk m) 15 39 + 1) (set ||| (nI 1 <<< (τ.1 15 31 &&& 31)))))).1
        rw [hp.2.2.1]
        rcases qr_N hp (nI 0) ((mpk m).1 15 1 - nI 1) with ⟨p, q, r⟩ | ⟨p, q⟩
        · rw [sq_yy p, r]
          have ha := mInto_at hp.1.2.2.2.1 p
          rw [e27] at ha
          have hs1 : rd m 15 27 ≤ msk m := hs.1
          have ha2 : msk m + 1 ≤ rd (mCl (mpk m) 1).2 15 27 := ha
          exact ih nr' _ _ _ q (by omega) (by omega)
        · refine Or.inr ⟨fun z => p z.1, ?_⟩
          rw [(sq_n p).2, crs_n (fun z => q.2.2 z.1)]
          exact (q.cg (uv_cell _ _ _ _ (by omega)) (uv_cell _ _ _ _ (by omega))).tK 2
      · unfold fC
        rw [crs_n (fun z => k3 z.2)]
        have k2 : ¬ kdH c = 2 := fun z => by
          have y : mB (mpk m) (msk (mpk m)) = nI 59 := hK.2.2.2.2.2.1.mp z
          rw [e1] at y
          rw [y] at d
          exact absurd d.2 (by decide)
        have hu := hp.u (a := 108 + 2 * t + 1) 0 set (by omega)
        have eH : kdH (uv c (108 + 2 * t + 1) 0 set) = kdH c := kdH_cg (uv_cell _ _ _ _ (by omega)) rfl
        have eK : ctK (uv c (108 + 2 * t + 1) 0 set) 2 = ctN (uv c (108 + 2 * t + 1) 0 set) (nI 0) ((mpk m).1 15 1 - nI 1) := by
          unfold ctK ctN ccN
          rw [eH, cI_f k2, cI_f k3]
        show RT N1 N2 B t K 1 _ (sq (mCl (mpk m) 1).1 (mCl (mpk m) 1).2 _).2 (sq (mCl (mpk m) 1).1 (mCl (mpk m) 1).2 _).1
        rcases qr_N hu (nI 0) ((mpk m).1 15 1 - nI 1) with ⟨p, q, r⟩ | ⟨p, q⟩
        · have p2 : pN (mpk m) (nI 0) ((mpk m).1 15 1 - nI 1) := p.1
          exact absurd (hK.2.2.1.mpr ⟨p2.1, p2.2.1⟩) k3
        · refine Or.inr ⟨fun z => p z.1, ?_⟩
          rw [(sq_n p).2]
          show ERR (ctK (uv c (108 + 2 * t + 1) 0 set) 2) _
          rw [eK]
          exact q
    · unfold fR fC
      rw [cI_f d, crs_n (fun z => d (by rw [← e1]; exact (hK.2.2.1.mp z.2).1.1))]
      exact Or.inl ⟨trivial, (h.u _ _ (by omega)).pk.mu 0 _, fun a ha => by
        have : a = 0 := by omega
        subst this
        rw [uv_same]
        exact (uv_same _ _ _ _).symm⟩
end PR4
