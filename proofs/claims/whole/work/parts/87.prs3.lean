/-! the two parsers in step: the operands of a step -/
section PR3
variable {N1 N2 : Int32} {B : Nat → Int32} {t : Nat} {K : Int32} {c m : St}
def QR (N1 N2 : Int32) (B : Nat → Int32) (t : Nat) (K : Int32) (c m : St) : Prop := PRL c m ∧ (c.1 1 4 = N1 ∧ c.1 1 5 = N2 ∧ m.1 15 1 = N1 ∧ m.1 15 2 = N2) ∧ rd m 15 39 = t ∧ m.1 32 (4 * t) = K ∧ ∀ y, y < 4 * t → m.1 32 y = B y
def EQ3 (t A : Nat) (c m : St) : Prop := ∀ a, a < A → c.1 (108 + 2 * t + 1) a = m.1 32 (4 * t + 1 + a)
def RS (N1 N2 : Int32) (B : Nat → Int32) (t : Nat) (K : Int32) (A : Nat) (c m : St) (p : Prop) : Prop := (p ∧ QR N1 N2 B t K c m ∧ EQ3 t A c m) ∨ (¬ p ∧ ERR c m)
theorem qr_I (h : QR N1 N2 B t K c m) {a : Nat} (hE : EQ3 t a c m) (lo hi : Int32) : RS N1 N2 B t K (a + 1) (uv (ctN c lo hi) (108 + 2 * t + 1) a (c.1 6 (rd c 1 2))) (mInto m (1 + a) lo hi).2 (mInto m (1 + a) lo hi).1 := by
  obtain ⟨h0, ⟨g1, g2, g3, g4⟩, h1, h2, h3⟩ := h
  unfold mInto
  rcases prs_N h0 lo hi with ⟨p, q, r1, r2, -⟩ | ⟨p, q, -⟩
  · rw [sq_yy p]
    have hx := PX_ctN c lo hi
    have hl := LX_sN m lo hi
    have e39 : rd (uv (sN m lo hi) 32 (4 * rd m 15 39 + (1 + a)) ((sN m lo hi).1 15 31)) 15 39 = t := (rd_eq ((uv_cell _ _ _ _ (by decide)).trans (hl.1 15 39 (by omega)))).trans h1
    refine Or.inl ⟨trivial, ⟨PRL.mg (PRL.cg q (uv_cell _ _ _ _ (by omega)) (uv_cell _ _ _ _ (by omega)) (uv_cell _ _ _ _ (by omega)) (uv_cell _ _ _ _ (by omega)) (uv_fun _ _ _ (by omega)) rfl (uv_fun _ _ _ (by omega)) (uv_fun _ _ _ (by omega))) (PI_32 q.2.2.2.1 _ _) (fun k => mB_cg (uv_cell _ _ _ _ (by decide)) (fun k => uv_cell _ _ _ _ (by decide)) k) (uv_cell _ _ _ _ (by decide)) (uv_cell _ _ _ _ (by decide)) (uv_cell _ _ _ _ (by decide)) (uv_cell _ _ _ _ (by decide)) (uv_cell _ _ _ _ (by decide)), ⟨?_, ?_, ?_, ?_⟩, e39, ?_, fun y hy => ?_⟩, fun x hx2 => ?_⟩
    · rw [uv_cell _ _ _ _ (by omega), hx.1 1 4 (by omega)]; exact g1
    · rw [uv_cell _ _ _ _ (by omega), hx.1 1 5 (by omega)]; exact g2
    · rw [uv_cell _ _ _ _ (by omega), hl.1 15 1 (by omega)]; exact g3
    · rw [uv_cell _ _ _ _ (by omega), hl.1 15 2 (by omega)]; exact g4
    · rw [uv_idx _ _ _ _ (by omega), hl.1 32 _ (by omega)]; exact h2
    · rw [uv_idx _ _ _ _ (by omega), hl.1 32 _ (by omega)]; exact h3 y hy
    · by_cases z : x = a
      · subst z
        rw [uv_same, h1, show 4 * t + 1 + x = 4 * t + (1 + x) by omega, uv_same, r1, r2]
      · rw [uv_idx _ _ _ _ z, uv_idx _ _ _ _ (by omega), hx.1 _ _ (by omega), hl.1 32 _ (by omega)]
        exact hE x (by omega)
  · refine Or.inr ⟨fun z => p z.1, ?_⟩
    rw [(sq_n p).2]
    exact q.cg (uv_cell _ _ _ _ (by omega)) (uv_cell _ _ _ _ (by omega))
theorem ERR.cto (h : ERR c m) (n p w a : Nat) : ERR (cto n p w a c) m := by
  induction n generalizing a c with
  | zero => exact h
  | succ n ih =>
    refine cI_a2 (Q := fun z : St => ERR z m) (fun _ => ih ?_ _) fun _ => h
    rw [ctN_e h.2.2]
    exact h.cg (uv_cell _ _ _ _ (by omega)) (uv_cell _ _ _ _ (by omega))
/-- an operand, others behind it -/
theorem cto_st (h : QR N1 N2 B t K c m) {a w : Nat} (hE : EQ3 t a c m) (ha : a < 3) (hL : a < kLen.getD w 0) {lo hi : Int32} (hl : clo ((kByt.getD w []).getD a 0) = lo) (hh : cgr c ((kByt.getD w []).getD a 0) = hi) {f : St → Prop × St} {A : Nat} (hk : ∀ c' m', QR N1 N2 B t K c' m' → EQ3 t (a + 1) c' m' → RS N1 N2 B t K A (cto (3 - (a + 1)) t w (a + 1) c') (f m').2 (f m').1) :
    RS N1 N2 B t K A (cto (3 - a) t w a c) (sq (mInto m (1 + a) lo hi).1 (mInto m (1 + a) lo hi).2 f).2 (sq (mInto m (1 + a) lo hi).1 (mInto m (1 + a) lo hi).2 f).1 := by
  rw [cto_s ha hL hl, hh]
  rcases qr_I h hE lo hi with ⟨p, q, e⟩ | ⟨p, q⟩
  · rw [sq_yy p]
    exact hk _ _ q e
  · refine Or.inr ⟨fun z => p z.1, ?_⟩
    rw [(sq_n p).2]
    exact q.cto _ _ _ _
/-- the last operand -/
theorem cto_la (h : QR N1 N2 B t K c m) {a w : Nat} (hE : EQ3 t a c m) (ha : a < 3) (hL : kLen.getD w 0 = a + 1) {lo hi : Int32} (hl : clo ((kByt.getD w []).getD a 0) = lo) (hh : cgr c ((kByt.getD w []).getD a 0) = hi) :
    RS N1 N2 B t K (a + 1) (cto (3 - a) t w a c) (mInto m (1 + a) lo hi).2 (mInto m (1 + a) lo hi).1 := by
  rw [cto_s ha (by omega) hl, hh, cto_e (Or.inr (by omega))]
  exact qr_I h hE lo hi
theorem QR.gc (h : QR N1 N2 B t K c m) : cgr c (nI 99) = m.1 15 1 - nI 1 := by
  unfold cgr
  rw [cI_t rfl, h.2.1.1, h.2.1.2.2.1]
theorem QR.gk (h : QR N1 N2 B t K c m) : cgr c (nI 107) = m.1 15 2 - nI 1 := by
  unfold cgr
  rw [cI_f (by decide), cI_t rfl, h.2.1.2.1, h.2.1.2.2.2]
theorem cgr_v (c : St) : cgr c (nI 118) = nI 999999 := by
  unfold cgr
  rw [cI_f (by decide), cI_f (by decide), cI_t rfl]
theorem cgr_b (c : St) : cgr c (nI 98) = nI 7 := by
  unfold cgr
  rw [cI_f (by decide), cI_f (by decide), cI_f (by decide), cI_t rfl]
theorem cgr_n (c : St) : cgr c (nI 110) = nI 200 := by
  unfold cgr
  rw [cI_f (by decide), cI_f (by decide), cI_f (by decide), cI_f (by decide)]
theorem EQ3.z : EQ3 t 0 c m := fun a h => absurd h (Nat.not_lt_zero _)
theorem clo_0 {s : Int32} (h : ¬ s = nI 110) : clo s = nI 0 := cI_f h
theorem clo_1 : clo (nI 110) = nI 1 := cI_t rfl
theorem cto_hd {w a : Nat} : cto 3 t w 0 c = cto (3 - 0) t w 0 c := rfl
/-- the operands of the steps but fork -/
theorem rs_cb (h : QR N1 N2 B t K c m) : RS N1 N2 B t K 2 (cto (3 - 0) t 12 0 c) (sq (mCl m 1).1 (mCl m 1).2 (fun τ => mBr τ 2)).2 (sq (mCl m 1).1 (mCl m 1).2 (fun τ => mBr τ 2)).1 :=
  cto_st (w := 12) h EQ3.z (by decide) (by decide) (clo_0 (by decide) ) h.gc fun _ _ h1 e1 => cto_la h1 e1 (by decide) rfl (clo_0 (by decide)) (cgr_b _)
theorem rs_bn (h : QR N1 N2 B t K c m) : RS N1 N2 B t K 2 (cto (3 - 0) t 14 0 c) (sq (mBr m 1).1 (mBr m 1).2 (fun τ => mInto τ 2 (nI 1) (nI 200))).2 (sq (mBr m 1).1 (mBr m 1).2 (fun τ => mInto τ 2 (nI 1) (nI 200))).1 :=
  cto_st h EQ3.z (by decide) (by decide) (clo_0 (by decide)) (cgr_b _) fun _ _ h1 e1 => cto_la h1 e1 (by decide) rfl clo_1 (cgr_n _)
theorem rs_bnv (h : QR N1 N2 B t K c m) : RS N1 N2 B t K 3 (cto (3 - 0) t 16 0 c) (sq (mBr m 1).1 (mBr m 1).2 (fun τ => sq (mInto τ 2 (nI 1) (nI 200)).1 (mInto τ 2 (nI 1) (nI 200)).2 (fun τ => mInto τ 3 (nI 0) (nI 999999)))).2 (sq (mBr m 1).1 (mBr m 1).2 (fun τ => sq (mInto τ 2 (nI 1) (nI 200)).1 (mInto τ 2 (nI 1) (nI 200)).2 (fun τ => mInto τ 3 (nI 0) (nI 999999)))).1 :=
  cto_st h EQ3.z (by decide) (by decide) (clo_0 (by decide)) (cgr_b _) fun _ _ h1 e1 => cto_st (w := 16) h1 e1 (by decide) (by decide) clo_1 (cgr_n _) fun _ _ h2 e2 => cto_la h2 e2 (by decide) rfl (clo_0 (by decide)) (cgr_v _)
theorem rs_cc (h : QR N1 N2 B t K c m) : RS N1 N2 B t K 2 (cto (3 - 0) t 18 0 c) (sq (mCl m 1).1 (mCl m 1).2 (fun τ => mCl τ 2)).2 (sq (mCl m 1).1 (mCl m 1).2 (fun τ => mCl τ 2)).1 :=
  cto_st (w := 18) h EQ3.z (by decide) (by decide) (clo_0 (by decide) ) h.gc fun _ _ h1 e1 => cto_la h1 e1 (by decide) rfl (clo_0 (by decide)) h1.gc
theorem rs_c (h : QR N1 N2 B t K c m) : RS N1 N2 B t K 1 (cto (3 - 0) t 10 0 c) (mCl m 1).2 (mCl m 1).1 :=
  cto_la h EQ3.z (by decide) rfl (clo_0 (by decide) ) h.gc
theorem rs_bb (h : QR N1 N2 B t K c m) : RS N1 N2 B t K 2 (cto (3 - 0) t 21 0 c) (sq (mBr m 1).1 (mBr m 1).2 (fun τ => mBr τ 2)).2 (sq (mBr m 1).1 (mBr m 1).2 (fun τ => mBr τ 2)).1 :=
  cto_st h EQ3.z (by decide) (by decide) (clo_0 (by decide)) (cgr_b _) fun _ _ h1 e1 => cto_la h1 e1 (by decide) rfl (clo_0 (by decide)) (cgr_b _)
/-- the operands of write and read behind the client -/
theorem rs_kv (h : QR N1 N2 B t K c m) (e : EQ3 t 1 c m) : RS N1 N2 B t K 3 (cto (3 - 1) t 6 1 c) (sq (mInto m 2 (nI 0) (m.1 15 2 - nI 1)).1 (mInto m 2 (nI 0) (m.1 15 2 - nI 1)).2 (fun τ => mInto τ 3 (nI 0) (nI 999999))).2 (sq (mInto m 2 (nI 0) (m.1 15 2 - nI 1)).1 (mInto m 2 (nI 0) (m.1 15 2 - nI 1)).2 (fun τ => mInto τ 3 (nI 0) (nI 999999))).1 :=
  cto_st (w := 6) h e (by decide) (by decide) (clo_0 (by decide)) h.gk fun _ _ h1 e1 => cto_la h1 e1 (by decide) rfl (clo_0 (by decide)) (cgr_v _)
theorem rs_k (h : QR N1 N2 B t K c m) (e : EQ3 t 1 c m) : RS N1 N2 B t K 2 (cto (3 - 1) t 8 1 c) (mInto m 2 (nI 0) (m.1 15 2 - nI 1)).2 (mInto m 2 (nI 0) (m.1 15 2 - nI 1)).1 :=
  cto_la (w := 8) h e (by decide) rfl (clo_0 (by decide)) h.gk
end PR3
