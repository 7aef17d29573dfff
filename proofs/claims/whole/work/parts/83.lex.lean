/-! bytes and tokens -/
def b8 (x : Int32) : Int32 := x.toInt8.toInt32
theorem b8_all : ∀ n, n < 256 → ((nI 97 ≤ b8 (nI n) ∧ b8 (nI n) ≤ nI 122) ↔ (nI 97 ≤ nI n ∧ nI n ≤ nI 122)) ∧ ((nI 48 ≤ b8 (nI n) ∧ b8 (nI n) ≤ nI 57) ↔ (nI 48 ≤ nI n ∧ nI n ≤ nI 57)) ∧ ((b8 (nI n) = nI 32 ∨ b8 (nI n) = nI 10) ↔ (nI n = nI 32 ∨ nI n = nI 10)) ∧ (b8 (nI n) = nI 59 ↔ nI n = nI 59) ∧ (n < 128 → b8 (nI n) = nI n) := by decide +kernel
theorem b8_f {x : Int32} (h : vb x 255) : (ltr (b8 x) ↔ ltr x) ∧ (dgt (b8 x) ↔ dgt x) ∧ (blk (b8 x) ↔ blk x) ∧ (b8 x = nI 59 ↔ x = nI 59) ∧ (x.toNatClampNeg < 128 → b8 x = x) := by
  have := b8_all x.toNatClampNeg (by have := h.2; omega)
  rw [← h.1] at this
  exact this
theorem ltr_n {x : Int32} (h : ltr x) : x = nI (cn x) ∧ 97 ≤ cn x ∧ cn x ≤ 122 := in_n (by decide) (by decide) h.1 h.2
theorem dgt_n {x : Int32} (h : dgt x) : x = nI (cn x) ∧ 48 ≤ cn x ∧ cn x ≤ 57 := in_n (by decide) (by decide) h.1 h.2
/-- the class's text T is the reference's text B up to e -/
def TB (T B : Nat → Int32) (e : Nat) : Prop := (∀ k, k < e → T k = b8 (B k) ∧ vb (B k) 255) ∧ ∀ k, e ≤ k → B k = -1
section LEX
variable {T B : Nat → Int32} {e : Nat}
theorem TB.l (h : TB T B e) {k : Nat} (hk : k < e) : ltr (T k) ↔ ltr (B k) := by rw [(h.1 k hk).1]; exact (b8_f (h.1 k hk).2).1
theorem TB.d (h : TB T B e) {k : Nat} (hk : k < e) : dgt (T k) ↔ dgt (B k) := by rw [(h.1 k hk).1]; exact (b8_f (h.1 k hk).2).2.1
theorem TB.b (h : TB T B e) {k : Nat} (hk : k < e) : blk (T k) ↔ blk (B k) := by rw [(h.1 k hk).1]; exact (b8_f (h.1 k hk).2).2.2.1
theorem TB.s (h : TB T B e) {k : Nat} (hk : k < e) : T k = nI 59 ↔ B k = nI 59 := by rw [(h.1 k hk).1]; exact (b8_f (h.1 k hk).2).2.2.2.1
theorem TB.eq (h : TB T B e) {k : Nat} (hk : k < e) (hq : ltr (B k) ∨ dgt (B k)) : T k = B k := by
  rw [(h.1 k hk).1]
  refine (b8_f (h.1 k hk).2).2.2.2.2 ?_
  rcases hq with z | z
  · have := ltr_n z; unfold cn at this; omega
  · have := dgt_n z; unfold cn at this; omega
theorem TB.lt (h : TB T B e) {k : Nat} (hk : ¬ B k = -1) : k < e := by
  rcases Nat.lt_or_ge k e with z | z
  · exact z
  · exact absurd (h.2 k z) hk
theorem rne_rnl (h : TB T B e) {P : Int32 → Prop} (hP : ∀ k, k < e → (P (T k) ↔ P (B k))) (hm : ¬ P (-1)) {s : Nat} (hs : s ≤ e) : rne P T s e = s + rnl P B s := by
  obtain ⟨q1, q2, q3⟩ := rnl_ok (P := P) hm hs (h.2 e (Nat.le_refl _))
  refine rne_eq (by omega) ?_ (fun j h1 h2 => ?_)
  · by_cases z : s + rnl P B s < e
    · exact Or.inr (fun y => q2 ((hP _ z).mp y))
    · exact Or.inl (by omega)
  · have := q3 (j - s) (by omega)
    rw [show s + (j - s) = j by omega] at this
    exact ⟨by omega, (hP j (by omega)).mpr this⟩
theorem nx_l (h : TB T B e) {s : Nat} (hs : s < e) (hl : ltr (B s)) : max (s + 1) (eor T s e) = s + rnl ltr B s ∧ 1 ≤ rnl ltr B s ∧ s + rnl ltr B s ≤ e := by
  obtain ⟨q1, q2, q3⟩ := rnl_ok (P := ltr) m1_ltr (Nat.le_of_lt hs) (h.2 e (Nat.le_refl _))
  have h1 : 1 ≤ rnl ltr B s := by
    rcases Nat.eq_zero_or_pos (rnl ltr B s) with z | z
    · rw [z] at q2; exact absurd hl q2
    · exact z
  have e1 := rne_rnl h (P := ltr) (fun k hk => h.l hk) m1_ltr (Nat.le_of_lt hs)
  unfold eor
  rw [e1, cI_t (by omega)]
  omega
theorem nx_d (h : TB T B e) {s : Nat} (hs : s < e) (hl : dgt (B s)) : max (s + 1) (eor T s e) = s + rnl dgt B s ∧ 1 ≤ rnl dgt B s ∧ s + rnl dgt B s ≤ e := by
  obtain ⟨q1, q2, q3⟩ := rnl_ok (P := dgt) m1_dgt (Nat.le_of_lt hs) (h.2 e (Nat.le_refl _))
  have h1 : 1 ≤ rnl dgt B s := by
    rcases Nat.eq_zero_or_pos (rnl dgt B s) with z | z
    · rw [z] at q2; exact absurd hl q2
    · exact z
  have e1 := rne_rnl h (P := dgt) (fun k hk => h.d hk) m1_dgt (Nat.le_of_lt hs)
  have nl : ¬ ltr (T s) := fun z => by
    have a := ltr_n ((h.l hs).mp z)
    have b := dgt_n hl
    omega
  have e2 : rne ltr T s e = s := rne_eq (Nat.le_refl _) (Or.inr nl) (fun j a b => by omega)
  unfold eor
  rw [e2, cI_f (by omega), e1]
  omega
theorem nx_o {s : Nat} (hl : ¬ ltr (T s)) (hd : ¬ dgt (T s)) : max (s + 1) (eor T s e) = s + 1 := by
  have e2 : rne ltr T s e = s := rne_eq (Nat.le_refl _) (Or.inr hl) (fun j a b => by omega)
  have e3 : rne dgt T s e = s := rne_eq (Nat.le_refl _) (Or.inr hd) (fun j a b => by omega)
  unfold eor
  rw [e2, cI_f (by omega), e3]
  omega
end LEX
/-- the tokens from n on come from place a with run end r -/
noncomputable def fin9 (T : Nat → Int32) (e f a : Nat) (r : Int32) (σ : St) : St := cat (scn T e f a r σ) 0 e e
theorem cat_k {σ : St} {k s e n : Nat} (h : σ.1 2 4 = nI n) (hn : n < 2 ^ 31) : (cat σ k s e).1 2 4 = nI (n + 1) ∧ (cat σ k s e).2.1 4 n = some k ∧ (cat σ k s e).1 5 n = nI s ∧ (cat σ k s e).1 6 n = (if k = 3 then nmv (σ.1 3) s (e - s) else nI 0) ∧ ∀ i, i ≠ n → (cat σ k s e).2.1 4 i = σ.2.1 4 i ∧ (cat σ k s e).1 5 i = σ.1 5 i ∧ (cat σ k s e).1 6 i = σ.1 6 i := by
  have e1 : rd σ 2 4 = n := rd_of h hn
  refine ⟨?_, ?_, ?_, ?_, fun i hi => ⟨?_, ?_, ?_⟩⟩
  · unfold cat; rw [uv_same, e1]
  · rw [cat_4, e1]; exact if_pos rfl
  · unfold cat
    rw [uv_cell _ _ _ _ (by decide), uv_cell _ _ _ _ (by decide), e1, uv_same]
  · unfold cat
    rw [uv_cell _ _ _ _ (by decide), e1, uv_same]
  · rw [cat_4, e1]; exact if_neg hi
  · unfold cat
    rw [uv_cell _ _ _ _ (by decide), uv_cell _ _ _ _ (by decide), e1, uv_idx _ _ _ _ hi]
    rfl
  · unfold cat
    rw [uv_cell _ _ _ _ (by decide), e1, uv_idx _ _ _ _ hi, uv_cell _ _ _ _ (by decide)]
    rfl
theorem scn_keep {T : Nat → Int32} {e : Nat} (he : e ≤ 900) : ∀ (f a : Nat) (r : Int32) (σ : St) (n : Nat), σ.1 2 4 = nI n → n ≤ a → a ≤ e → ∃ N, n ≤ N ∧ N ≤ e ∧ (scn T e f a r σ).1 2 4 = nI N ∧ ∀ i, i < n → (scn T e f a r σ).2.1 4 i = σ.2.1 4 i ∧ (scn T e f a r σ).1 5 i = σ.1 5 i ∧ (scn T e f a r σ).1 6 i = σ.1 6 i := by
  intro f
  induction f with
  | zero => intro a r σ n h h1 h2; exact ⟨n, Nat.le_refl _, by omega, h, fun i hi => ⟨rfl, rfl, rfl⟩⟩
  | succ f ih =>
    intro a r σ n h h1 h2
    by_cases q : a < e
    · have hE := eor_ok (T := T) (Nat.le_of_lt q)
      by_cases hb : blk (T a)
      · rw [scn_b q hb]
        exact ih _ _ _ _ h (by omega) (by omega)
      · rw [scn_t q hb rfl rfl]
        obtain ⟨k1, k2, k3, k4, k5⟩ := cat_k (k := scK T a (max (a + 1) (eor T a e)) r) (s := a) (e := max (a + 1) (eor T a e)) h (by omega)
        obtain ⟨N, n1, n2, n3, n4⟩ := ih (max (a + 1) (eor T a e)) (cI (ltr (T a) ∨ dgt (T a)) (nI (max (a + 1) (eor T a e))) (-1)) _ _ k1 (by omega) (by omega)
        refine ⟨N, by omega, n2, n3, fun i hi => ?_⟩
        obtain ⟨z1, z2, z3⟩ := n4 i (by omega)
        obtain ⟨y1, y2, y3⟩ := k5 i (by omega)
        exact ⟨z1.trans y1, z2.trans y2, z3.trans y3⟩
    · rw [scn_e (by omega)]
      exact ⟨n, Nat.le_refl _, by omega, h, fun i hi => ⟨rfl, rfl, rfl⟩⟩
theorem fin_keep {T : Nat → Int32} {e f a n : Nat} {r : Int32} {σ : St} (he : e ≤ 900) (h : σ.1 2 4 = nI n) (h1 : n ≤ a) (h2 : a ≤ e) : ∃ N, n + 1 ≤ N ∧ N ≤ 901 ∧ (fin9 T e f a r σ).1 2 4 = nI N ∧ ∀ i, i < n → (fin9 T e f a r σ).2.1 4 i = σ.2.1 4 i ∧ (fin9 T e f a r σ).1 5 i = σ.1 5 i ∧ (fin9 T e f a r σ).1 6 i = σ.1 6 i := by
  obtain ⟨N, n1, n2, n3, n4⟩ := scn_keep (T := T) he f a r σ n h h1 h2
  obtain ⟨k1, k2, k3, k4, k5⟩ := cat_k (k := 0) (s := e) (e := e) n3 (by omega)
  refine ⟨N + 1, by omega, by omega, k1, fun i hi => ?_⟩
  obtain ⟨z1, z2, z3⟩ := n4 i hi
  obtain ⟨y1, y2, y3⟩ := k5 i (by omega)
  exact ⟨y1.trans z1, y2.trans z2, y3.trans z3⟩
/-- the tokens of F from j on are those from place a on -/
def AT (F : St) (T : Nat → Int32) (e j a : Nat) (r : Int32) : Prop := ∃ (f : Nat) (σ : St), e ≤ a + f ∧ j ≤ a ∧ a ≤ e ∧ σ.1 2 4 = nI j ∧ σ.1 3 = T ∧ F = fin9 T e f a r σ
theorem AT_skip {F : St} {T B : Nat → Int32} {e j a : Nat} {r : Int32} (hT : TB T B e) (h : AT F T e j a r) : AT F T e j (skp B a) r ∧ a ≤ skp B a ∧ skp B a ≤ e ∧ ¬ blk (B (skp B a)) := by
  obtain ⟨f, σ, h1, h2, h3, h4, h5, h6⟩ := h
  obtain ⟨k1, k2, k3, k4⟩ := skp_ok (B := B) h3 (hT.2 e (Nat.le_refl _))
  refine ⟨?_, k1, k2, k3⟩
  have key : ∀ d a f, a + d = skp B a → (∀ i, a ≤ i → i < a + d → blk (B i)) → a + d ≤ e → e ≤ a + f → ∃ f', e ≤ a + d + f' ∧ scn T e f a r σ = scn T e f' (a + d) r σ := by
    intro d
    induction d with
    | zero => intro a f _ _ _ hf; exact ⟨f, by omega, rfl⟩
    | succ d ih =>
      intro a f hs hb he hf
      obtain ⟨f2, rfl⟩ : ∃ f2, f = f2 + 1 := ⟨f - 1, by omega⟩
      have ha : a < e := by omega
      have hbl := hb a (Nat.le_refl _) (by omega)
      have hTb := (hT.b ha).mpr hbl
      have nl : ¬ ltr (T a) := fun z => by
        have y := ltr_n ((hT.l ha).mp z)
        rcases hbl with w | w
        · rw [w] at y; exact absurd y.2.1 (by decide)
        · rw [w] at y; exact absurd y.2.1 (by decide)
      have nd : ¬ dgt (T a) := fun z => by
        have y := dgt_n ((hT.d ha).mp z)
        rcases hbl with w | w
        · rw [w] at y; exact absurd y.2.1 (by decide)
        · rw [w] at y; exact absurd y.2.1 (by decide)
      have hs2 : skp B (a + 1) = skp B a := by
        refine lst_eq ?_ (fun i hi z => ?_)
        · have w := skp_ok (B := B) (t := a) (n := e) (by omega) (hT.2 e (Nat.le_refl _))
          exact ⟨by omega, w.2.2.1⟩
        · exact z.2 (hb i (by omega) (by omega))
      obtain ⟨f', g1, g2⟩ := ih (a + 1) f2 (by rw [hs2]; omega) (fun i z1 z2 => hb i (by omega) (by omega)) (by omega) (by omega)
      refine ⟨f', by omega, ?_⟩
      rw [scn_b ha hTb, nx_o nl nd, g2, show a + 1 + d = a + (d + 1) by omega]
  obtain ⟨f', g1, g2⟩ := key (skp B a - a) a f (by omega) (fun i z1 z2 => k4 i z1 (by omega)) (by omega) h1
  rw [show a + (skp B a - a) = skp B a by omega] at g1 g2
  refine ⟨f', σ, g1, by omega, k2, h4, h5, ?_⟩
  rw [h6]
  unfold fin9
  rw [g2]
/-- the token at j -/
theorem AT_tok {F : St} {T B : Nat → Int32} {e j s : Nat} {r : Int32} (he : e ≤ 900) (hT : TB T B e) (h : AT F T e j s r) (hb : ¬ blk (B s)) :
    (s = e → F.2.1 4 j = some 0 ∧ F.1 5 j = nI e ∧ F.1 2 4 = nI (j + 1)) ∧
    (s < e → F.2.1 4 j = some (scK T s (max (s + 1) (eor T s e)) r) ∧ F.1 5 j = nI s ∧ F.1 6 j = (if scK T s (max (s + 1) (eor T s e)) r = 3 then nmv T s (max (s + 1) (eor T s e) - s) else nI 0) ∧
      (∃ N, j + 2 ≤ N ∧ N ≤ 901 ∧ F.1 2 4 = nI N) ∧ AT F T e (j + 1) (max (s + 1) (eor T s e)) (cI (ltr (T s) ∨ dgt (T s)) (nI (max (s + 1) (eor T s e))) (-1))) := by
  obtain ⟨f, σ, h1, h2, h3, h4, h5, h6⟩ := h
  constructor
  · intro q
    subst q
    have e1 : F = cat σ 0 s s := by rw [h6]; unfold fin9; rw [scn_e (Nat.le_refl _)]
    obtain ⟨k1, k2, k3, k4, k5⟩ := cat_k (k := 0) (s := s) (e := s) h4 (by omega)
    rw [e1]
    exact ⟨k2, k3, k1⟩
  · intro q
    obtain ⟨f2, rfl⟩ : ∃ f2, f = f2 + 1 := ⟨f - 1, by omega⟩
    have hE := eor_ok (T := T) (Nat.le_of_lt q)
    have hnb : ¬ blk (T s) := fun z => hb ((hT.b q).mp z)
    have e1 : F = fin9 T e f2 (max (s + 1) (eor T s e)) (cI (ltr (T s) ∨ dgt (T s)) (nI (max (s + 1) (eor T s e))) (-1)) (cat σ (scK T s (max (s + 1) (eor T s e)) r) s (max (s + 1) (eor T s e))) := by
      rw [h6]; unfold fin9; rw [scn_t q hnb rfl rfl]
    obtain ⟨k1, k2, k3, k4, k5⟩ := cat_k (k := scK T s (max (s + 1) (eor T s e)) r) (s := s) (e := max (s + 1) (eor T s e)) h4 (by omega)
    obtain ⟨N, n1, n2, n3, n4⟩ := fin_keep (T := T) (f := f2) (r := cI (ltr (T s) ∨ dgt (T s)) (nI (max (s + 1) (eor T s e))) (-1)) he k1 (show j + 1 ≤ max (s + 1) (eor T s e) by omega) (by omega)
    obtain ⟨y1, y2, y3⟩ := n4 j (by omega)
    rw [← e1] at n3 y1 y2 y3
    refine ⟨y1.trans k2, y2.trans k3, ?_, ⟨N, by omega, n2, n3⟩, f2, _, by omega, by omega, by omega, k1, ?_, e1⟩
    · rw [y3, k4, h5]
    · rw [cat_3, h5]
