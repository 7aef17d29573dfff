/-! words: the reference's code of a word and the class's spelling -/
def vf (f : Nat → Nat) : Nat → Nat
  | 0 => 0
  | n + 1 => 32 * vf f n + f n
theorem vf_lt {f : Nat → Nat} : ∀ n, (∀ j, j < n → 1 ≤ f j ∧ f j ≤ 26) → vf f n < 32 ^ n ∧ (0 < n → 1 ≤ vf f n) := by
  intro n
  induction n with
  | zero => intro _; exact ⟨(show (0 : Nat) < 1 by decide), fun z => absurd z (Nat.lt_irrefl _)⟩
  | succ n ih =>
    intro h
    obtain ⟨a, b⟩ := ih (fun j hj => h j (by omega))
    have := h n (by omega)
    show 32 * vf f n + f n < 32 ^ (n + 1) ∧ (_ → 1 ≤ 32 * vf f n + f n)
    rw [Nat.pow_succ]
    exact ⟨by omega, fun _ => by omega⟩
theorem vf_inj {f g : Nat → Nat} : ∀ n n', (∀ j, j < n → 1 ≤ f j ∧ f j ≤ 26) → (∀ j, j < n' → 1 ≤ g j ∧ g j ≤ 26) → vf f n = vf g n' → n = n' ∧ ∀ j, j < n → f j = g j := by
  intro n
  induction n with
  | zero =>
    intro n' _ hg h
    rcases Nat.eq_zero_or_pos n' with z | z
    · exact ⟨z.symm, fun j hj => absurd hj (Nat.not_lt_zero _)⟩
    · have := (vf_lt n' hg).2 z
      rw [← h] at this
      exact absurd this (by show ¬ 1 ≤ 0; omega)
  | succ n ih =>
    intro n' hf hg h
    cases n' with
    | zero =>
      have := (vf_lt (n + 1) hf).2 (by omega)
      rw [h] at this
      exact absurd this (by show ¬ 1 ≤ 0; omega)
    | succ n' =>
      have h' : 32 * vf f n + f n = 32 * vf g n' + g n' := h
      have a := hf n (by omega)
      have b := hg n' (by omega)
      obtain ⟨e1, e2⟩ := ih n' (fun j hj => hf j (by omega)) (fun j hj => hg j (by omega)) (by omega)
      subst e1
      refine ⟨rfl, fun j hj => ?_⟩
      rcases Nat.lt_or_ge j n with z | z
      · exact e2 j z
      · have : j = n := by omega
        subst this
        omega
theorem vf_cg {f g : Nat → Nat} : ∀ n, (∀ j, j < n → f j = g j) → vf f n = vf g n := by
  intro n
  induction n with
  | zero => intro _; rfl
  | succ n ih =>
    intro h
    show 32 * vf f n + f n = 32 * vf g n + g n
    rw [ih (fun j hj => h j (by omega)), h n (by omega)]
theorem o64 {n : Nat} (h : n < 2 ^ 63) : (Int64.ofNat n).toInt = (n : Int) := Int64.toInt_ofNat_of_lt h
theorem o64_inj {a b : Nat} (ha : a < 2 ^ 63) (hb : b < 2 ^ 63) (h : Int64.ofNat a = Int64.ofNat b) : a = b := by
  have := congrArg Int64.toInt h
  rw [o64 ha, o64 hb] at this
  omega
theorem o64_n {n : Nat} (h : n < 2 ^ 31) : (nI n).toInt64 = Int64.ofNat n := by
  apply Int64.toInt_inj.mp
  rw [Int32.toInt_toInt64, nI_toInt h, o64 (by omega)]
theorem wvl_n {B : Nat → Int32} {s : Nat} : ∀ n, n ≤ 8 → (∀ j, j < n → ltr (B (s + j))) → wvl B s n = Int64.ofNat (vf (fun j => cn (B (s + j)) - 96) n) := by
  intro n
  induction n with
  | zero => intro _ _; rfl
  | succ n ih =>
    intro hn h
    obtain ⟨e1, e2, e3⟩ := ltr_n (h n (by omega))
    have hv : vf (fun j => cn (B (s + j)) - 96) n < 32 ^ n := (vf_lt n (fun j hj => by have := ltr_n (h j (by omega)); omega)).1
    have hp : 32 ^ n ≤ 32 ^ 7 := Nat.pow_le_pow_right (by decide) (by omega)
    have h7 : 32 ^ 7 = 34359738368 := by decide
    rw [wvl_t (by omega), ih (by omega) (fun j hj => h j (by omega)), e1, o64_n (by omega)]
    apply Int64.toInt_inj.mp
    show _ = (Int64.ofNat (32 * vf (fun j => cn (B (s + j)) - 96) n + (cn (B (s + n)) - 96))).toInt
    rw [o64 (by omega), Int64.toInt_sub, Int64.toInt_add, Int64.toInt_mul, o64 (by omega), o64 (by omega)]
    have c1 : (32 : Int64).toInt = 32 := rfl
    have c2 : (96 : Int64).toInt = 96 := rfl
    rw [c1, c2]
    rw [Int.bmod_eq_of_le (n := 32 * (vf (fun j => cn (B (s + j)) - 96) n : Int)) (by omega) (by omega), Int.bmod_eq_of_le (n := 32 * (vf (fun j => cn (B (s + j)) - 96) n : Int) + (cn (B (s + n)) : Int)) (by omega) (by omega), Int.bmod_eq_of_le (by omega) (by omega)]
    omega
def WV : List Nat := [0, 0, 0, 0, 3633494675, 80186739, 25019487859, 790941875, 19039379, 212555, 442053, 609985988, 3744028180, 197677594853, 540276, 267308]
abbrev wby (k j : Nat) : Int32 := (kByt.getD (kSp.getD k 0) []).getD j 0
theorem kv_all : ∀ k, k < 16 → 4 ≤ k → vf (fun j => (wby k j).toNatClampNeg - 96) (kLen.getD (kSp.getD k 0) 0) = WV.getD k 0 ∧ 1 ≤ kLen.getD (kSp.getD k 0) 0 ∧ kLen.getD (kSp.getD k 0) 0 ≤ 8 ∧ WV.getD k 0 ≠ 0 ∧ WV.getD k 0 < 2 ^ 40 ∧ (∀ j, j < kLen.getD (kSp.getD k 0) 0 → nI 97 ≤ wby k j ∧ wby k j ≤ nI 122) ∧ 4 ≤ kLen.getD (kSp.getD k 0) 0 := by decide +kernel
theorem WV_inj : ∀ k, k < 16 → ∀ k', k' < 16 → 4 ≤ k → 4 ≤ k' → WV.getD k 0 = WV.getD k' 0 → k = k' := by decide +kernel
section LEX2
variable {T B : Nat → Int32} {e : Nat}
theorem spl_iff (h : TB T B e) {s : Nat} (hs : s < e) (hl : ltr (B s)) {k : Nat} (hk : 4 ≤ k) (hk2 : k < 16) : spl T (kSp.getD k 0) s (s + rnl ltr B s) ↔ wvl B s (rnl ltr B s) = Int64.ofNat (WV.getD k 0) := by
  obtain ⟨q1, q2, q3⟩ := rnl_ok (P := ltr) m1_ltr (Nat.le_of_lt hs) (h.2 e (Nat.le_refl _))
  obtain ⟨v1, v2, v3, v4, v5, v6, v7⟩ := kv_all k hk2 hk
  have hn : 1 ≤ rnl ltr B s := (nx_l h hs hl).2.1
  have hTB : ∀ j, j < rnl ltr B s → T (s + j) = B (s + j) := fun j hj => h.eq (by omega) (Or.inl (q3 j hj))
  have hb : ∀ j, j < rnl ltr B s → 1 ≤ cn (B (s + j)) - 96 ∧ cn (B (s + j)) - 96 ≤ 26 := fun j hj => by have := ltr_n (q3 j hj); omega
  have hg : ∀ j, j < kLen.getD (kSp.getD k 0) 0 → 1 ≤ (wby k j).toNatClampNeg - 96 ∧ (wby k j).toNatClampNeg - 96 ≤ 26 := fun j hj => by have := ltr_n (v6 j hj); unfold cn at this; omega
  unfold spl
  rw [show s + rnl ltr B s - s = rnl ltr B s by omega]
  constructor
  · rintro ⟨a, b⟩
    rw [wvl_n _ (by omega) q3, ← v1, a]
    congr 1
    refine vf_cg _ (fun j hj => ?_)
    rw [← hTB j hj, b j hj]
    rfl
  · intro a
    by_cases z : rnl ltr B s ≤ 8
    · rw [wvl_n _ z q3] at a
      have hv := (vf_lt _ hb).1
      have hp : 32 ^ rnl ltr B s ≤ 32 ^ 8 := Nat.pow_le_pow_right (by decide) z
      have h8 : 32 ^ 8 = 1099511627776 := by decide
      have a2 := o64_inj (by omega) (by omega) a
      rw [← v1] at a2
      obtain ⟨w1, w2⟩ := vf_inj _ _ hb hg a2
      refine ⟨w1.symm, fun j hj => ?_⟩
      have x1 := ltr_n (q3 j hj)
      have x2 := ltr_n (v6 j (by omega))
      have x3 := w2 j hj
      rw [hTB j hj, x1.1]
      show nI (cn (B (s + j))) = wby k j
      rw [x2.1]
      congr 1
      have x4 : cn (wby k j) = (wby k j).toNatClampNeg := rfl
      omega
    · obtain ⟨n, hn2⟩ : ∃ n, rnl ltr B s = n + 1 := ⟨rnl ltr B s - 1, by omega⟩
      rw [hn2, wvl_f (by omega)] at a
      have := o64_inj (a := 0) (by decide) (by omega) a
      exact absurd this.symm v4
theorem kfi_l (h : TB T B e) {s : Nat} (hs : s < e) (hl : ltr (B s)) : (∀ k, 4 ≤ k → k < 16 → (kfi T s (s + rnl ltr B s) = k ↔ wvl B s (rnl ltr B s) = Int64.ofNat (WV.getD k 0))) ∧ (kfi T s (s + rnl ltr B s) = 1 ∨ 4 ≤ kfi T s (s + rnl ltr B s)) := by
  have hn : 1 ≤ rnl ltr B s := (nx_l h hs hl).2.1
  have no : ∀ k, k < 4 → ¬ spl T (kSp.getD k 0) s (s + rnl ltr B s) := by
    intro k hk z
    have z1 := z.1
    rw [show s + rnl ltr B s - s = rnl ltr B s by omega] at z1
    rcases (show k = 0 ∨ k = 1 ∨ k = 2 ∨ k = 3 by omega) with rfl | rfl | rfl | rfl
    · have : kLen.getD (kSp.getD 0 0) 0 = 0 := by decide
      omega
    · have : kLen.getD (kSp.getD 1 0) 0 = 0 := by decide
      omega
    · have y := z.2 0 (by omega)
      have w : (kByt.getD (kSp.getD 2 0) []).getD 0 0 = nI 59 := by decide
      rw [w] at y
      have u := ltr_n ((h.l hs).mpr hl)
      rw [show s + 0 = s by omega] at y
      rw [y] at u
      exact absurd u.2.1 (by decide)
    · have : kLen.getD (kSp.getD 3 0) 0 = 0 := by decide
      omega
  have one : ∀ k, k < 16 → spl T (kSp.getD k 0) s (s + rnl ltr B s) → 4 ≤ k := fun k hk z => by
    rcases Nat.lt_or_ge k 4 with y | y
    · exact absurd z (no k y)
    · exact y
  refine ⟨fun k hk hk2 => ?_, ?_⟩
  · constructor
    · intro z
      rw [← spl_iff h hs hl hk hk2]
      unfold kfi at z
      by_cases q : ∃ k, k < 16 ∧ spl T (kSp.getD k 0) s (s + rnl ltr B s)
      · rw [cI_t q] at z
        have := (lst_ok q).1
        rw [z] at this
        exact this.2
      · rw [cI_f q] at z
        omega
    · intro z
      have sp := (spl_iff h hs hl hk hk2).mpr z
      refine kfi_y hk2 sp (fun j hj y => ?_)
      have j4 := one j (by omega) y
      have y2 := (spl_iff h hs hl j4 (by omega)).mp y
      have b1 := (kv_all k hk2 hk).2.2.2.2.1
      have b2 := (kv_all j (by omega) j4).2.2.2.2.1
      have := WV_inj k hk2 j (by omega) hk j4 (o64_inj (by omega) (by omega) (z.symm.trans y2))
      omega
  · by_cases q : ∃ k, k < 16 ∧ spl T (kSp.getD k 0) s (s + rnl ltr B s)
    · right
      unfold kfi
      rw [cI_t q]
      have := (lst_ok q).1
      exact one _ this.1 this.2
    · left
      unfold kfi
      rw [cI_f q]
theorem kfi_o {s : Nat} : kfi T s (s + 1) = cI (T s = nI 59) 2 1 := by
  have w : (kByt.getD (kSp.getD 2 0) []).getD 0 0 = nI 59 := by decide
  have no : ∀ k, k < 16 → k ≠ 2 → ¬ spl T (kSp.getD k 0) s (s + 1) := by
    intro k hk h2 z
    have z1 := z.1
    rw [show s + 1 - s = 1 by omega] at z1
    have : ∀ k, k < 16 → k ≠ 2 → kLen.getD (kSp.getD k 0) 0 ≠ 1 := by decide +kernel
    exact this k hk h2 z1
  by_cases q : T s = nI 59
  · rw [cI_t q]
    refine kfi_y (by decide) ⟨?_, fun j hj => ?_⟩ (fun j hj => no j (by omega) (by omega))
    · rw [show s + 1 - s = 1 by omega]; decide
    · have : j = 0 := by omega
      subst this
      rw [w]
      exact q
  · rw [cI_f q]
    refine kfi_n (fun j hj z => ?_)
    by_cases y : j = 2
    · subst y
      have := z.2 0 (by omega)
      rw [w] at this
      exact q this
    · exact no j hj y z
theorem nmv_nvl (h : TB T B e) {s : Nat} : ∀ n, n ≤ 6 → s + n ≤ e → (∀ j, j < n → dgt (B (s + j))) → nmv T s n = nvl B s n := by
  intro n
  induction n with
  | zero => intro _ _ _; rfl
  | succ n ih =>
    intro hn he hd
    rw [nvl_t (by omega)]
    show nmv T s n * nI 10 + (T (s + n) - nI 48) = _
    rw [ih (by omega) (by omega) (fun j hj => hd j (by omega)), h.eq (k := s + n) (by omega) (Or.inr (hd n (by omega))), Int32.mul_comm, Int32.sub_eq_add_neg, Int32.sub_eq_add_neg, Int32.add_assoc]
end LEX2
