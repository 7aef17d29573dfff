/-! the reference reads a text -/
def mB (σ : St) (k : Nat) : Int32 := if k < rd σ 15 28 then σ.1 31 k else -1
def blk (b : Int32) : Prop := b = nI 32 ∨ b = nI 10
def ltr (b : Int32) : Prop := nI 97 ≤ b ∧ b ≤ nI 122
def dgt (b : Int32) : Prop := nI 48 ≤ b ∧ b ≤ nI 57
theorem mB_end {σ : St} {k : Nat} (h : rd σ 15 28 ≤ k) : mB σ k = -1 := if_neg (by omega)
theorem m1_blk : ¬ blk (-1) := by
  rintro (h | h)
  · exact absurd h (by decide)
  · exact absurd h (by decide)
theorem m1_ltr : ¬ ltr (-1) := fun h => absurd h.1 (by decide)
theorem m1_dgt : ¬ dgt (-1) := fun h => absurd h.1 (by decide)
/-- where the next token begins -/
noncomputable def skp (B : Nat → Int32) (t : Nat) : Nat := lst (fun s => t ≤ s ∧ ¬ blk (B s))
noncomputable def rnl (P : Int32 → Prop) (B : Nat → Int32) (s : Nat) : Nat := lst (fun m => ¬ P (B (s + m)))
noncomputable def msk (σ : St) : Nat := skp (mB σ) (rd σ 15 27)
theorem skp_ok {B : Nat → Int32} {t n : Nat} (hn : t ≤ n) (hB : B n = -1) : t ≤ skp B t ∧ skp B t ≤ n ∧ ¬ blk (B (skp B t)) ∧ ∀ j, t ≤ j → j < skp B t → blk (B j) := by
  have h : ∃ s, t ≤ s ∧ ¬ blk (B s) := ⟨n, hn, by rw [hB]; exact m1_blk⟩
  obtain ⟨⟨h1, h2⟩, h3⟩ := lst_ok h
  refine ⟨h1, ?_, h2, fun j a b => Classical.byContradiction fun z => h3 j b ⟨a, z⟩⟩
  rcases Nat.lt_or_ge n (lst fun s => t ≤ s ∧ ¬ blk (B s)) with q | q
  · exact absurd ⟨hn, by rw [hB]; exact m1_blk⟩ (h3 n q)
  · exact q
theorem rnl_ok {P : Int32 → Prop} {B : Nat → Int32} {s n : Nat} (hP : ¬ P (-1)) (hn : s ≤ n) (hB : B n = -1) : s + rnl P B s ≤ n ∧ ¬ P (B (s + rnl P B s)) ∧ ∀ j, j < rnl P B s → P (B (s + j)) := by
  have h0 : ¬ P (B (s + (n - s))) := by rw [show s + (n - s) = n by omega, hB]; exact hP
  have h : ∃ m, ¬ P (B (s + m)) := ⟨n - s, h0⟩
  obtain ⟨h2, h3⟩ := lst_ok h
  refine ⟨?_, h2, fun j b => Classical.byContradiction fun z => h3 j b z⟩
  rcases Nat.lt_or_ge (n - s) (lst fun m => ¬ P (B (s + m))) with q | q
  · exact absurd h0 (h3 _ q)
  · unfold rnl; omega
theorem uv_self {σ : St} {k j : Nat} {v : Int32} (h : σ.1 k j = v) : uv σ k j v = σ := by
  refine St_ext (fun a b => ?_) rfl
  rw [uv_ap]
  split
  · next q => obtain ⟨rfl, rfl⟩ := q; exact h.symm
  · rfl
theorem ul_1 (σ : St) (k j : Nat) (v : Int64) : (ul σ k j v).1 = σ.1 := rfl
theorem ul_c (σ : St) (k j : Nat) (v : Int64) (a b : Nat) : (ul σ k j v).1 a b = σ.1 a b := rfl
theorem ul_same (σ : St) (k j : Nat) (v : Int64) : (ul σ k j v).2.2 k j = v := by simp [ul, u2]
theorem ul_ul (σ : St) (k j : Nat) (a b : Int64) : ul (ul σ k j a) k j b = ul σ k j b := by
  obtain ⟨v, q, w⟩ := σ
  show (v, q, u2 (u2 w k j a) k j b) = (v, q, u2 w k j b)
  congr 2
  funext c d
  by_cases h1 : c = k
  · by_cases h2 : d = j
    · simp [u2, h1, h2]
    · simp [u2, h1, h2]
  · simp [u2, h1]
theorem rd_ul (σ : St) (k j : Nat) (v : Int64) (a b : Nat) : rd (ul σ k j v) a b = rd σ a b := rfl
theorem mB_cg {σ σ' : St} (h1 : σ'.1 15 28 = σ.1 15 28) (h2 : ∀ k, σ'.1 31 k = σ.1 31 k) (k : Nat) : mB σ' k = mB σ k := by
  unfold mB rd
  rw [h1, h2]
/-- the code of a word, the number of digits, as the reference computes them -/
def wvl (B : Nat → Int32) (s : Nat) : Nat → Int64
  | 0 => 0
  | m + 1 => if m < 8 then 32 * wvl B s m + (B (s + m)).toInt64 - 96 else 0
def nvl (B : Nat → Int32) (s : Nat) : Nat → Int32
  | 0 => nI 0
  | m + 1 => if m < 6 then nI 10 * nvl B s m + B (s + m) - nI 48 else nvl B s m
/-- the reading numbers are in their ranges -/
def PI (σ : St) : Prop := nb σ 15 27 900 ∧ nb σ 15 28 900 ∧ nb σ 15 30 900 ∧ rd σ 15 27 ≤ rd σ 15 28
noncomputable def mpk (σ : St) : St := uv (uv σ 15 27 (nI (msk σ))) 15 30 (nI (msk σ))
theorem PI.sk {σ : St} (h : PI σ) : rd σ 15 27 ≤ msk σ ∧ msk σ ≤ rd σ 15 28 ∧ ¬ blk (mB σ (msk σ)) ∧ ∀ j, rd σ 15 27 ≤ j → j < msk σ → blk (mB σ j) := skp_ok h.2.2.2 (mB_end (Nat.le_refl _))
def mfl (σ : St) (c : Int32) (n : Int32) : St := uv (uv σ 15 32 c) 15 33 n
def pW (σ : St) : Prop := ltr (mB σ (msk σ)) ∧ ¬ nI (msk σ) = σ.1 15 29
noncomputable def mwl (σ : St) : Nat := rnl ltr (mB σ) (msk σ)
noncomputable def sW1 (σ : St) : St := uv (uv (ul (mpk σ) 15 34 (wvl (mB σ) (msk σ) (mwl σ))) 15 27 (nI (msk σ + mwl σ))) 15 29 (nI (msk σ + mwl σ))
noncomputable def sW (σ : St) : St := cI (pW σ) (sW1 σ) (mfl (mpk σ) (nI 1) (nI (msk σ)))
noncomputable def mnl (σ : St) : Nat := rnl dgt (mB σ) (msk σ)
def pN0 (σ : St) : Prop := dgt (mB σ (msk σ)) ∧ ¬ nI (msk σ) = σ.1 15 29
noncomputable def mnv (σ : St) : Int32 := nvl (mB σ) (msk σ) (mnl σ)
def pN (σ : St) (lo hi : Int32) : Prop := pN0 σ ∧ mnl σ ≤ 6 ∧ lo ≤ mnv σ ∧ mnv σ ≤ hi
noncomputable def sN1 (σ : St) : St := uv (mpk σ) 15 31 (mnv σ)
noncomputable def sN (σ : St) (lo hi : Int32) : St := cI (pN0 σ) (cI (mnl σ ≤ 6) (cI (lo ≤ mnv σ ∧ mnv σ ≤ hi) (uv (uv (sN1 σ) 15 27 (nI (msk σ + mnl σ))) 15 29 (nI (msk σ + mnl σ))) (mfl (sN1 σ) (nI 2) (nI (msk σ)))) (mfl (sN1 σ) (nI 1) (nI (msk σ)))) (mfl (mpk σ) (nI 1) (nI (msk σ)))
def pS (σ : St) : Prop := mB σ (msk σ) = nI 59
noncomputable def sS (σ : St) : St := cI (pS σ) (uv (uv (mpk σ) 15 27 (nI (msk σ + 1))) 15 29 (-1)) (mfl (mpk σ) (nI 1) (nI (msk σ)))
section LC
variable {x : Ctx} {g : Lay} {z0 nL n1 n2 h : Nat} {Q : State → Prop} {σ : St} {pc : Nat} {lv lv' : List (Nat × Value)} {st : List Value} {own : String} {cc : ByteArray} {ret : Option FieldType}
theorem lg_0 {a b : Int64} : lg_cmp a b = 0 ↔ a = b := by
  unfold lg_cmp
  constructor
  · intro q
    split at q
    · exact absurd q (by decide)
    · split at q
      · assumption
      · exact absurd q (by decide)
  · rintro rfl
    have h : ¬ a > a := by
      intro z
      have := Int64.lt_iff_toInt_lt.mp z
      omega
    rw [if_neg h, if_pos rfl]
theorem g_lcmp {pc' : Nat} {a b : Int64} (hC : Cx x own cc nL ret h g z0) (hd : decode cc pc = .ok (.lcmp, 1)) (hp : pc + 1 = pc') (k : GG x g z0 nL n1 n2 Q σ pc' lv (.int (lg_cmp a b) :: st)) : GG x g z0 nL n1 n2 Q σ pc lv (.long b :: .long a :: st) := fun H locs ls hP hS hl => W.lcmp hC.1 hC.2.1 hd (hp ▸ k H locs ls hP hS hl)
theorem c_if_eq {pc' tgt : Nat} {off : Int} {a b : Int64} (hC : Cx x own cc nL ret h g z0) (hd : decode cc pc = .ok (.ifCond .eq off, 3)) (ht : (pc : Int) + off = (tgt : Int)) (hp : pc + 3 = pc') (kt : a = b → GG x g z0 nL n1 n2 Q σ tgt lv st) (kf : ¬ a = b → GG x g z0 nL n1 n2 Q σ pc' lv st) : GG x g z0 nL n1 n2 Q σ pc lv (.int (lg_cmp a b) :: st) := g_if_eq hC hd ht hp (fun q => kt (lg_0.mp q)) (fun q => kf (fun e => q (lg_0.mpr e)))
theorem c_if_ne {pc' tgt : Nat} {off : Int} {a b : Int64} (hC : Cx x own cc nL ret h g z0) (hd : decode cc pc = .ok (.ifCond .ne off, 3)) (ht : (pc : Int) + off = (tgt : Int)) (hp : pc + 3 = pc') (kt : ¬ a = b → GG x g z0 nL n1 n2 Q σ tgt lv st) (kf : a = b → GG x g z0 nL n1 n2 Q σ pc' lv st) : GG x g z0 nL n1 n2 Q σ pc lv (.int (lg_cmp a b) :: st) := g_if_ne hC hd ht hp (fun q => kt (fun e => q (lg_0.mpr e))) (fun q => kf (lg_0.mp q))
end LC
theorem mB_in {σ : St} {k : Nat} (h : ¬ mB σ k = -1) : k < rd σ 15 28 := by
  rcases Nat.lt_or_ge k (rd σ 15 28) with q | q
  · exact q
  · exact absurd (mB_end q) h
theorem blk_ne {b : Int32} (h : blk b) : ¬ b = -1 := fun e => m1_blk (e ▸ h)
theorem ltr_ne {b : Int32} (h : ltr b) : ¬ b = -1 := fun e => m1_ltr (e ▸ h)
theorem dgt_ne {b : Int32} (h : dgt b) : ¬ b = -1 := fun e => m1_dgt (e ▸ h)
theorem mB_mpk (σ : St) (k : Nat) : mB (mpk σ) k = mB σ k := mB_cg ((uv_idx _ _ _ _ (by decide)).trans (uv_idx _ _ _ _ (by decide))) (fun k => (uv_cell _ _ _ _ (by decide)).trans (uv_cell _ _ _ _ (by decide))) k
theorem PI_of {σ : St} {t e k : Nat} (h1 : σ.1 15 27 = nI t) (h2 : σ.1 15 28 = nI e) (h3 : σ.1 15 30 = nI k) (ht : t ≤ e) (he : e ≤ 900) (hk : k ≤ 900) : PI σ := by
  have a := nb_of (m := 900) h1 (by omega) (by decide)
  have b := nb_of (m := 900) h2 he (by decide)
  have c := nb_of (m := 900) h3 hk (by decide)
  exact ⟨a.1, b.1, c.1, by rw [a.2, b.2]; exact ht⟩
theorem PI_mpk {σ : St} (h : PI σ) : PI (mpk σ) := by
  have h1 := h.sk
  have h2 := h.2.1.2
  refine PI_of (t := msk σ) (e := rd σ 15 28) (k := msk σ) ?_ ?_ (uv_same _ _ _ _) h1.2.1 h2 (by omega)
  · exact (uv_idx _ _ _ _ (by decide)).trans (uv_same _ _ _ _)
  · exact (uv_idx _ _ _ _ (by decide)).trans ((uv_idx _ _ _ _ (by decide)).trans h.2.1.1)
theorem rd28_mpk (σ : St) : rd (mpk σ) 15 28 = rd σ 15 28 := (rd_idx _ _ _ _ (by decide)).trans (rd_idx _ _ _ _ (by decide))
theorem wvl_t {B : Nat → Int32} {s m : Nat} (h : m < 8) : wvl B s (m + 1) = 32 * wvl B s m + (B (s + m)).toInt64 - 96 := if_pos h
theorem wvl_f {B : Nat → Int32} {s m : Nat} (h : 8 ≤ m) : wvl B s (m + 1) = 0 := if_neg (by omega)
theorem nvl_t {B : Nat → Int32} {s m : Nat} (h : m < 6) : nvl B s (m + 1) = nI 10 * nvl B s m + B (s + m) - nI 48 := if_pos h
theorem nvl_f {B : Nat → Int32} {s m : Nat} (h : 6 ≤ m) : nvl B s (m + 1) = nvl B s m := if_neg (by omega)
theorem sW_t {σ : St} (h : pW σ) : sW σ = sW1 σ := cI_t h
theorem sW_tok {σ : St} (h : pW σ) : (sW σ).1 15 30 = nI (msk σ) := by
  rw [sW_t h]
  exact (uv_idx _ _ _ _ (by decide)).trans ((uv_idx _ _ _ _ (by decide)).trans (uv_same (uv σ 15 27 (nI (msk σ))) 15 30 (nI (msk σ))))
def pT (σ : St) (w : Int64) : Prop := pW σ ∧ (sW σ).2.2 15 34 = w
noncomputable def sT (σ : St) (w : Int64) : St := cI (pW σ) (cI ((sW σ).2.2 15 34 = w) (sW σ) (mfl (sW σ) (nI 1) (nI (msk σ)))) (sW σ)
