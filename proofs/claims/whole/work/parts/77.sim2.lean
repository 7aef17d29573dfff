/-! what an operation finds, and the blame -/
theorem caseF_cg {len p : Nat} {df bad wit df' bad' wit' : Nat → Prop} (h1 : p ≤ len → (df p ↔ df' p)) (h2 : ∀ n, p < n → n ≤ len → (bad n ↔ bad' n)) (h3 : ∀ k, wit k ↔ wit' k) : caseF len p df bad wit = caseF len p df' bad' wit' := by
  unfold caseF
  by_cases q : len < p
  · rw [cI_t q, cI_t q]
  · rw [cI_f q, cI_f q]
    have e := h1 (by omega)
    by_cases q2 : df p
    · rw [cI_t q2, cI_t (e.mp q2)]
    · rw [cI_f q2, cI_f (fun z => q2 (e.mpr z))]
      by_cases q3 : ∃ n, p < n ∧ n ≤ len ∧ bad n
      · rw [cI_t q3, cI_t (q3.imp fun n z => ⟨z.1, z.2.1, (h2 n z.1 z.2.1).mp z.2.2⟩)]
      · have q3' : ¬ ∃ n, p < n ∧ n ≤ len ∧ bad' n := fun ⟨n, z⟩ => q3 ⟨n, z.1, z.2.1, (h2 n z.1 z.2.1).mpr z.2.2⟩
        rw [cI_f q3, cI_f q3']
        by_cases q4 : ∃ k, wit k
        · have q4' : ∃ k, wit' k := q4.imp fun k z => (h3 k).mp z
          rw [cI_t q4, cI_t q4']
        · have q4' : ¬ ∃ k, wit' k := fun ⟨k, z⟩ => q4 ⟨k, (h3 k).mpr z⟩
          rw [cI_f q4, cI_f q4']
theorem caseF_inv (len p : Nat) (df bad wit : Nat → Prop) : (len < p ∧ caseF len p df bad wit = 1 ∧ atF len p df bad wit = p) ∨ (p ≤ len ∧ df p ∧ caseF len p df bad wit = 2 ∧ atF len p df bad wit = lst df) ∨
    (p ≤ len ∧ ¬ df p ∧ (∃ n, p < n ∧ n ≤ len ∧ bad n) ∧ caseF len p df bad wit = 3 ∧ atF len p df bad wit = lst (fun n => p < n ∧ n ≤ len ∧ bad n)) ∨ (p ≤ len ∧ ¬ df p ∧ (¬ ∃ n, p < n ∧ n ≤ len ∧ bad n) ∧ (∃ k, wit k) ∧ caseF len p df bad wit = 4 ∧ atF len p df bad wit = lst wit) ∨ caseF len p df bad wit = 0 := by
  unfold caseF atF
  by_cases q : len < p
  · rw [cI_t q, cI_t q]; exact Or.inl ⟨q, rfl, rfl⟩
  · rw [cI_f q, cI_f q]
    by_cases q2 : df p
    · rw [cI_t q2, cI_t q2]; exact Or.inr (Or.inl ⟨by omega, q2, rfl, rfl⟩)
    · rw [cI_f q2, cI_f q2]
      by_cases q3 : ∃ n, p < n ∧ n ≤ len ∧ bad n
      · rw [cI_t q3, cI_t q3]; exact Or.inr (Or.inr (Or.inl ⟨by omega, q2, q3, rfl, rfl⟩))
      · rw [cI_f q3, cI_f q3]
        by_cases q4 : ∃ k, wit k
        · rw [cI_t q4, cI_t q4]; exact Or.inr (Or.inr (Or.inr (Or.inl ⟨by omega, q2, q3, q4, rfl, rfl⟩)))
        · rw [cI_f q4]; exact Or.inr (Or.inr (Or.inr (Or.inr rfl)))
section SIM2
variable {p : Prop} {c m : St}
theorem Sim.rp14 (h : Sim p c m) {k : Nat} (hk : k < 40) : rd c 14 (k * 4 + 1) = rd m 29 (4 * k + 1) := by
  unfold rd
  rw [h.pst (by omega), show k * 4 + 1 = 4 * k + 1 by omega]
theorem Sim.wit (h : Sim p c m) (hM : MI m) {b : Nat} (hb : b < 8) (k : Nat) : cwt c b k ↔ mwit m b k := by
  have hp := hM.posts.2
  unfold cwt mwit
  rw [h.rps, h.rlen hb]
  constructor
  · rintro ⟨a1, a2, a3⟩
    have hk : k < 40 := by omega
    rw [h.rp14 hk] at a2 a3
    have hl := (hM.len hb).2
    rw [h.has hb (by omega), h.pst (by omega), show k * 4 + 2 = 4 * k + 2 by omega] at a3
    exact ⟨a1, a2, Ne.symm a3⟩
  · rintro ⟨a1, a2, a3⟩
    have hk : k < 40 := by omega
    have hl := (hM.len hb).2
    rw [h.rp14 hk, h.has hb (by omega), h.pst (by omega), show k * 4 + 2 = 4 * k + 2 by omega]
    exact ⟨a1, a2, Ne.symm a3⟩
theorem Sim.fc (h : Sim p c m) (hM : MI m) (hV : MV m) {q : Nat} (hq : q < 6) : cfc c q = mfc m q := by
  have hs := (hM.see hq).2
  have hl := (hM.len (b := rd m 23 q) (by omega)).2
  have hp := (hM.pos hq).2
  unfold cfc mfc
  rw [h.rsee hq, h.rlen (by omega), h.rpos hq]
  refine caseF_cg (fun _ => ?_) (fun n h1 h2 => ?_) (fun k => h.wit hM (by omega) k)
  · unfold cdf mdf
    rw [h.rsee hq, h.has (by omega) hp, h.his hq hp]
  · unfold cbd mbad
    rw [h.cmp hV (by omega) (by omega) (by omega), h.has (by omega) (by omega)]
theorem Sim.bv (h : Sim p c m) (hM : MI m) (hV : MV m) {q : Nat} (hq : q < 6) (h0 : mfc m q ≠ 0) : Sim p (uv (cbv c q) (90 + 3 * q) 5 (nI 1)) (msus (mo1 m q) q (mfc m q)) := by
  have hs := (hM.see hq).2
  have hl := (hM.len (b := rd m 23 q) (by omega)).2
  have hp := (hM.pos hq).2
  have hpo := hM.posts.2
  have hfc := h.fc hM hV hq
  have h1 : Sim p c (mo1 m q) := h.m15 _ (by omega)
  have hB : nb (mo1 m q) 15 22 60 := nb_cg (uv_idx _ _ _ _ (by decide)) hM.2.1.2.1 hM.2.1.2.1.2
  have o1 : ∀ a x, ¬ (a = 15 ∧ x = 24) → (mo1 m q).1 a x = m.1 a x := fun a x z => by unfold mo1; rw [uv_ap, if_neg z]
  have r1 : ∀ a x, ¬ (a = 15 ∧ x = 24) → rd (mo1 m q) a x = rd m a x := fun a x z => by unfold rd; rw [o1 a x z]
  have hmh : ∀ b n, mh (mo1 m q) b n = mh m b n := fun b n => by unfold mh; rw [o1 _ _ (by omega)]
  have hmc : ∀ b n, mcomp (mo1 m q) b n = mcomp m b n := fun b n => by unfold mcomp; rw [hmh, o1 _ _ (by omega), o1 _ _ (by omega), o1 _ _ (by omega), o1 _ _ (by omega), o1 _ _ (by omega)]
  unfold msus cbv
  rw [hfc]
  refine Sim.put ?_ _ (Cor.sus hq)
  have hat : ∀ n, mfa m q = n → n < 2 ^ 31 → rd (mo1 m q) 15 24 = n := fun n e hn => by
    unfold mo1
    rw [e]
    exact (nb_of (m := n) (uv_same _ _ _ _) (Nat.le_refl _) hn).2
  rcases caseF_inv (rd m 16 (rd m 23 q)) (rd m 24 q) (mdf m q) (mbad m (rd m 23 q)) (mwit m (rd m 23 q)) with ⟨a1, a2, a3⟩ | ⟨a1, a2, a3, a4⟩ | ⟨a1, a2, a3, a4, a5⟩ | ⟨a1, a2, a3, a4, a5, a6⟩ | a1
  · have e : mfc m q = 1 := a2
    rw [e, if_pos rfl, if_pos rfl, hat _ a3 (by omega), r1 _ _ (by omega), r1 _ _ (by omega), o1 _ _ (by omega), hmh, h.rpos hq, h.rsee hq, h.rlen (by omega), h.his hq hp, h.has (by omega) hl]
    exact h1.blm hB _ _ _ _ _ _
  · have e : mfc m q = 2 := a3
    obtain ⟨l1, l2⟩ := lst_ok (P := mdf m q) ⟨_, a2⟩
    have l3 : lst (mdf m q) ≤ rd m 24 q := by
      rcases Nat.lt_or_ge (rd m 24 q) (lst (mdf m q)) with z | z
      · exact absurd a2 (l2 _ z)
      · exact z
    have ek : ca2 c q = lst (mdf m q) := by
      unfold ca2
      rw [h.rpos hq, h.rsee hq]
      have e2 : fdf (c.1 (90 + 3 * q + 1)) (c.1 (34 + 7 * rd m 23 q + 6)) (rd m 24 q) = lst (mdf m q) := by
        refine lst_eq (Or.inr ?_) (fun j hj z => ?_)
        · rw [h.his hq (by omega), h.has (by omega) (by omega)]
          exact Ne.symm l1
        · rcases z with z | z
          · omega
          · rw [h.his hq (by omega), h.has (by omega) (by omega)] at z
            exact l2 j hj (Ne.symm z)
      rw [e2]
      omega
    rw [e, if_neg (by decide), if_pos rfl, if_neg (by decide), if_pos rfl, hat _ a4 (by omega), r1 _ _ (by omega), o1 _ _ (by omega), hmh, ek, h.rsee hq, h.his hq (by omega), h.has (by omega) (by omega)]
    exact h1.blm hB _ _ _ _ _ _
  · have e : mfc m q = 3 := a4
    obtain ⟨l1, l2⟩ := lst_ok (P := fun n => rd m 24 q < n ∧ n ≤ rd m 16 (rd m 23 q) ∧ mbad m (rd m 23 q) n) a3
    have ek : ca3 c q = lst (fun n => rd m 24 q < n ∧ n ≤ rd m 16 (rd m 23 q) ∧ mbad m (rd m 23 q) n) := by
      unfold ca3
      rw [h.rpos hq, h.rsee hq, h.rlen (by omega)]
      have e2 : cun c (rd m 23 q) (rd m 24 q) = lst (fun n => rd m 24 q < n ∧ n ≤ rd m 16 (rd m 23 q) ∧ mbad m (rd m 23 q) n) := by
        refine lst_eq ⟨l1.1, Or.inr ?_⟩ (fun j hj z => ?_)
        · rw [h.has (by omega) (by omega), h.cmp hV (by omega) (by omega) (by omega)]
          exact Ne.symm l1.2.2
        · rw [h.rlen (by omega)] at z
          rcases z.2 with y | y
          · omega
          · refine l2 j hj ⟨z.1, by omega, ?_⟩
            rw [h.has (by omega) (by omega), h.cmp hV (by omega) (by omega) (by omega)] at y
            exact Ne.symm y
      rw [e2]
      have := l1.2.1
      omega
    have l4 := l1.2.1
    have l5 := l1.1
    rw [e, if_neg (by decide), if_neg (by decide), if_pos rfl, if_neg (by decide), if_neg (by decide), if_pos rfl, hat _ a5 (by omega), r1 _ _ (by omega), hmh, hmc, ek, h.rsee hq, h.cmp hV (by omega) (by omega) (by omega), h.has (by omega) (by omega)]
    exact h1.blm hB _ _ _ _ _ _
  · have e : mfc m q = 4 := a5
    obtain ⟨l1, l2⟩ := lst_ok (P := mwit m (rd m 23 q)) a4
    have hk : lst (mwit m (rd m 23 q)) < 40 := by have := l1.1; omega
    have ek : cfr c (rd m 23 q) = lst (mwit m (rd m 23 q)) := by
      refine lst_eq (Or.inr ((h.wit hM (by omega) _).mpr l1)) (fun j hj z => ?_)
      rcases z with z | z
      · have := l1.1
        rw [h.rps] at z
        omega
      · exact l2 j hj ((h.wit hM (by omega) _).mp z)
    have l3 := l1.2.1
    have ek4 : ca4 c q = rd m 29 (4 * lst (mwit m (rd m 23 q)) + 1) := by
      unfold ca4
      rw [h.rsee hq, ek, h.rp14 hk, h.rlen (by omega)]
      omega
    rw [e, if_neg (by decide), if_neg (by decide), if_neg (by decide), if_neg (by decide), if_neg (by decide), if_neg (by decide), hat _ a6 (by omega), r1 _ _ (by omega), r1 _ _ (by omega), o1 _ _ (by omega), o1 _ _ (by omega), hmh, ek4, h.rsee hq, ek, h.has (by omega) (by omega), h.pst (by omega), h.pst (by omega), show lst (mwit m (rd m 23 q)) * 4 + 0 = 4 * lst (mwit m (rd m 23 q)) by omega, show lst (mwit m (rd m 23 q)) * 4 + 2 = 4 * lst (mwit m (rd m 23 q)) + 2 by omega]
    exact h1.blm hB _ _ _ _ _ _
  · exact absurd a1 h0
end SIM2
