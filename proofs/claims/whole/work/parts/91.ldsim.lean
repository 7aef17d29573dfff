/-! the whole invariant; a service is loaded -/
section LD
variable {c m : St}
def Inv (c m : St) : Prop := IV c m ∧ TX c m ∧ c.1 0 2 = m.1 15 26 ∧ c.1 0 3 = m.1 15 5 ∧ (c.1 1 7 = m.1 15 32 ∧ c.1 1 8 = m.1 15 33) ∧ nb m 15 30 900
theorem IV.cg {c' : St} (h : IV c m) (e : ∀ a b, 8 ≤ a → a ≤ 107 → ¬ (15 ≤ a ∧ a ≤ 33) → (a = 8 → 4 ≤ b) → c'.1 a b = c.1 a b) : IV c' m := ⟨h.1.same e (fun _ _ _ _ _ => rfl), h.2⟩
theorem IV.mg {m' : St} (h : IV c m) (e : ∀ a b, 15 ≤ a → a ≤ 30 → (a = 15 → b < 27) → m'.1 a b = m.1 a b) : IV c m' := by
  have e1 : rd m' 15 1 = rd m 15 1 := rd_eq (e 15 1 (by omega) (by omega) (by omega))
  obtain ⟨h1, h2, h3, h4⟩ := h
  refine ⟨?_, MJ_fr h2 e, (MAV h3 h4 (fun a x q => e a x (by omega) (by omega) (by omega))).1, (MAV h3 h4 (fun a x q => e a x (by omega) (by omega) (by omega))).2⟩
  rw [e1]
  exact h1.same (fun _ _ _ _ _ _ => rfl) (fun a x q1 q2 q3 => e a x q1 q2 (by omega))
theorem Inv.cg {c' : St} (h : Inv c m) (e : ∀ a b, a < 15 ∨ 33 < a → c'.1 a b = c.1 a b) : Inv c' m :=
  ⟨h.1.cg (fun a b _ _ _ _ => e a b (by omega)), fun k hk => by rw [e 3 k (by omega)]; exact h.2.1 k hk, (e _ _ (by omega)).trans h.2.2.1, (e _ _ (by omega)).trans h.2.2.2.1, ⟨(e _ _ (by omega)).trans h.2.2.2.2.1.1, (e _ _ (by omega)).trans h.2.2.2.2.1.2⟩, h.2.2.2.2.2⟩
theorem Inv.mg {m' : St} (h : Inv c m) (e : ∀ a b, 15 ≤ a → a ≤ 32 → m'.1 a b = m.1 a b) : Inv c m' :=
  ⟨h.1.mg (fun a b _ _ _ => e a b (by omega) (by omega)), fun k hk => by rw [e 31 k (by omega) (by omega)]; exact h.2.1 k hk, h.2.2.1.trans (e _ _ (by omega) (by omega)).symm, h.2.2.2.1.trans (e _ _ (by omega) (by omega)).symm, ⟨h.2.2.2.2.1.1.trans (e _ _ (by omega) (by omega)).symm, h.2.2.2.2.1.2.trans (e _ _ (by omega) (by omega)).symm⟩, nb_cg (e _ _ (by omega) (by omega)) h.2.2.2.2.2 h.2.2.2.2.2.2⟩
theorem nb_cgm {k j k' j' n : Nat} (h : c.1 k j = m.1 k' j') (hn : nb m k' j' n) : nb c k j n := by
  have e : rd c k j = rd m k' j' := by unfold rd; rw [h]
  refine ⟨?_, by rw [e]; exact hn.2⟩
  rw [h, e]; exact hn.1
theorem IV.ci (h : IV c m) : CI c ∧ CS c := by
  obtain ⟨hS, ⟨hM, hms⟩, -, -⟩ := h
  obtain ⟨⟨a1, a2, a3, a4, a5⟩, ⟨b1, b2, b3⟩, c1, c2, c3, c4, z, c5⟩ := hM
  refine ⟨⟨fun b hb => ⟨nb_cgm (hS.len hb) (c1 b hb), hS.2 b hb⟩, fun q hq => ⟨nb_cgm (hS.pos hq) (c2 q hq).2, nb_cgm (hS.see hq) (c2 q hq).1, by rw [hS.sus hq]; exact c5 q hq⟩, ⟨nb_cgm hS.nbl b2, nb_cgm hS.nps b1⟩, fun k hk => ?_, nb_cgm hS.ncl a1, nb_cgm hS.nbk a2, nb_cgm hS.nbr a4⟩, fun q hq => ?_⟩
  · have := hS.pst (k := k * 4 + 1) (by omega)
    rw [show k * 4 + 1 = 4 * k + 1 by omega] at this ⊢
    exact nb_cgm this (c3 k hk)
  · have h6 := a1.2
    rw [hS.rcl] at hq
    rw [hS.rsee (by omega), hS.rbr]
    exact hms q hq
theorem cbc_ap (σ : St) (q a x : Nat) : (cbc σ q).1 a x = if (a = 90 + 3 * q ∧ 2 ≤ x ∧ x ≤ 5) ∨ (a = 90 + 3 * q + 2 ∧ x < 6) then nI 0 else if a = 90 + 3 * q + 1 ∧ x = 0 then nI 1 else σ.1 a x := by
  unfold cbc
  rw [uv_ap, uv_ap, uv_ap, uv_ap, ur_ap, uv_ap]
  by_cases h1 : (a = 90 + 3 * q ∧ 2 ≤ x ∧ x ≤ 5) ∨ (a = 90 + 3 * q + 2 ∧ x < 6)
  · rw [if_pos h1]
    rcases h1 with h1 | h1
    · by_cases x5 : x = 5
      · rw [if_pos (by omega)]
      · rw [if_neg (by omega)]
        by_cases x4 : x = 4
        · rw [if_pos (by omega)]
        · rw [if_neg (by omega)]
          by_cases x3 : x = 3
          · rw [if_pos (by omega)]
          · rw [if_neg (by omega), if_pos (by omega)]
    · rw [if_neg (by omega), if_neg (by omega), if_neg (by omega), if_neg (by omega), if_pos h1.1]
      exact if_pos h1.2
  · rw [if_neg h1, if_neg (by omega), if_neg (by omega), if_neg (by omega), if_neg (by omega)]
    by_cases h2 : a = 90 + 3 * q + 2
    · rw [if_pos h2, if_neg (by omega)]
      subst h2
      exact if_neg (by omega)
    · rw [if_neg h2]
theorem cbg_ap (σ : St) : ∀ i a x, (cbg σ i).1 a x = if 90 ≤ a ∧ a < 90 + 3 * i ∧ ((a % 3 = 0 ∧ 2 ≤ x ∧ x ≤ 5) ∨ (a % 3 = 2 ∧ x < 6)) then nI 0 else if 90 ≤ a ∧ a < 90 + 3 * i ∧ a % 3 = 1 ∧ x = 0 then nI 1 else σ.1 a x := by
  intro i
  induction i with
  | zero => intro a x; rw [if_neg (by omega), if_neg (by omega)]; rfl
  | succ i ih =>
    intro a x
    show (cbc (cbg σ i) i).1 a x = _
    rw [cbc_ap, ih]
    by_cases h1 : (a = 90 + 3 * i ∧ 2 ≤ x ∧ x ≤ 5) ∨ (a = 90 + 3 * i + 2 ∧ x < 6)
    · rw [if_pos h1, if_pos (by omega)]
    · rw [if_neg h1]
      by_cases h2 : a = 90 + 3 * i + 1 ∧ x = 0
      · rw [if_pos h2, if_neg (by omega), if_pos (by omega)]
      · rw [if_neg h2]
        by_cases h3 : 90 ≤ a ∧ a < 90 + 3 * i ∧ ((a % 3 = 0 ∧ 2 ≤ x ∧ x ≤ 5) ∨ (a % 3 = 2 ∧ x < 6))
        · rw [if_pos h3, if_pos (by omega)]
        · rw [if_neg h3, if_neg (show ¬ (90 ≤ a ∧ a < 90 + 3 * (i + 1) ∧ ((a % 3 = 0 ∧ 2 ≤ x ∧ x ≤ 5) ∨ (a % 3 = 2 ∧ x < 6))) by omega)]
          by_cases h4 : 90 ≤ a ∧ a < 90 + 3 * i ∧ a % 3 = 1 ∧ x = 0
          · rw [if_pos h4, if_pos (by omega)]
          · rw [if_neg h4, if_neg (by omega)]
theorem mst_ap {σ : St} (h0 : rd (mst0 σ) 16 0 = 0) : ∀ i a x, (mst σ i).1 a x = if ((a = 23 ∨ a = 24 ∨ a = 25 ∨ a = 28) ∧ x < i) ∨ (a = 26 ∧ x < 6 * i) then nI 0 else if a = 27 ∧ x < 201 * i ∧ x % 201 = 0 then nI 1 else (mst0 σ).1 a x := by
  intro i
  induction i with
  | zero => intro a x; rw [if_neg (by omega), if_neg (by omega)]; rfl
  | succ i ih =>
    intro a x
    have e0 : rd (uv (uv (uv (mst σ i) 23 i (nI 0)) 25 i (nI 0)) 28 i (nI 0)) 16 0 = 0 := by
      rw [rd_uv (by decide), rd_uv (by decide), rd_uv (by decide)]
      refine (rd_eq ?_).trans h0
      rw [ih, if_neg (by omega), if_neg (by omega)]
    show (mtk (uv (uv (uv (mst σ i) 23 i (nI 0)) 25 i (nI 0)) 28 i (nI 0)) i 0).1 a x = _
    unfold mtk
    rw [e0, ur_ap, ur_ap, uv_ap, uv_ap, uv_ap, uv_ap, ih]
    by_cases h27 : a = 27
    · subst h27
      rw [if_pos rfl, if_neg (by omega)]
      unfold hi
      by_cases z : x = 201 * i
      · rw [if_pos (by omega), if_pos (by omega)]
        show (if x - 201 * i = 0 then nI 1 else _) = nI 1
        exact if_pos (by omega)
      · rw [if_neg (by omega), uv_cell _ _ _ _ (by decide), uv_cell _ _ _ _ (by decide), uv_cell _ _ _ _ (by decide), ih, if_neg (by omega)]
        by_cases y : x < 201 * i ∧ x % 201 = 0
        · rw [if_pos (by omega), if_pos (by omega)]
        · rw [if_neg (by omega), if_neg (by omega)]
    · rw [if_neg h27]
      by_cases h26 : a = 26
      · subst h26
        rw [if_pos rfl]
        unfold vcn
        by_cases z : 6 * i ≤ x ∧ x < 6 * i + 6
        · rw [if_pos z, if_pos (by omega)]
          rfl
        · rw [if_neg z, uv_cell _ _ _ _ (by decide), uv_cell _ _ _ _ (by decide), uv_cell _ _ _ _ (by decide), ih]
          by_cases y : x < 6 * i
          · rw [if_pos (by omega), if_pos (by omega)]
          · rw [if_neg (by omega), if_neg (by omega), if_neg (by omega), if_neg (by omega)]
      · rw [if_neg h26]
        by_cases z : (a = 23 ∨ a = 24 ∨ a = 25 ∨ a = 28) ∧ x = i
        · rw [if_pos (show ((a = 23 ∨ a = 24 ∨ a = 25 ∨ a = 28) ∧ x < i + 1) ∨ (a = 26 ∧ x < 6 * (i + 1)) by omega)]
          by_cases y : a = 24
          · rw [if_pos (by omega)]
          · rw [if_neg (by omega)]
            by_cases y : a = 28
            · rw [if_pos (by omega)]
            · rw [if_neg (by omega)]
              by_cases y : a = 25
              · rw [if_pos (by omega)]
              · rw [if_neg (by omega), if_pos (by omega)]
        · rw [if_neg (by omega), if_neg (by omega), if_neg (by omega), if_neg (by omega)]
          by_cases y : (a = 23 ∨ a = 24 ∨ a = 25 ∨ a = 28) ∧ x < i
          · rw [if_pos (by omega), if_pos (by omega)]
          · rw [if_neg (by omega), if_neg (by omega), if_neg (by omega), if_neg (by omega)]
end LD
