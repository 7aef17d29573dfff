/-! load, the class's and the reference's -/
section LD2
variable {c m : St}
theorem csv_ap (σ : St) (A B D : Int32) (a x : Nat) : (csv σ A B D).1 a x = if a = 8 ∧ x = 8 then nI 1 else if a = 13 ∧ x = 3 then nI 0 else if a = 11 ∧ x = 3 then nI 0 else if 90 ≤ a ∧ a < 108 ∧ ((a % 3 = 0 ∧ 2 ≤ x ∧ x ≤ 5) ∨ (a % 3 = 2 ∧ x < 6)) then nI 0 else if 90 ≤ a ∧ a < 108 ∧ a % 3 = 1 ∧ x = 0 then nI 1 else if a = 34 ∧ x = 6 then nI 0 else if a = 8 ∧ x = 6 then nI 1 else if a = 8 ∧ x = 7 then D else if a = 8 ∧ x = 5 then B else if a = 8 ∧ x = 4 then A else σ.1 a x := by
  unfold csv
  rw [uv_ap, uv_ap, uv_ap, cbg_ap]
  unfold csv0
  rw [uv_ap, uv_ap, uv_ap, uv_ap, uv_ap]
theorem mst0_ap (σ : St) (a x : Nat) : (mst0 (mset σ)).1 a x = if a = 15 ∧ x = 23 then nI 1 else if a = 15 ∧ x = 22 then nI 0 else if a = 15 ∧ x = 21 then nI 0 else if a = 16 ∧ x = 0 then nI 0 else if a = 15 ∧ x = 5 then nI 0 else if a = 15 ∧ x = 4 then nI 1 else if a = 15 ∧ x = 3 then σ.1 15 37 else if a = 15 ∧ x = 2 then σ.1 15 36 else if a = 15 ∧ x = 1 then σ.1 15 35 else σ.1 a x := by
  unfold mst0 mset
  rw [uv_ap, uv_ap, uv_ap, uv_ap, uv_ap, uv_ap, uv_ap, uv_ap, uv_ap]
theorem mst0_z (σ : St) : rd (mst0 (mset σ)) 16 0 = 0 := by
  have e : (mst0 (mset σ)).1 16 0 = nI 0 := by rw [mst0_ap, if_neg (by omega), if_neg (by omega), if_neg (by omega), if_pos (by omega)]
  exact rd_of e (by omega)
theorem mst6_ap (σ : St) (a x : Nat) : (mst (mset σ) 6).1 a x = if ((a = 23 ∨ a = 24 ∨ a = 25 ∨ a = 28) ∧ x < 6) ∨ (a = 26 ∧ x < 36) then nI 0 else if a = 27 ∧ x < 1206 ∧ x % 201 = 0 then nI 1 else if a = 15 ∧ x = 23 then nI 1 else if a = 15 ∧ x = 22 then nI 0 else if a = 15 ∧ x = 21 then nI 0 else if a = 16 ∧ x = 0 then nI 0 else if a = 15 ∧ x = 5 then nI 0 else if a = 15 ∧ x = 4 then nI 1 else if a = 15 ∧ x = 3 then σ.1 15 37 else if a = 15 ∧ x = 2 then σ.1 15 36 else if a = 15 ∧ x = 1 then σ.1 15 35 else σ.1 a x := by
  rw [mst_ap (mst0_z σ), mst0_ap]
theorem sim_new {p : Prop} {C S : St} (h : Sim False C S) : Sim p (csv C (S.1 15 35) (S.1 15 36) (S.1 15 37)) (mst (mset S) 6) := by
  refine ⟨fun a x a' x' q => ?_, fun b hb => ?_⟩
  · rw [csv_ap, mst6_ap]
    rcases q with ⟨b, hb, rfl, rfl, rfl, rfl⟩ | ⟨b, i, n, hb, h1, h2, hn, rfl, rfl, rfl, rfl⟩ | ⟨q, hq, rfl, g, rfl⟩ | ⟨q, n, hq, hn, rfl, rfl, rfl, rfl⟩ | ⟨q, j, hq, hj, rfl, rfl, rfl, rfl⟩ | ⟨rfl, hx, rfl, rfl⟩ | ⟨rfl, hx, rfl, rfl⟩ | ⟨rfl, g⟩
    · have e := h.len hb
      by_cases z : x' = 0
      · subst z
        repeat first | rw [if_neg (by omega)] | rw [if_pos (by omega)]
      · repeat first | rw [if_neg (by omega)] | rw [if_pos (by omega)]
        exact e
    · have e := h.1 _ _ _ _ (Cor.ent (p := False) hb h1 h2 hn)
      repeat first | rw [if_neg (by omega)] | rw [if_pos (by omega)]
      exact e
    · repeat first | rw [if_neg (by omega)] | rw [if_pos (by omega)]
    · have e := h.his hq hn
      by_cases z : x = 0
      · subst z
        repeat first | rw [if_neg (by omega)] | rw [if_pos (by omega)]
      · repeat first | rw [if_neg (by omega)] | rw [if_pos (by omega)]
        exact e
    · repeat first | rw [if_neg (by omega)] | rw [if_pos (by omega)]
    · have e := h.bla hx
      repeat first | rw [if_neg (by omega)] | rw [if_pos (by omega)]
      exact e
    · have e := h.pst hx
      repeat first | rw [if_neg (by omega)] | rw [if_pos (by omega)]
      exact e
    · rcases g with ⟨rfl, rfl, rfl⟩ | ⟨rfl, rfl, rfl⟩ | ⟨rfl, rfl, rfl⟩ | ⟨rfl, rfl, rfl⟩ | ⟨rfl, rfl, rfl⟩ | ⟨-, rfl, rfl, rfl⟩ | ⟨-, rfl, rfl, rfl⟩
      all_goals repeat first | rw [if_neg (by omega)] | rw [if_pos (by omega)]
  · rw [csv_ap]
    repeat first | rw [if_neg (by omega)] | rw [if_pos (by omega)]
    exact h.2 b hb
theorem iv_new {C S : St} (h : Sim False C S) (hM : MI (mset S)) (hV : MV S) : IV (csv C (S.1 15 35) (S.1 15 36) (S.1 15 37)) (mst (mset S) 6) := by
  have e4 : (mst (mset S) 6).1 15 4 = nI 1 := by
    rw [mst6_ap]
    repeat first | rw [if_neg (by omega)] | rw [if_pos (by omega)]
  have r4 : rd (mst (mset S) 6) 15 4 = 1 := rd_of e4 (by omega)
  have e16 : (mst (mset S) 6).1 16 0 = nI 0 := by
    rw [mst6_ap]
    repeat first | rw [if_neg (by omega)] | rw [if_pos (by omega)]
  have r16 : rd (mst (mset S) 6) 16 0 = 0 := rd_of e16 (by omega)
  have hI := MI_mst hM 6
  refine ⟨sim_new h, ⟨hI, fun q hq => ?_⟩, MV_same hV (fun i => ?_), ?_, fun q j hq hj hj2 => ?_⟩
  · have h6 := hI.1.1.2
    have e : (mst (mset S) 6).1 23 q = nI 0 := by rw [mst6_ap, if_pos (by omega)]
    rw [r4, rd_of e (by omega)]
    omega
  · rw [mst6_ap]
    repeat first | rw [if_neg (by omega)] | rw [if_pos (by omega)]
  · rw [r4]
    intro b hb n hn
    have : b = 0 := by omega
    subst this
    rw [r16] at hn
    omega
  · rw [mst6_ap, if_pos (by omega)]
theorem Inv.u0 (h : Inv c m) (v : Int32) : Inv c (uv m 15 0 v) :=
  ⟨h.1.th v, fun k hk => by rw [uv_cell _ _ _ _ (by decide)]; exact h.2.1 k hk, h.2.2.1.trans (uv_idx _ _ _ _ (by decide)).symm, h.2.2.2.1.trans (uv_idx _ _ _ _ (by decide)).symm, ⟨h.2.2.2.2.1.1.trans (uv_idx _ _ _ _ (by decide)).symm, h.2.2.2.2.1.2.trans (uv_idx _ _ _ _ (by decide)).symm⟩, nb_cg (uv_idx _ _ _ _ (by decide)) h.2.2.2.2.2 h.2.2.2.2.2.2⟩
theorem cv1_a (s : St) (lo hi : Int32) (j : Nat) {a : Nat} (b : Nat) (h : a ≠ 1) : (cv1 s lo hi j).1 a b = s.1 a b := (uv_cell _ _ _ _ h).trans ((PX_ctN s lo hi).1 a b (by omega))
theorem ctK_a (s : St) (k : Nat) {a : Nat} (b : Nat) (h : a ≠ 1) : (ctK s k).1 a b = s.1 a b := (PX_ctK s k).1 a b (by omega)
theorem cbe_a (s : St) (e : Nat) {a : Nat} (b : Nat) (h : a ≠ 1 ∧ a ≠ 2 ∧ a ≠ 5 ∧ a ≠ 6) : (cbe s e).1 a b = s.1 a b := by
  unfold cbe
  rw [csc_o _ _ (by omega), uv_cell _ _ _ _ h.1, uv_cell _ _ _ _ h.1, uv_cell _ _ _ _ h.1, uv_cell _ _ _ _ h.1]
theorem cpv_a (s : St) (e : Nat) {a : Nat} (b : Nat) (h : a ≠ 1 ∧ a ≠ 2 ∧ a ≠ 5 ∧ a ≠ 6) : (cpv s e).1 a b = s.1 a b := by
  unfold cpv cv4 cv3 cv2
  rw [ctK_a _ _ _ h.1, ctK_a _ _ _ h.1, cv1_a _ _ _ _ _ h.1, ctK_a _ _ _ h.1, cv1_a _ _ _ _ _ h.1, ctK_a _ _ _ h.1, cv1_a _ _ _ _ _ h.1, ctK_a _ _ _ h.1, cbe_a _ _ _ h]
theorem Inv.fed (h : Inv c m) : nb c 0 2 900 ∧ rd c 0 2 = rd m 15 26 ∧ nI (rd c 0 2) = m.1 15 26 := by
  have b3 := h.1.2.1.1.2.1.2.2
  have e : rd c 0 2 = rd m 15 26 := by unfold rd; rw [h.2.2.1]
  exact ⟨nb_cgm h.2.2.1 b3, e, by rw [e]; exact b3.1.symm⟩
theorem Inv.lenq (h : Inv c m) (n : Int32) : (¬ n < 0 ∧ n ≤ nI (rd c 0 2)) ↔ (nI 0 ≤ n ∧ n ≤ m.1 15 26) := by
  rw [h.fed.2.2, nI_0]
  exact ⟨fun z => ⟨Int32.not_lt.mp z.1, z.2⟩, fun z => ⟨Int32.not_lt.mpr z.1, z.2⟩⟩
end LD2
