/-! the law from what holds of its start -/
section WOF
variable {p : Program} {e : Env} {s : State} {m : MethodId} {below : List Frame} {meth : Method} {c : Code} {b L : Nat} {xs : Nat → Int32} {D : va_G} {ad : Nat → Nat} {ac : Nat → ClassId} {KA : KAd}
theorem WT_of (hts : ∀ w ∈ lw_tbl, w.before #[Value.ref b] s = true) : WT s := fun w hw hg a => word_at (args := #[Value.ref b]) (a' := a) (State.WarmedH.refl s) (good_of_word hg) (hts w hw)
theorem whole_of (l : Launch) (hNT : l.stackTraces = false) (hL : L ≤ 3072) (C0 : lw_At p s m meth c b L xs) (hK : va_K D vwCl (tyG (gz D s.heap.size ad ac (XX s.heap.size ad KA))) s) (hX : XX s.heap.size ad KA s s.heap) : W p l e room_1 s m #[Value.ref b] below meth c s.heap [] 0 0 (lw_Z below #[Value.ref b] s) (entryFrame m ([Value.ref b] : List Value).toArray 7) := by
  obtain ⟨hx, hcode, hret, hml, hown, hts, hsX, hbl, hlk, -⟩ := C0
  obtain ⟨x, ex⟩ : ∃ x : Ctx, x = (p, l, e, room_1, s, m, #[Value.ref b], below, meth, c) := ⟨_, rfl⟩
  have hC : Cx x RL cL_law 7 ret 11 (gz D s.heap.size ad ac (XX s.heap.size ad KA)) s.heap.size := by
    subst ex
    exact ⟨hx, hcode, hml, hown, hlk, hret, ⟨Nat.le_of_ble_eq_true rfl, Nat.le_of_ble_eq_true rfl⟩, XX_W hK (WT_of hts), Nat.le_refl _, hX⟩
  have hE : EN x (gz D s.heap.size ad ac (XX s.heap.size ad KA)) s.heap.size b L xs KA ret := by
    subst ex
    exact ⟨hC, ⟨hsX, hbl, Nat.not_le.mpr hbl, hL⟩, hNT, XX_T, XX_K, XX_G, XX_3⟩
  have hc1 : 601024 ≤ x.2.2.2.1.cells := by subst ex; exact Nat.le_of_ble_eq_true rfl
  have hc2 : 7293034 ≤ x.2.2.2.1.slots := by subst ex; exact Nat.le_of_ble_eq_true rfl
  have kend : ∀ (σ' : St) (j' m1 m2 : Nat), m1 ≤ 601024 → m2 ≤ 7293034 → GG x (gz D s.heap.size ad ac (XX s.heap.size ad KA)) s.heap.size 7 m1 m2 (lw_Z below #[Value.ref b] s) σ' 2394 (LV0 (gz D s.heap.size ad ac (XX s.heap.size ad KA)) b j') [] := by
    intro σ' j' m1 m2 h1 h2
    refine g_iconst (pc' := 2395) (v := nI 1) hC dL_law_2394 rfl rfl ?_
    subst ex
    intro H locs ls hP hS hl
    exact va_forget (fun q hq => hS.2.2 q hq) (W.widen h1 h2 (lw_ret hx hcode hret hlk dL_law_2395))
  have hloop := l_loop hE hc1 hc2 kend 512 0 σ0 228 28089 Inv_0 (by omega) (by omega) (by omega) (by omega)
  have hpro := l_pro (b := b) (fun _ => x0) hC XX_K XX_2 hc1 hc2 hloop
  rw [lg_entry_eq]
  subst ex
  exact hpro s.heap [] _ (fun k q hq => by cases hq) (by show s.heap.size = s.heap.size + 0; omega) va_S.rf (lv_entry ([Value.ref b] : List Value) (n := 7) (Nat.le_of_ble_eq_true rfl))
end WOF
