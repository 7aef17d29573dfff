/-! the law's loop -/
theorem lim_ok {j L : Nat} (hL : L ≤ 3072) (hj : j ≤ 4000) : ¬ (nI L - nI 6 < nI j) ↔ j + 6 ≤ L := by
  have e6 : (nI 6).toInt = 6 := by decide
  have eL : (nI L).toInt = (L : Int) := nI_toInt (by omega)
  have ej : (nI j).toInt = (j : Int) := nI_toInt (by omega)
  have es : (nI L - nI 6).toInt = (L : Int) - 6 := by
    rw [Int32.toInt_sub, eL, e6, Int.bmod_eq_of_le (by omega) (by omega)]
  rw [Int32.lt_iff_toInt_lt, es, ej]
  omega
section LAW4
variable {x : Ctx} {g : Lay} {z0 N1 N2 : Nat} {Q : State → Prop} {rt : Option FieldType} {b L : Nat} {xs : Nat → Int32}
theorem l_sw {KA : KAd} {σ : St} {n1 n2 j : Nat} (hE : EN x g z0 b L xs KA rt) (hj : j + 6 ≤ L) (hI : Inv σ σ) (hc1 : n1 + 3 ≤ x.2.2.2.1.cells) (hc2 : n2 + 18 ≤ x.2.2.2.1.slots) (kk : ∀ σ', Inv σ' σ' → GG x g z0 7 (n1 + 3) (n2 + 18) Q σ' 2388 (LV0 g b j) []) {a : Nat} (ha : a < 64) : GG x g z0 7 n1 n2 Q σ 40 (LV0 g b j) [.int (nI a)] := by
  have hC := hE.1
  by_cases h : 40 ≤ a
  · exact n_tswOut (tgt := 2388) hC dL_law_40 (by omega) (Or.inr (by omega)) (by decide) (gg_widen (by omega) (by omega) (kk σ hI))
  have hc : a = 0 ∨ a = 1 ∨ a = 2 ∨ a = 3 ∨ a = 4 ∨ a = 5 ∨ a = 6 ∨ a = 7 ∨ a = 8 ∨ a = 9 ∨ a = 10 ∨ a = 11 ∨ a = 12 ∨ a = 13 ∨ a = 14 ∨ a = 15 ∨ a = 16 ∨ a = 17 ∨ a = 18 ∨ a = 19 ∨ a = 20 ∨ a = 21 ∨ a = 22 ∨ a = 23 ∨ a = 24 ∨ a = 25 ∨ a = 26 ∨ a = 27 ∨ a = 28 ∨ a = 29 ∨ a = 30 ∨ a = 31 ∨ a = 32 ∨ a = 33 ∨ a = 34 ∨ a = 35 ∨ a = 36 ∨ a = 37 ∨ a = 38 ∨ a = 39 := by omega
  rcases hc with rfl | rfl | rfl | rfl | rfl | rfl | rfl | rfl | rfl | rfl | rfl | rfl | rfl | rfl | rfl | rfl | rfl | rfl | rfl | rfl | rfl | rfl | rfl | rfl | rfl | rfl | rfl | rfl | rfl | rfl | rfl | rfl | rfl | rfl | rfl | rfl | rfl | rfl | rfl | rfl
  · exact n_tswIn (tgt := 216) hC dL_law_40 rfl (by decide) (by decide) (by decide) rfl (by decide) (lc_0 hE hj hI hc1 hc2 kk)
  · exact n_tswIn (tgt := 320) hC dL_law_40 rfl (by decide) (by decide) (by decide) rfl (by decide) (lc_1 hE hj hI hc1 hc2 kk)
  · exact n_tswIn (tgt := 376) hC dL_law_40 rfl (by decide) (by decide) (by decide) rfl (by decide) (lc_2 hE hj hI hc1 hc2 kk)
  · exact n_tswIn (tgt := 432) hC dL_law_40 rfl (by decide) (by decide) (by decide) rfl (by decide) (lc_3 hE hj hI hc1 hc2 kk)
  · exact n_tswIn (tgt := 445) hC dL_law_40 rfl (by decide) (by decide) (by decide) rfl (by decide) (lc_4 hE hj hI hc1 hc2 kk)
  · exact n_tswIn (tgt := 458) hC dL_law_40 rfl (by decide) (by decide) (by decide) rfl (by decide) (lc_5 hE hj hI hc1 hc2 kk)
  · exact n_tswIn (tgt := 471) hC dL_law_40 rfl (by decide) (by decide) (by decide) rfl (by decide) (lc_6 hE hj hI hc1 hc2 kk)
  · exact n_tswIn (tgt := 551) hC dL_law_40 rfl (by decide) (by decide) (by decide) rfl (by decide) (lc_7 hE hj hI hc1 hc2 kk)
  · exact n_tswIn (tgt := 619) hC dL_law_40 rfl (by decide) (by decide) (by decide) rfl (by decide) (lc_8 hE hj hI hc1 hc2 kk)
  · exact n_tswIn (tgt := 687) hC dL_law_40 rfl (by decide) (by decide) (by decide) rfl (by decide) (lc_9 hE hj hI hc1 hc2 kk)
  · exact n_tswIn (tgt := 743) hC dL_law_40 rfl (by decide) (by decide) (by decide) rfl (by decide) (lc_10 hE hj hI hc1 hc2 kk)
  · exact n_tswIn (tgt := 806) hC dL_law_40 rfl (by decide) (by decide) (by decide) rfl (by decide) (lc_11 hE hj hI hc1 hc2 kk)
  · exact n_tswIn (tgt := 862) hC dL_law_40 rfl (by decide) (by decide) (by decide) rfl (by decide) (lc_12 hE hj hI hc1 hc2 kk)
  · exact n_tswIn (tgt := 918) hC dL_law_40 rfl (by decide) (by decide) (by decide) rfl (by decide) (lc_13 hE hj hI hc1 hc2 kk)
  · exact n_tswIn (tgt := 986) hC dL_law_40 rfl (by decide) (by decide) (by decide) rfl (by decide) (lc_14 hE hj hI hc1 hc2 kk)
  · exact n_tswIn (tgt := 1054) hC dL_law_40 rfl (by decide) (by decide) (by decide) rfl (by decide) (lc_15 hE hj hI hc1 hc2 kk)
  · exact n_tswIn (tgt := 1134) hC dL_law_40 rfl (by decide) (by decide) (by decide) rfl (by decide) (lc_16 hE hj hI hc1 hc2 kk)
  · exact n_tswIn (tgt := 1202) hC dL_law_40 rfl (by decide) (by decide) (by decide) rfl (by decide) (lc_17 hE hj hI hc1 hc2 kk)
  · exact n_tswIn (tgt := 1215) hC dL_law_40 rfl (by decide) (by decide) (by decide) rfl (by decide) (lc_18 hE hj hI hc1 hc2 kk)
  · exact n_tswIn (tgt := 1228) hC dL_law_40 rfl (by decide) (by decide) (by decide) rfl (by decide) (lc_19 hE hj hI hc1 hc2 kk)
  · exact n_tswIn (tgt := 1241) hC dL_law_40 rfl (by decide) (by decide) (by decide) rfl (by decide) (lc_20 hE hj hI hc1 hc2 kk)
  · exact n_tswIn (tgt := 1297) hC dL_law_40 rfl (by decide) (by decide) (by decide) rfl (by decide) (lc_21 hE hj hI hc1 hc2 kk)
  · exact n_tswIn (tgt := 1377) hC dL_law_40 rfl (by decide) (by decide) (by decide) rfl (by decide) (lc_22 hE hj hI hc1 hc2 kk)
  · exact n_tswIn (tgt := 1445) hC dL_law_40 rfl (by decide) (by decide) (by decide) rfl (by decide) (lc_23 hE hj hI hc1 hc2 kk)
  · exact n_tswIn (tgt := 1501) hC dL_law_40 rfl (by decide) (by decide) (by decide) rfl (by decide) (lc_24 hE hj hI hc1 hc2 kk)
  · exact n_tswIn (tgt := 1569) hC dL_law_40 rfl (by decide) (by decide) (by decide) rfl (by decide) (lc_25 hE hj hI hc1 hc2 kk)
  · exact n_tswIn (tgt := 1637) hC dL_law_40 rfl (by decide) (by decide) (by decide) rfl (by decide) (lc_26 hE hj hI hc1 hc2 kk)
  · exact n_tswIn (tgt := 1705) hC dL_law_40 rfl (by decide) (by decide) (by decide) rfl (by decide) (lc_27 hE hj hI hc1 hc2 kk)
  · exact n_tswIn (tgt := 1766) hC dL_law_40 rfl (by decide) (by decide) (by decide) rfl (by decide) (lc_28 hE hj hI hc1 hc2 kk)
  · exact n_tswIn (tgt := 1834) hC dL_law_40 rfl (by decide) (by decide) (by decide) rfl (by decide) (lc_29 hE hj hI hc1 hc2 kk)
  · exact n_tswIn (tgt := 1902) hC dL_law_40 rfl (by decide) (by decide) (by decide) rfl (by decide) (lc_30 hE hj hI hc1 hc2 kk)
  · exact n_tswIn (tgt := 1970) hC dL_law_40 rfl (by decide) (by decide) (by decide) rfl (by decide) (lc_31 hE hj hI hc1 hc2 kk)
  · exact n_tswIn (tgt := 2033) hC dL_law_40 rfl (by decide) (by decide) (by decide) rfl (by decide) (lc_32 hE hj hI hc1 hc2 kk)
  · exact n_tswIn (tgt := 2089) hC dL_law_40 rfl (by decide) (by decide) (by decide) rfl (by decide) (lc_33 hE hj hI hc1 hc2 kk)
  · exact n_tswIn (tgt := 2102) hC dL_law_40 rfl (by decide) (by decide) (by decide) rfl (by decide) (lc_34 hE hj hI hc1 hc2 kk)
  · exact n_tswIn (tgt := 2158) hC dL_law_40 rfl (by decide) (by decide) (by decide) rfl (by decide) (lc_35 hE hj hI hc1 hc2 kk)
  · exact n_tswIn (tgt := 2171) hC dL_law_40 rfl (by decide) (by decide) (by decide) rfl (by decide) (lc_36 hE hj hI hc1 hc2 kk)
  · exact n_tswIn (tgt := 2239) hC dL_law_40 rfl (by decide) (by decide) (by decide) rfl (by decide) (lc_37 hE hj hI hc1 hc2 kk)
  · exact n_tswIn (tgt := 2252) hC dL_law_40 rfl (by decide) (by decide) (by decide) rfl (by decide) (lc_38 hE hj hI hc1 hc2 kk)
  · exact n_tswIn (tgt := 2320) hC dL_law_40 rfl (by decide) (by decide) (by decide) rfl (by decide) (lc_39 hE hj hI hc1 hc2 kk)
theorem l_loop {KA : KAd} (hE : EN x g z0 b L xs KA rt) (hN1 : N1 ≤ x.2.2.2.1.cells) (hN2 : N2 ≤ x.2.2.2.1.slots) (kend : ∀ (σ' : St) (j' m1 m2 : Nat), m1 ≤ N1 → m2 ≤ N2 → GG x g z0 7 m1 m2 Q σ' 2394 (LV0 g b j') []) : ∀ (f j : Nat) (σ : St) (n1 n2 : Nat), Inv σ σ → L < j + 6 * f + 6 → j ≤ 3078 → n1 + 3 * f ≤ N1 → n2 + 18 * f ≤ N2 → GG x g z0 7 n1 n2 Q σ 23 (LV0 g b j) [] := by
  have hC := hE.1
  have hF := hE.2.1
  have hL := hF.2.2.2
  intro f
  induction f with
  | zero =>
    intro j σ n1 n2 hI h1 h2 h3 h4
    refine g_iload (pc' := 25) (j := 0) hC dL_law_23 rfl rfl ?_
    refine g_aload_n (pc' := 26) (j := 4) hC dL_law_25 rfl rfl rfl ?_
    refine a_slen (pc' := 27) hC hF dL_law_26 rfl ?_
    refine g_bipush (pc' := 29) (v := nI 6) hC dL_law_27 rfl rfl ?_
    refine g_isub (pc' := 30) hC dL_law_29 rfl ?_
    refine g_icmp_gt (pc' := 33) (tgt := 2394) hC dL_law_30 (by decide) rfl (fun _ => kend σ j n1 n2 (by omega) (by omega)) (fun z => ?_)
    have := (lim_ok hL (by omega)).mp z
    omega
  | succ f ih =>
    intro j σ n1 n2 hI h1 h2 h3 h4
    refine g_iload (pc' := 25) (j := 0) hC dL_law_23 rfl rfl ?_
    refine g_aload_n (pc' := 26) (j := 4) hC dL_law_25 rfl rfl rfl ?_
    refine a_slen (pc' := 27) hC hF dL_law_26 rfl ?_
    refine g_bipush (pc' := 29) (v := nI 6) hC dL_law_27 rfl rfl ?_
    refine g_isub (pc' := 30) hC dL_law_29 rfl ?_
    refine g_icmp_gt (pc' := 33) (tgt := 2394) hC dL_law_30 (by decide) rfl (fun _ => kend σ j n1 n2 (by omega) (by omega)) (fun z => ?_)
    have hj := (lim_ok hL (by omega)).mp z
    refine g_aload_n (pc' := 34) (j := 4) hC dL_law_33 rfl rfl rfl ?_
    refine g_iload (pc' := 36) (j := 0) hC dL_law_34 rfl rfl ?_
    refine a_scr (pc' := 37) hC hF (by omega) dL_law_36 rfl ?_
    refine g_bipush (pc' := 39) (v := nI 63) hC dL_law_37 rfl rfl ?_
    refine g_iand (pc' := 40) hC dL_law_39 rfl ?_
    obtain ⟨a, ha, e⟩ := pk_andE (xs j) (m := nI 63) 6 (by decide)
    rw [e]
    refine l_sw hE hj hI (by omega) (by omega) (fun σ' hI' => ?_) ha
    refine g_iinc (pc' := 2391) (j := 0) (u := nI (j + 6)) (lv' := LV0 g b (j + 6)) hC dL_law_2388 rfl rfl (nI_add j 6) (by decide) rfl ?_
    refine g_goto (tgt := 23) hC dL_law_2391 (by decide) ?_
    exact ih (j + 6) σ' (n1 + 3) (n2 + 18) hI' (by omega) (by omega) (by omega) (by omega)
end LAW4
