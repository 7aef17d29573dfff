/-! the law's first rows: the two objects and the long are made -/
section PRO
variable {x : Ctx} {D : va_G} {z0 : Nat} {ad : Nat → Nat} {ac : Nat → ClassId} {X : State → Heap → Prop} {Q : State → Prop} {rt : Option FieldType} {b : Nat}
theorem gn_gg {n1 n2 pc : Nat} {S : Nat → va_E} {lv : List (Nat × Value)} {st : List Value} (k : GG x (gz D z0 ad ac X) z0 7 n1 n2 Q σ0 pc lv st) : GN x (gz D z0 ad ac X) z0 7 n1 n2 Q (aF (gz D z0 ad ac X) z0 S) 228 pc lv st := fun H locs ls hP hz hS hl => k H locs ls (wl_of hP) hS hl
set_option maxHeartbeats 4000000 in
set_option maxRecDepth 20000 in
theorem l_pro {KA : KAd} (S : Nat → va_E) (hC : Cx x RL cL_law 7 rt 11 (gz D z0 ad ac X) z0) (hK : GK (gz D z0 ad ac X) z0 KA) (hG2 : GX2 (gz D z0 ad ac X)) (hc1 : 601024 ≤ x.2.2.2.1.cells) (hc2 : 7293034 ≤ x.2.2.2.1.slots) (kk : GG x (gz D z0 ad ac X) z0 7 228 28089 Q σ0 23 (LV0 (gz D z0 ad ac X) b 0) []) : GN x (gz D z0 ad ac X) z0 7 0 0 Q S 0 0 [(0, .ref b)] [] := by
  refine q_new (pc' := 3) (ty := tyX9) (fs := [.null, .null, .int 0, .int 0]) hC lay_X9 (ci := 7) rfl tyX9_ok w_cl_L_8 w_in_X9 w_ini_X9 (fun j hj => by rcases (show j = 0 ∨ j = 1 ∨ j = 2 ∨ j = 3 by omega) with rfl | rfl | rfl | rfl <;> rfl) (Nat.le_trans (m := 601024) (Nat.le_of_ble_eq_true rfl) hc1) (Nat.le_trans (m := 7293034) (Nat.le_of_ble_eq_true rfl) hc2) dL_law_0 rfl ?_
  refine q_dup (pc' := 4) hC dL_law_3 rfl rfl ?_
  refine q_init (pc' := 7) (st := [.ref (z0 + 0)]) hC (n_X9 x.2.1 (gz D z0 ad ac X) z0 hK hG2 (us S 0 (.inr (7, [.null, .null, .int 0, .int 0]))) (us_s _ _ _)) ki_X9 w_li_L_110 (by decide) rfl rfl (Nat.le_of_ble_eq_true rfl) dL_law_4 rfl (Nat.le_trans (m := 601024) (Nat.le_of_ble_eq_true rfl) hc1) (Nat.le_trans (m := 7293034) (Nat.le_of_ble_eq_true rfl) hc2) ?_
  refine q_astore_n (pc' := 8) (lv' := [(1, .ref (z0 + 0)), (0, .ref b)]) hC dL_law_7 rfl rfl (by decide) rfl ?_
  refine q_new (pc' := 11) (ty := tyX10) (fs := [.int 0, .int 0, .int 0, .int 0, .int 0, .int 0, .null, .null, .null, .null, .null, .null, .null, .null, .null, .null, .null, .null, .null, .null, .null, .int 0, .int 0, .int 0, .int 0, .null, .int 0, .int 0, .int 0, .int 0, .int 0, .int 0, .int 0, .int 0, .long 0, .int 0, .int 0, .int 0, .null, .int 0]) hC lay_X10 (ci := 8) rfl tyX10_ok w_cl_L_111 w_in_X10 w_ini_X10 (fun j hj => by rcases (show j = 0 ∨ j = 1 ∨ j = 2 ∨ j = 3 ∨ j = 4 ∨ j = 5 ∨ j = 6 ∨ j = 7 ∨ j = 8 ∨ j = 9 ∨ j = 10 ∨ j = 11 ∨ j = 12 ∨ j = 13 ∨ j = 14 ∨ j = 15 ∨ j = 16 ∨ j = 17 ∨ j = 18 ∨ j = 19 ∨ j = 20 ∨ j = 21 ∨ j = 22 ∨ j = 23 ∨ j = 24 ∨ j = 25 ∨ j = 26 ∨ j = 27 ∨ j = 28 ∨ j = 29 ∨ j = 30 ∨ j = 31 ∨ j = 32 ∨ j = 33 ∨ j = 34 ∨ j = 35 ∨ j = 36 ∨ j = 37 ∨ j = 38 ∨ j = 39 by omega) with rfl | rfl | rfl | rfl | rfl | rfl | rfl | rfl | rfl | rfl | rfl | rfl | rfl | rfl | rfl | rfl | rfl | rfl | rfl | rfl | rfl | rfl | rfl | rfl | rfl | rfl | rfl | rfl | rfl | rfl | rfl | rfl | rfl | rfl | rfl | rfl | rfl | rfl | rfl | rfl <;> rfl) (Nat.le_trans (m := 601024) (Nat.le_of_ble_eq_true rfl) hc1) (Nat.le_trans (m := 7293034) (Nat.le_of_ble_eq_true rfl) hc2) dL_law_8 rfl ?_
  refine q_dup (pc' := 12) hC dL_law_11 rfl rfl ?_
  refine q_init (pc' := 15) (st := [.ref (z0 + 209)]) hC (n_X10 x.2.1 (gz D z0 ad ac X) z0 (us (wF (gz D z0 ad ac X) z0 (us S 0 (.inr (7, [.null, .null, .int 0, .int 0])))) 209 x0) 210 209 (by decide) (us_s _ _ _)) ki_X10 w_li_L_113 (by decide) rfl rfl (Nat.le_of_ble_eq_true rfl) dL_law_12 rfl (Nat.le_trans (m := 601024) (Nat.le_of_ble_eq_true rfl) hc1) (Nat.le_trans (m := 7293034) (Nat.le_of_ble_eq_true rfl) hc2) ?_
  refine q_astore_n (pc' := 16) (lv' := [(2, .ref (z0 + 209)), (1, .ref (z0 + 0)), (0, .ref b)]) hC dL_law_15 rfl rfl (by decide) rfl ?_
  refine q_iconst (pc' := 17) (v := nI 1) hC dL_law_16 rfl rfl ?_
  refine q_newa (pc' := 19) (ty := .long) (t := 3) (N := 1) (a0 := (1, .inr (.inl (fun _ => 0)))) hC rfl w_ac_long rfl (fun _ h9 => h9) (fun _ => rfl) (by decide) (Nat.le_of_ble_eq_true rfl) (Nat.le_trans (m := 601024) (Nat.le_of_ble_eq_true rfl) hc1) (Nat.le_trans (m := 7293034) (Nat.le_of_ble_eq_true rfl) hc2) dL_law_17 rfl ?_
  refine q_astore_n (pc' := 20) (lv' := [(3, .ref (z0 + 227)), (2, .ref (z0 + 209)), (1, .ref (z0 + 0)), (0, .ref b)]) hC dL_law_19 rfl rfl (by decide) rfl ?_
  refine qq_Se (S' := aF (gz D z0 ad ac X) z0 (us S 0 (.inr (7, [.null, .null, .int 0, .int 0])))) rfl ?_
  refine gn_gg ?_
  refine g_iconst (pc' := 21) (v := nI 0) hC dL_law_20 rfl rfl ?_
  exact g_istore (pc' := 23) (lv' := LV0 (gz D z0 ad ac X) b 0) hC dL_law_21 rfl (by decide) rfl kk
end PRO
