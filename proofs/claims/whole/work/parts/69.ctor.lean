abbrev aI (g : Lay) (N : Nat) : va_E := .inl (g.2.2.2.1 0, N, .inl (fun _ => 0))
set_option maxHeartbeats 4000000 in
set_option maxRecDepth 20000 in
theorem n_X7 (l : Launch) (g : Lay) (z0 : Nat) {KA : KAd} (hK : GK g z0 KA) (S : Nat → va_E) (n i : Nat) (hi : i < n) (hS : S i = .inr (5, [.null, .null])) : CN l yX7_init cX7_init 1 1 1 3 g z0 [.ref (z0 + i)] S n (us (us S n (aI g 3)) i (.inr (5, [.ref (z0 + n), .ref (g.2.2.1 0)]))) (n + 1) := by
  refine CN.of (by decide) rfl (Nat.le_of_ble_eq_true rfl) ?_
  intro x hxl hxa hC hR
  have hC : Cx x RX7 cX7_init 1 none 1 g z0 := hC
  show GN x g z0 1 0 0 _ S n 0 [(0, .ref (z0 + i))] []
  refine q_aload_n (pc' := 1) (j := 0) hC dX7_init_0 rfl rfl rfl ?_
  refine q_obj (pc' := 4) hC (by decide) w_oi_X7 (Nat.le_of_ble_eq_true rfl) dX7_init_1 rfl ?_
  refine q_aload_n (pc' := 5) (j := 0) hC dX7_init_4 rfl rfl rfl ?_
  refine q_iconst (pc' := 6) (v := nI 3) hC dX7_init_5 rfl rfl ?_
  refine q_newa (pc' := 8) (ty := .int) (t := 0) (N := 3) (a0 := (3, .inl (fun _ => 0))) hC rfl w_ac_int rfl (fun _ h9 => h9) (fun _ => rfl) (by decide) (Nat.le_of_ble_eq_true rfl) (Nat.le_trans (m := 1) (by decide) hR.1.1) (Nat.le_trans (m := 3) (Nat.le_of_ble_eq_true rfl) hR.1.2) dX7_init_6 rfl ?_
  refine q_put (pc' := 11) (C := RX7) (T := TX7) (N := 2) (ci := 5) (i := i) (j := 0) (ty0 := tyX7) hC hR.2 lay_X7 rfl tyX7_ok nmX7 wF_X7_9 (by omega) ((us_o _ _ (by omega)).trans (hS)) (by decide) (by first | exact Or.inl rfl | exact Or.inr ⟨rfl, rfl⟩) (tyX7_ok 0 (by decide)) rfl rfl (Nat.le_of_ble_eq_true rfl) dX7_init_8 rfl ?_
  refine qq_Se (S' := (us (us S n (.inl (g.2.2.2.1 0, 3, .inl (fun _ => 0)))) i (.inr (5, [.ref (z0 + n), .null])))) (rfl) ?_
  refine q_aload_n (pc' := 12) (j := 0) hC dX7_init_11 rfl rfl rfl ?_
  refine q_gs (pc' := 15) hC (show va_Z "ForkWatch$Kind" "END" _ _ _ _ _ from ((hK.at hC).1.1 0 (by decide)).1) wF_X7_15 dX7_init_12 rfl ?_
  refine q_put (pc' := 18) (C := RX7) (T := TX7) (N := 2) (ci := 5) (i := i) (j := 1) (ty0 := tyX7) hC hR.2 lay_X7 rfl tyX7_ok nmX7 wF_X7_21 (by omega) (us_s _ _ _) (by decide) (by first | exact Or.inl rfl | exact Or.inr ⟨rfl, rfl⟩) (tyX7_ok 1 (by decide)) rfl rfl (Nat.le_of_ble_eq_true rfl) dX7_init_15 rfl ?_
  refine qq_Se (S' := (us (us S n (.inl (g.2.2.2.1 0, 3, .inl (fun _ => 0)))) i (.inr (5, [.ref (z0 + n), .ref (g.2.2.1 0)])))) (us_us) ?_
  exact q_ret hC dX7_init_18 (by first | rfl | omega) (fun _ _ => rfl)
set_option maxHeartbeats 4000000 in
set_option maxRecDepth 20000 in
theorem n_X2 (l : Launch) (g : Lay) (z0 : Nat) (S : Nat → va_E) (n i : Nat) (hi : i < n) (hS : S i = .inr (1, [.null, .null, .int 0, .int 0, .int 0, .int 0])) : CN l yX2_init cX2_init 1 1 2 207 g z0 [.ref (z0 + i)] S n (us (us (us S n (aI g 201)) (n + 1) (aI g 6)) i (.inr (1, [.ref (z0 + n), .ref (z0 + (n + 1)), .int 0, .int 0, .int 0, .int 0]))) (n + 2) := by
  refine CN.of (by decide) rfl (Nat.le_of_ble_eq_true rfl) ?_
  intro x hxl hxa hC hR
  have hC : Cx x RX2 cX2_init 1 none 1 g z0 := hC
  show GN x g z0 1 0 0 _ S n 0 [(0, .ref (z0 + i))] []
  refine q_aload_n (pc' := 1) (j := 0) hC dX2_init_0 rfl rfl rfl ?_
  refine q_obj (pc' := 4) hC (by decide) w_oi_X2 (Nat.le_of_ble_eq_true rfl) dX2_init_1 rfl ?_
  refine q_aload_n (pc' := 5) (j := 0) hC dX2_init_4 rfl rfl rfl ?_
  refine q_sipush (pc' := 8) (v := nI 201) hC dX2_init_5 rfl rfl ?_
  refine q_newa (pc' := 10) (ty := .int) (t := 0) (N := 201) (a0 := (201, .inl (fun _ => 0))) hC rfl w_ac_int rfl (fun _ h9 => h9) (fun _ => rfl) (by decide) (Nat.le_of_ble_eq_true rfl) (Nat.le_trans (m := 2) (by decide) hR.1.1) (Nat.le_trans (m := 207) (Nat.le_of_ble_eq_true rfl) hR.1.2) dX2_init_8 rfl ?_
  refine q_put (pc' := 13) (C := RX2) (T := TX2) (N := 6) (ci := 1) (i := i) (j := 0) (ty0 := tyX2) hC hR.2 lay_X2 rfl tyX2_ok nmX2 wF_X2_9 (by omega) ((us_o _ _ (by omega)).trans (hS)) (by decide) (by first | exact Or.inl rfl | exact Or.inr ⟨rfl, rfl⟩) (tyX2_ok 0 (by decide)) rfl rfl (Nat.le_of_ble_eq_true rfl) dX2_init_10 rfl ?_
  refine qq_Se (S' := (us (us S n (.inl (g.2.2.2.1 0, 201, .inl (fun _ => 0)))) i (.inr (1, [.ref (z0 + n), .null, .int 0, .int 0, .int 0, .int 0])))) (rfl) ?_
  refine q_aload_n (pc' := 14) (j := 0) hC dX2_init_13 rfl rfl rfl ?_
  refine q_bipush (pc' := 16) (v := nI 6) hC dX2_init_14 rfl rfl ?_
  refine q_newa (pc' := 18) (ty := .int) (t := 0) (N := 6) (a0 := (6, .inl (fun _ => 0))) hC rfl w_ac_int rfl (fun _ h9 => h9) (fun _ => rfl) (by decide) (Nat.le_of_ble_eq_true rfl) (Nat.le_trans (m := 2) (by decide) hR.1.1) (Nat.le_trans (m := 207) (Nat.le_of_ble_eq_true rfl) hR.1.2) dX2_init_16 rfl ?_
  refine qq_Se (S' := (us (us (us S n (.inl (g.2.2.2.1 0, 201, .inl (fun _ => 0)))) (n + 1) (.inl (g.2.2.2.1 0, 6, .inl (fun _ => 0)))) i (.inr (1, [.ref (z0 + n), .null, .int 0, .int 0, .int 0, .int 0])))) (us_comm (by omega)) ?_
  refine q_put (pc' := 21) (C := RX2) (T := TX2) (N := 6) (ci := 1) (i := i) (j := 1) (ty0 := tyX2) hC hR.2 lay_X2 rfl tyX2_ok nmX2 wF_X2_15 (by omega) (us_s _ _ _) (by decide) (by first | exact Or.inl rfl | exact Or.inr ⟨rfl, rfl⟩) (tyX2_ok 1 (by decide)) rfl rfl (Nat.le_of_ble_eq_true rfl) dX2_init_18 rfl ?_
  refine qq_Se (S' := (us (us (us S n (.inl (g.2.2.2.1 0, 201, .inl (fun _ => 0)))) (n + 1) (.inl (g.2.2.2.1 0, 6, .inl (fun _ => 0)))) i (.inr (1, [.ref (z0 + n), .ref (z0 + (n + 1)), .int 0, .int 0, .int 0, .int 0])))) (us_us) ?_
  exact q_ret hC dX2_init_21 (by first | rfl | omega) (fun _ _ => rfl)
set_option maxHeartbeats 4000000 in
set_option maxRecDepth 20000 in
theorem n_X1 (l : Launch) (g : Lay) (z0 : Nat) (S : Nat → va_E) (n i : Nat) (hi : i < n) (hS : S i = .inr (0, [.null, .null, .null, .null, .null, .null, .int 0])) : CN l yX1_init cX1_init 1 1 6 1206 g z0 [.ref (z0 + i)] S n (us (us (us (us (us (us (us S n (aI g 201)) (n + 1) (aI g 201)) (n + 2) (aI g 201)) (n + 3) (aI g 201)) (n + 4) (aI g 201)) (n + 5) (.inl (g.2.2.2.1 0, 201, .inl (upd (fun _ => 0) 0 (nI 1))))) i (.inr (0, [.ref (z0 + n), .ref (z0 + (n + 1)), .ref (z0 + (n + 2)), .ref (z0 + (n + 3)), .ref (z0 + (n + 4)), .ref (z0 + (n + 5)), .int 0]))) (n + 6) := by
  refine CN.of (by decide) rfl (Nat.le_of_ble_eq_true rfl) ?_
  intro x hxl hxa hC hR
  have hC : Cx x RX1 cX1_init 1 none 1 g z0 := hC
  show GN x g z0 1 0 0 _ S n 0 [(0, .ref (z0 + i))] []
  refine q_aload_n (pc' := 1) (j := 0) hC dX1_init_0 rfl rfl rfl ?_
  refine q_obj (pc' := 4) hC (by decide) w_oi_X1 (Nat.le_of_ble_eq_true rfl) dX1_init_1 rfl ?_
  refine q_aload_n (pc' := 5) (j := 0) hC dX1_init_4 rfl rfl rfl ?_
  refine q_sipush (pc' := 8) (v := nI 201) hC dX1_init_5 rfl rfl ?_
  refine q_newa (pc' := 10) (ty := .int) (t := 0) (N := 201) (a0 := (201, .inl (fun _ => 0))) hC rfl w_ac_int rfl (fun _ h9 => h9) (fun _ => rfl) (by decide) (Nat.le_of_ble_eq_true rfl) (Nat.le_trans (m := 6) (by decide) hR.1.1) (Nat.le_trans (m := 1206) (Nat.le_of_ble_eq_true rfl) hR.1.2) dX1_init_8 rfl ?_
  refine q_put (pc' := 13) (C := RX1) (T := TX1) (N := 7) (ci := 0) (i := i) (j := 0) (ty0 := tyX1) hC hR.2 lay_X1 rfl tyX1_ok nmX1 wF_X1_9 (by omega) ((us_o _ _ (by omega)).trans (hS)) (by decide) (by first | exact Or.inl rfl | exact Or.inr ⟨rfl, rfl⟩) (tyX1_ok 0 (by decide)) rfl rfl (Nat.le_of_ble_eq_true rfl) dX1_init_10 rfl ?_
  refine qq_Se (S' := (us (us S n (.inl (g.2.2.2.1 0, 201, .inl (fun _ => 0)))) i (.inr (0, [.ref (z0 + n), .null, .null, .null, .null, .null, .int 0])))) (rfl) ?_
  refine q_aload_n (pc' := 14) (j := 0) hC dX1_init_13 rfl rfl rfl ?_
  refine q_sipush (pc' := 17) (v := nI 201) hC dX1_init_14 rfl rfl ?_
  refine q_newa (pc' := 19) (ty := .int) (t := 0) (N := 201) (a0 := (201, .inl (fun _ => 0))) hC rfl w_ac_int rfl (fun _ h9 => h9) (fun _ => rfl) (by decide) (Nat.le_of_ble_eq_true rfl) (Nat.le_trans (m := 6) (by decide) hR.1.1) (Nat.le_trans (m := 1206) (Nat.le_of_ble_eq_true rfl) hR.1.2) dX1_init_17 rfl ?_
  refine qq_Se (S' := (us (us (us S n (.inl (g.2.2.2.1 0, 201, .inl (fun _ => 0)))) (n + 1) (.inl (g.2.2.2.1 0, 201, .inl (fun _ => 0)))) i (.inr (0, [.ref (z0 + n), .null, .null, .null, .null, .null, .int 0])))) (us_comm (by omega)) ?_
  refine q_put (pc' := 22) (C := RX1) (T := TX1) (N := 7) (ci := 0) (i := i) (j := 1) (ty0 := tyX1) hC hR.2 lay_X1 rfl tyX1_ok nmX1 wF_X1_15 (by omega) (us_s _ _ _) (by decide) (by first | exact Or.inl rfl | exact Or.inr ⟨rfl, rfl⟩) (tyX1_ok 1 (by decide)) rfl rfl (Nat.le_of_ble_eq_true rfl) dX1_init_19 rfl ?_
  refine qq_Se (S' := (us (us (us S n (.inl (g.2.2.2.1 0, 201, .inl (fun _ => 0)))) (n + 1) (.inl (g.2.2.2.1 0, 201, .inl (fun _ => 0)))) i (.inr (0, [.ref (z0 + n), .ref (z0 + (n + 1)), .null, .null, .null, .null, .int 0])))) (us_us) ?_
  refine q_aload_n (pc' := 23) (j := 0) hC dX1_init_22 rfl rfl rfl ?_
  refine q_sipush (pc' := 26) (v := nI 201) hC dX1_init_23 rfl rfl ?_
  refine q_newa (pc' := 28) (ty := .int) (t := 0) (N := 201) (a0 := (201, .inl (fun _ => 0))) hC rfl w_ac_int rfl (fun _ h9 => h9) (fun _ => rfl) (by decide) (Nat.le_of_ble_eq_true rfl) (Nat.le_trans (m := 6) (by decide) hR.1.1) (Nat.le_trans (m := 1206) (Nat.le_of_ble_eq_true rfl) hR.1.2) dX1_init_26 rfl ?_
  refine qq_Se (S' := (us (us (us (us S n (.inl (g.2.2.2.1 0, 201, .inl (fun _ => 0)))) (n + 1) (.inl (g.2.2.2.1 0, 201, .inl (fun _ => 0)))) (n + 2) (.inl (g.2.2.2.1 0, 201, .inl (fun _ => 0)))) i (.inr (0, [.ref (z0 + n), .ref (z0 + (n + 1)), .null, .null, .null, .null, .int 0])))) (us_comm (by omega)) ?_
  refine q_put (pc' := 31) (C := RX1) (T := TX1) (N := 7) (ci := 0) (i := i) (j := 2) (ty0 := tyX1) hC hR.2 lay_X1 rfl tyX1_ok nmX1 wF_X1_18 (by omega) (us_s _ _ _) (by decide) (by first | exact Or.inl rfl | exact Or.inr ⟨rfl, rfl⟩) (tyX1_ok 2 (by decide)) rfl rfl (Nat.le_of_ble_eq_true rfl) dX1_init_28 rfl ?_
  refine qq_Se (S' := (us (us (us (us S n (.inl (g.2.2.2.1 0, 201, .inl (fun _ => 0)))) (n + 1) (.inl (g.2.2.2.1 0, 201, .inl (fun _ => 0)))) (n + 2) (.inl (g.2.2.2.1 0, 201, .inl (fun _ => 0)))) i (.inr (0, [.ref (z0 + n), .ref (z0 + (n + 1)), .ref (z0 + (n + 2)), .null, .null, .null, .int 0])))) (us_us) ?_
  refine q_aload_n (pc' := 32) (j := 0) hC dX1_init_31 rfl rfl rfl ?_
  refine q_sipush (pc' := 35) (v := nI 201) hC dX1_init_32 rfl rfl ?_
  refine q_newa (pc' := 37) (ty := .int) (t := 0) (N := 201) (a0 := (201, .inl (fun _ => 0))) hC rfl w_ac_int rfl (fun _ h9 => h9) (fun _ => rfl) (by decide) (Nat.le_of_ble_eq_true rfl) (Nat.le_trans (m := 6) (by decide) hR.1.1) (Nat.le_trans (m := 1206) (Nat.le_of_ble_eq_true rfl) hR.1.2) dX1_init_35 rfl ?_
  refine qq_Se (S' := (us (us (us (us (us S n (.inl (g.2.2.2.1 0, 201, .inl (fun _ => 0)))) (n + 1) (.inl (g.2.2.2.1 0, 201, .inl (fun _ => 0)))) (n + 2) (.inl (g.2.2.2.1 0, 201, .inl (fun _ => 0)))) (n + 3) (.inl (g.2.2.2.1 0, 201, .inl (fun _ => 0)))) i (.inr (0, [.ref (z0 + n), .ref (z0 + (n + 1)), .ref (z0 + (n + 2)), .null, .null, .null, .int 0])))) (us_comm (by omega)) ?_
  refine q_put (pc' := 40) (C := RX1) (T := TX1) (N := 7) (ci := 0) (i := i) (j := 3) (ty0 := tyX1) hC hR.2 lay_X1 rfl tyX1_ok nmX1 wF_X1_21 (by omega) (us_s _ _ _) (by decide) (by first | exact Or.inl rfl | exact Or.inr ⟨rfl, rfl⟩) (tyX1_ok 3 (by decide)) rfl rfl (Nat.le_of_ble_eq_true rfl) dX1_init_37 rfl ?_
  refine qq_Se (S' := (us (us (us (us (us S n (.inl (g.2.2.2.1 0, 201, .inl (fun _ => 0)))) (n + 1) (.inl (g.2.2.2.1 0, 201, .inl (fun _ => 0)))) (n + 2) (.inl (g.2.2.2.1 0, 201, .inl (fun _ => 0)))) (n + 3) (.inl (g.2.2.2.1 0, 201, .inl (fun _ => 0)))) i (.inr (0, [.ref (z0 + n), .ref (z0 + (n + 1)), .ref (z0 + (n + 2)), .ref (z0 + (n + 3)), .null, .null, .int 0])))) (us_us) ?_
  refine q_aload_n (pc' := 41) (j := 0) hC dX1_init_40 rfl rfl rfl ?_
  refine q_sipush (pc' := 44) (v := nI 201) hC dX1_init_41 rfl rfl ?_
  refine q_newa (pc' := 46) (ty := .int) (t := 0) (N := 201) (a0 := (201, .inl (fun _ => 0))) hC rfl w_ac_int rfl (fun _ h9 => h9) (fun _ => rfl) (by decide) (Nat.le_of_ble_eq_true rfl) (Nat.le_trans (m := 6) (by decide) hR.1.1) (Nat.le_trans (m := 1206) (Nat.le_of_ble_eq_true rfl) hR.1.2) dX1_init_44 rfl ?_
  refine qq_Se (S' := (us (us (us (us (us (us S n (.inl (g.2.2.2.1 0, 201, .inl (fun _ => 0)))) (n + 1) (.inl (g.2.2.2.1 0, 201, .inl (fun _ => 0)))) (n + 2) (.inl (g.2.2.2.1 0, 201, .inl (fun _ => 0)))) (n + 3) (.inl (g.2.2.2.1 0, 201, .inl (fun _ => 0)))) (n + 4) (.inl (g.2.2.2.1 0, 201, .inl (fun _ => 0)))) i (.inr (0, [.ref (z0 + n), .ref (z0 + (n + 1)), .ref (z0 + (n + 2)), .ref (z0 + (n + 3)), .null, .null, .int 0])))) (us_comm (by omega)) ?_
  refine q_put (pc' := 49) (C := RX1) (T := TX1) (N := 7) (ci := 0) (i := i) (j := 4) (ty0 := tyX1) hC hR.2 lay_X1 rfl tyX1_ok nmX1 wF_X1_24 (by omega) (us_s _ _ _) (by decide) (by first | exact Or.inl rfl | exact Or.inr ⟨rfl, rfl⟩) (tyX1_ok 4 (by decide)) rfl rfl (Nat.le_of_ble_eq_true rfl) dX1_init_46 rfl ?_
  refine qq_Se (S' := (us (us (us (us (us (us S n (.inl (g.2.2.2.1 0, 201, .inl (fun _ => 0)))) (n + 1) (.inl (g.2.2.2.1 0, 201, .inl (fun _ => 0)))) (n + 2) (.inl (g.2.2.2.1 0, 201, .inl (fun _ => 0)))) (n + 3) (.inl (g.2.2.2.1 0, 201, .inl (fun _ => 0)))) (n + 4) (.inl (g.2.2.2.1 0, 201, .inl (fun _ => 0)))) i (.inr (0, [.ref (z0 + n), .ref (z0 + (n + 1)), .ref (z0 + (n + 2)), .ref (z0 + (n + 3)), .ref (z0 + (n + 4)), .null, .int 0])))) (us_us) ?_
  refine q_aload_n (pc' := 50) (j := 0) hC dX1_init_49 rfl rfl rfl ?_
  refine q_sipush (pc' := 53) (v := nI 201) hC dX1_init_50 rfl rfl ?_
  refine q_newa (pc' := 55) (ty := .int) (t := 0) (N := 201) (a0 := (201, .inl (fun _ => 0))) hC rfl w_ac_int rfl (fun _ h9 => h9) (fun _ => rfl) (by decide) (Nat.le_of_ble_eq_true rfl) (Nat.le_trans (m := 6) (by decide) hR.1.1) (Nat.le_trans (m := 1206) (Nat.le_of_ble_eq_true rfl) hR.1.2) dX1_init_53 rfl ?_
  refine qq_Se (S' := (us (us (us (us (us (us (us S n (.inl (g.2.2.2.1 0, 201, .inl (fun _ => 0)))) (n + 1) (.inl (g.2.2.2.1 0, 201, .inl (fun _ => 0)))) (n + 2) (.inl (g.2.2.2.1 0, 201, .inl (fun _ => 0)))) (n + 3) (.inl (g.2.2.2.1 0, 201, .inl (fun _ => 0)))) (n + 4) (.inl (g.2.2.2.1 0, 201, .inl (fun _ => 0)))) (n + 5) (.inl (g.2.2.2.1 0, 201, .inl (fun _ => 0)))) i (.inr (0, [.ref (z0 + n), .ref (z0 + (n + 1)), .ref (z0 + (n + 2)), .ref (z0 + (n + 3)), .ref (z0 + (n + 4)), .null, .int 0])))) (us_comm (by omega)) ?_
  refine q_put (pc' := 58) (C := RX1) (T := TX1) (N := 7) (ci := 0) (i := i) (j := 5) (ty0 := tyX1) hC hR.2 lay_X1 rfl tyX1_ok nmX1 wF_X1_27 (by omega) (us_s _ _ _) (by decide) (by first | exact Or.inl rfl | exact Or.inr ⟨rfl, rfl⟩) (tyX1_ok 5 (by decide)) rfl rfl (Nat.le_of_ble_eq_true rfl) dX1_init_55 rfl ?_
  refine qq_Se (S' := (us (us (us (us (us (us (us S n (.inl (g.2.2.2.1 0, 201, .inl (fun _ => 0)))) (n + 1) (.inl (g.2.2.2.1 0, 201, .inl (fun _ => 0)))) (n + 2) (.inl (g.2.2.2.1 0, 201, .inl (fun _ => 0)))) (n + 3) (.inl (g.2.2.2.1 0, 201, .inl (fun _ => 0)))) (n + 4) (.inl (g.2.2.2.1 0, 201, .inl (fun _ => 0)))) (n + 5) (.inl (g.2.2.2.1 0, 201, .inl (fun _ => 0)))) i (.inr (0, [.ref (z0 + n), .ref (z0 + (n + 1)), .ref (z0 + (n + 2)), .ref (z0 + (n + 3)), .ref (z0 + (n + 4)), .ref (z0 + (n + 5)), .int 0])))) (us_us) ?_
  refine q_aload_n (pc' := 59) (j := 0) hC dX1_init_58 rfl rfl rfl ?_
  refine q_get (pc' := 62) (C := RX1) (T := TX1) (N := 7) (ci := 0) (i := i) (j := 5) hC lay_X1 rfl wF_X1_27 (by omega) (us_s _ _ _) (by decide) rfl dX1_init_59 rfl ?_
  refine q_iconst (pc' := 63) (v := nI 0) hC dX1_init_62 rfl rfl ?_
  refine q_iconst (pc' := 64) (v := nI 1) hC dX1_init_63 rfl rfl ?_
  refine q_iast (pc' := 65) (i := n + 5) (j := 0) hC (by omega) ((us_o _ _ (by omega)).trans (us_s _ _ _)) (by decide) (by decide) dX1_init_64 rfl ?_
  refine qq_Se (S' := (us (us (us (us (us (us (us (us S n (.inl (g.2.2.2.1 0, 201, .inl (fun _ => 0)))) (n + 1) (.inl (g.2.2.2.1 0, 201, .inl (fun _ => 0)))) (n + 2) (.inl (g.2.2.2.1 0, 201, .inl (fun _ => 0)))) (n + 3) (.inl (g.2.2.2.1 0, 201, .inl (fun _ => 0)))) (n + 4) (.inl (g.2.2.2.1 0, 201, .inl (fun _ => 0)))) (n + 5) (.inl (g.2.2.2.1 0, 201, .inl (fun _ => 0)))) (n + 5) (.inl (g.2.2.2.1 0, 201, .inl (upd (fun _ => 0) 0 (nI 1))))) i (.inr (0, [.ref (z0 + n), .ref (z0 + (n + 1)), .ref (z0 + (n + 2)), .ref (z0 + (n + 3)), .ref (z0 + (n + 4)), .ref (z0 + (n + 5)), .int 0])))) (us_comm (by omega)) ?_
  refine qq_Se (S' := (us (us (us (us (us (us (us S n (.inl (g.2.2.2.1 0, 201, .inl (fun _ => 0)))) (n + 1) (.inl (g.2.2.2.1 0, 201, .inl (fun _ => 0)))) (n + 2) (.inl (g.2.2.2.1 0, 201, .inl (fun _ => 0)))) (n + 3) (.inl (g.2.2.2.1 0, 201, .inl (fun _ => 0)))) (n + 4) (.inl (g.2.2.2.1 0, 201, .inl (fun _ => 0)))) (n + 5) (.inl (g.2.2.2.1 0, 201, .inl (upd (fun _ => 0) 0 (nI 1))))) i (.inr (0, [.ref (z0 + n), .ref (z0 + (n + 1)), .ref (z0 + (n + 2)), .ref (z0 + (n + 3)), .ref (z0 + (n + 4)), .ref (z0 + (n + 5)), .int 0])))) (us_in) ?_
  exact q_ret hC dX1_init_65 (by first | rfl | omega) (fun _ _ => rfl)
set_option maxHeartbeats 4000000 in
set_option maxRecDepth 20000 in
theorem n_X4a (l : Launch) (g : Lay) (z0 : Nat) (S : Nat → va_E) (n i : Nat) (hi : i < n) (hS : S i = .inr (2, [.int 0, .int 0, .null, .int 0])) : CN l yX4_init cX4_init 3 1 1 360 g z0 [.ref (z0 + i), .int (nI 60), .int (nI 6)] S n (us (us S n (aI g 360)) i (.inr (2, [.int (nI 60), .int (nI 6), .ref (z0 + n), .int 0]))) (n + 1) := by
  refine CN.of (by decide) rfl (Nat.le_of_ble_eq_true rfl) ?_
  intro x hxl hxa hC hR
  have hC : Cx x RX4 cX4_init 3 none 1 g z0 := hC
  show GN x g z0 3 0 0 _ S n 0 [(0, .ref (z0 + i)), (1, .int (nI 60)), (2, .int (nI 6))] []
  refine q_aload_n (pc' := 1) (j := 0) hC dX4_init_0 rfl rfl rfl ?_
  refine q_obj (pc' := 4) hC (by decide) w_oi_X4 (Nat.le_of_ble_eq_true rfl) dX4_init_1 rfl ?_
  refine q_aload_n (pc' := 5) (j := 0) hC dX4_init_4 rfl rfl rfl ?_
  refine q_iload_n (pc' := 6) (j := 1) hC dX4_init_5 rfl rfl rfl ?_
  refine q_iconst (pc' := 7) (v := nI 1) hC dX4_init_6 rfl rfl ?_
  refine q_max (pc' := 10) (st := [.ref (z0 + i)]) hC wM_X4_7 (by decide) (by decide) (by decide) (Nat.le_of_ble_eq_true rfl) dX4_init_7 rfl (Nat.le_trans (m := 1) (by decide) hR.1.1) (Nat.le_trans (m := 360) (Nat.le_of_ble_eq_true rfl) hR.1.2) ?_
  refine qq_topi (b := nI 60) rfl ?_
  refine q_put (pc' := 13) (C := RX4) (T := TX4) (N := 4) (ci := 2) (i := i) (j := 0) (ty0 := tyX4) hC hR.2 lay_X4 rfl tyX4_ok nmX4 wF_X4_13 (by omega) (hS) (by decide) (by first | exact Or.inl rfl | exact Or.inr ⟨rfl, rfl⟩) (tyX4_ok 0 (by decide)) rfl rfl (Nat.le_of_ble_eq_true rfl) dX4_init_10 rfl ?_
  refine qq_Se (S' := (us S i (.inr (2, [.int (nI 60), .int 0, .null, .int 0])))) (rfl) ?_
  refine q_aload_n (pc' := 14) (j := 0) hC dX4_init_13 rfl rfl rfl ?_
  refine q_iload_n (pc' := 15) (j := 2) hC dX4_init_14 rfl rfl rfl ?_
  refine q_iconst (pc' := 16) (v := nI 1) hC dX4_init_15 rfl rfl ?_
  refine q_max (pc' := 19) (st := [.ref (z0 + i)]) hC wM_X4_7 (by decide) (by decide) (by decide) (Nat.le_of_ble_eq_true rfl) dX4_init_16 rfl (Nat.le_trans (m := 1) (by decide) hR.1.1) (Nat.le_trans (m := 360) (Nat.le_of_ble_eq_true rfl) hR.1.2) ?_
  refine qq_topi (b := nI 6) rfl ?_
  refine q_put (pc' := 22) (C := RX4) (T := TX4) (N := 4) (ci := 2) (i := i) (j := 1) (ty0 := tyX4) hC hR.2 lay_X4 rfl tyX4_ok nmX4 wF_X4_19 (by omega) (us_s _ _ _) (by decide) (by first | exact Or.inl rfl | exact Or.inr ⟨rfl, rfl⟩) (tyX4_ok 1 (by decide)) rfl rfl (Nat.le_of_ble_eq_true rfl) dX4_init_19 rfl ?_
  refine qq_Se (S' := (us S i (.inr (2, [.int (nI 60), .int (nI 6), .null, .int 0])))) (us_us) ?_
  refine q_aload_n (pc' := 23) (j := 0) hC dX4_init_22 rfl rfl rfl ?_
  refine q_aload_n (pc' := 24) (j := 0) hC dX4_init_23 rfl rfl rfl ?_
  refine q_get (pc' := 27) (C := RX4) (T := TX4) (N := 4) (ci := 2) (i := i) (j := 0) hC lay_X4 rfl wF_X4_13 (by omega) (us_s _ _ _) (by decide) rfl dX4_init_24 rfl ?_
  refine q_aload_n (pc' := 28) (j := 0) hC dX4_init_27 rfl rfl rfl ?_
  refine q_get (pc' := 31) (C := RX4) (T := TX4) (N := 4) (ci := 2) (i := i) (j := 1) hC lay_X4 rfl wF_X4_19 (by omega) (us_s _ _ _) (by decide) rfl dX4_init_28 rfl ?_
  refine qn_imul (pc' := 32) hC dX4_init_31 rfl ?_
  refine qq_topi (b := nI 360) rfl ?_
  refine q_newa (pc' := 34) (ty := .int) (t := 0) (N := 360) (a0 := (360, .inl (fun _ => 0))) hC rfl w_ac_int rfl (fun _ h9 => h9) (fun _ => rfl) (by decide) (Nat.le_of_ble_eq_true rfl) (Nat.le_trans (m := 1) (by decide) hR.1.1) (Nat.le_trans (m := 360) (Nat.le_of_ble_eq_true rfl) hR.1.2) dX4_init_32 rfl ?_
  refine qq_Se (S' := (us (us S n (.inl (g.2.2.2.1 0, 360, .inl (fun _ => 0)))) i (.inr (2, [.int (nI 60), .int (nI 6), .null, .int 0])))) (us_comm (by omega)) ?_
  refine q_put (pc' := 37) (C := RX4) (T := TX4) (N := 4) (ci := 2) (i := i) (j := 2) (ty0 := tyX4) hC hR.2 lay_X4 rfl tyX4_ok nmX4 wF_X4_22 (by omega) (us_s _ _ _) (by decide) (by first | exact Or.inl rfl | exact Or.inr ⟨rfl, rfl⟩) (tyX4_ok 2 (by decide)) rfl rfl (Nat.le_of_ble_eq_true rfl) dX4_init_34 rfl ?_
  refine qq_Se (S' := (us (us S n (.inl (g.2.2.2.1 0, 360, .inl (fun _ => 0)))) i (.inr (2, [.int (nI 60), .int (nI 6), .ref (z0 + n), .int 0])))) (us_us) ?_
  exact q_ret hC dX4_init_37 (by first | rfl | omega) (fun _ _ => rfl)
set_option maxHeartbeats 4000000 in
set_option maxRecDepth 20000 in
theorem n_X4b (l : Launch) (g : Lay) (z0 : Nat) (S : Nat → va_E) (n i : Nat) (hi : i < n) (hS : S i = .inr (2, [.int 0, .int 0, .null, .int 0])) : CN l yX4_init cX4_init 3 1 1 160 g z0 [.ref (z0 + i), .int (nI 40), .int (nI 4)] S n (us (us S n (aI g 160)) i (.inr (2, [.int (nI 40), .int (nI 4), .ref (z0 + n), .int 0]))) (n + 1) := by
  refine CN.of (by decide) rfl (Nat.le_of_ble_eq_true rfl) ?_
  intro x hxl hxa hC hR
  have hC : Cx x RX4 cX4_init 3 none 1 g z0 := hC
  show GN x g z0 3 0 0 _ S n 0 [(0, .ref (z0 + i)), (1, .int (nI 40)), (2, .int (nI 4))] []
  refine q_aload_n (pc' := 1) (j := 0) hC dX4_init_0 rfl rfl rfl ?_
  refine q_obj (pc' := 4) hC (by decide) w_oi_X4 (Nat.le_of_ble_eq_true rfl) dX4_init_1 rfl ?_
  refine q_aload_n (pc' := 5) (j := 0) hC dX4_init_4 rfl rfl rfl ?_
  refine q_iload_n (pc' := 6) (j := 1) hC dX4_init_5 rfl rfl rfl ?_
  refine q_iconst (pc' := 7) (v := nI 1) hC dX4_init_6 rfl rfl ?_
  refine q_max (pc' := 10) (st := [.ref (z0 + i)]) hC wM_X4_7 (by decide) (by decide) (by decide) (Nat.le_of_ble_eq_true rfl) dX4_init_7 rfl (Nat.le_trans (m := 1) (by decide) hR.1.1) (Nat.le_trans (m := 160) (Nat.le_of_ble_eq_true rfl) hR.1.2) ?_
  refine qq_topi (b := nI 40) rfl ?_
  refine q_put (pc' := 13) (C := RX4) (T := TX4) (N := 4) (ci := 2) (i := i) (j := 0) (ty0 := tyX4) hC hR.2 lay_X4 rfl tyX4_ok nmX4 wF_X4_13 (by omega) (hS) (by decide) (by first | exact Or.inl rfl | exact Or.inr ⟨rfl, rfl⟩) (tyX4_ok 0 (by decide)) rfl rfl (Nat.le_of_ble_eq_true rfl) dX4_init_10 rfl ?_
  refine qq_Se (S' := (us S i (.inr (2, [.int (nI 40), .int 0, .null, .int 0])))) (rfl) ?_
  refine q_aload_n (pc' := 14) (j := 0) hC dX4_init_13 rfl rfl rfl ?_
  refine q_iload_n (pc' := 15) (j := 2) hC dX4_init_14 rfl rfl rfl ?_
  refine q_iconst (pc' := 16) (v := nI 1) hC dX4_init_15 rfl rfl ?_
  refine q_max (pc' := 19) (st := [.ref (z0 + i)]) hC wM_X4_7 (by decide) (by decide) (by decide) (Nat.le_of_ble_eq_true rfl) dX4_init_16 rfl (Nat.le_trans (m := 1) (by decide) hR.1.1) (Nat.le_trans (m := 160) (Nat.le_of_ble_eq_true rfl) hR.1.2) ?_
  refine qq_topi (b := nI 4) rfl ?_
  refine q_put (pc' := 22) (C := RX4) (T := TX4) (N := 4) (ci := 2) (i := i) (j := 1) (ty0 := tyX4) hC hR.2 lay_X4 rfl tyX4_ok nmX4 wF_X4_19 (by omega) (us_s _ _ _) (by decide) (by first | exact Or.inl rfl | exact Or.inr ⟨rfl, rfl⟩) (tyX4_ok 1 (by decide)) rfl rfl (Nat.le_of_ble_eq_true rfl) dX4_init_19 rfl ?_
  refine qq_Se (S' := (us S i (.inr (2, [.int (nI 40), .int (nI 4), .null, .int 0])))) (us_us) ?_
  refine q_aload_n (pc' := 23) (j := 0) hC dX4_init_22 rfl rfl rfl ?_
  refine q_aload_n (pc' := 24) (j := 0) hC dX4_init_23 rfl rfl rfl ?_
  refine q_get (pc' := 27) (C := RX4) (T := TX4) (N := 4) (ci := 2) (i := i) (j := 0) hC lay_X4 rfl wF_X4_13 (by omega) (us_s _ _ _) (by decide) rfl dX4_init_24 rfl ?_
  refine q_aload_n (pc' := 28) (j := 0) hC dX4_init_27 rfl rfl rfl ?_
  refine q_get (pc' := 31) (C := RX4) (T := TX4) (N := 4) (ci := 2) (i := i) (j := 1) hC lay_X4 rfl wF_X4_19 (by omega) (us_s _ _ _) (by decide) rfl dX4_init_28 rfl ?_
  refine qn_imul (pc' := 32) hC dX4_init_31 rfl ?_
  refine qq_topi (b := nI 160) rfl ?_
  refine q_newa (pc' := 34) (ty := .int) (t := 0) (N := 160) (a0 := (160, .inl (fun _ => 0))) hC rfl w_ac_int rfl (fun _ h9 => h9) (fun _ => rfl) (by decide) (Nat.le_of_ble_eq_true rfl) (Nat.le_trans (m := 1) (by decide) hR.1.1) (Nat.le_trans (m := 160) (Nat.le_of_ble_eq_true rfl) hR.1.2) dX4_init_32 rfl ?_
  refine qq_Se (S' := (us (us S n (.inl (g.2.2.2.1 0, 160, .inl (fun _ => 0)))) i (.inr (2, [.int (nI 40), .int (nI 4), .null, .int 0])))) (us_comm (by omega)) ?_
  refine q_put (pc' := 37) (C := RX4) (T := TX4) (N := 4) (ci := 2) (i := i) (j := 2) (ty0 := tyX4) hC hR.2 lay_X4 rfl tyX4_ok nmX4 wF_X4_22 (by omega) (us_s _ _ _) (by decide) (by first | exact Or.inl rfl | exact Or.inr ⟨rfl, rfl⟩) (tyX4_ok 2 (by decide)) rfl rfl (Nat.le_of_ble_eq_true rfl) dX4_init_34 rfl ?_
  refine qq_Se (S' := (us (us S n (.inl (g.2.2.2.1 0, 160, .inl (fun _ => 0)))) i (.inr (2, [.int (nI 40), .int (nI 4), .ref (z0 + n), .int 0])))) (us_us) ?_
  exact q_ret hC dX4_init_37 (by first | rfl | omega) (fun _ _ => rfl)
set_option maxHeartbeats 4000000 in
set_option maxRecDepth 20000 in
theorem n_X8 (l : Launch) (g : Lay) (z0 : Nat) (hG2 : GX2 g) (S : Nat → va_E) (n i : Nat) (hi : i < n) (hS : S i = .inr (6, [.null, .null, .null, .null, .int 0])) : CN l yX8_init cX8_init 1 1 4 3603 g z0 [.ref (z0 + i)] S n (us (us (us (us (us S n (.inl (g.2.2.2.1 1, 900, .inl (fun _ => 0)))) (n + 1) (.inl (g.2.2.2.1 4, 901, qA (fun _ => none)))) (n + 2) (aI g 901)) (n + 3) (aI g 901)) i (.inr (6, [.ref (z0 + n), .ref (z0 + (n + 1)), .ref (z0 + (n + 2)), .ref (z0 + (n + 3)), .int 0]))) (n + 4) := by
  refine CN.of (by decide) rfl (Nat.le_of_ble_eq_true rfl) ?_
  intro x hxl hxa hC hR
  have hC : Cx x RX8 cX8_init 1 none 1 g z0 := hC
  show GN x g z0 1 0 0 _ S n 0 [(0, .ref (z0 + i))] []
  refine q_aload_n (pc' := 1) (j := 0) hC dX8_init_0 rfl rfl rfl ?_
  refine q_obj (pc' := 4) hC (by decide) w_oi_X8 (Nat.le_of_ble_eq_true rfl) dX8_init_1 rfl ?_
  refine q_aload_n (pc' := 5) (j := 0) hC dX8_init_4 rfl rfl rfl ?_
  refine q_sipush (pc' := 8) (v := nI 900) hC dX8_init_5 rfl rfl ?_
  refine q_newa (pc' := 10) (ty := .byte) (t := 1) (N := 900) (a0 := (900, .inl (fun _ => 0))) hC rfl w_ac_byte rfl (fun _ h9 => h9) (fun _ => rfl) (by decide) (Nat.le_of_ble_eq_true rfl) (Nat.le_trans (m := 4) (by decide) hR.1.1) (Nat.le_trans (m := 3603) (Nat.le_of_ble_eq_true rfl) hR.1.2) dX8_init_8 rfl ?_
  refine q_put (pc' := 13) (C := RX8) (T := TX8) (N := 5) (ci := 6) (i := i) (j := 0) (ty0 := tyX8) hC hR.2 lay_X8 rfl tyX8_ok nmX8 wF_X8_9 (by omega) ((us_o _ _ (by omega)).trans (hS)) (by decide) (by first | exact Or.inl rfl | exact Or.inr ⟨rfl, rfl⟩) (tyX8_ok 0 (by decide)) rfl rfl (Nat.le_of_ble_eq_true rfl) dX8_init_10 rfl ?_
  refine qq_Se (S' := (us (us S n (.inl (g.2.2.2.1 1, 900, .inl (fun _ => 0)))) i (.inr (6, [.ref (z0 + n), .null, .null, .null, .int 0])))) (rfl) ?_
  refine q_aload_n (pc' := 14) (j := 0) hC dX8_init_13 rfl rfl rfl ?_
  refine q_sipush (pc' := 17) (v := nI 901) hC dX8_init_14 rfl rfl ?_
  refine q_newq (pc' := 20) (t := 4) (N := 901) hC w_cl_X8_15 (hG2 _ _ hC.2.2.2.2.2.2.2.2.2).2.2.2.1 rfl (by decide) (Nat.le_of_ble_eq_true rfl) (Nat.le_trans (m := 4) (by decide) hR.1.1) (Nat.le_trans (m := 3603) (Nat.le_of_ble_eq_true rfl) hR.1.2) dX8_init_17 rfl ?_
  refine qq_Se (S' := (us (us (us S n (.inl (g.2.2.2.1 1, 900, .inl (fun _ => 0)))) (n + 1) (.inl (g.2.2.2.1 4, 901, qA (fun _ => none)))) i (.inr (6, [.ref (z0 + n), .null, .null, .null, .int 0])))) (us_comm (by omega)) ?_
  refine q_put (pc' := 23) (C := RX8) (T := TX8) (N := 5) (ci := 6) (i := i) (j := 1) (ty0 := tyX8) hC hR.2 lay_X8 rfl tyX8_ok nmX8 wF_X8_17 (by omega) (us_s _ _ _) (by decide) (by first | exact Or.inl rfl | exact Or.inr ⟨rfl, rfl⟩) (tyX8_ok 1 (by decide)) rfl rfl (Nat.le_of_ble_eq_true rfl) dX8_init_20 rfl ?_
  refine qq_Se (S' := (us (us (us S n (.inl (g.2.2.2.1 1, 900, .inl (fun _ => 0)))) (n + 1) (.inl (g.2.2.2.1 4, 901, qA (fun _ => none)))) i (.inr (6, [.ref (z0 + n), .ref (z0 + (n + 1)), .null, .null, .int 0])))) (us_us) ?_
  refine q_aload_n (pc' := 24) (j := 0) hC dX8_init_23 rfl rfl rfl ?_
  refine q_sipush (pc' := 27) (v := nI 901) hC dX8_init_24 rfl rfl ?_
  refine q_newa (pc' := 29) (ty := .int) (t := 0) (N := 901) (a0 := (901, .inl (fun _ => 0))) hC rfl w_ac_int rfl (fun _ h9 => h9) (fun _ => rfl) (by decide) (Nat.le_of_ble_eq_true rfl) (Nat.le_trans (m := 4) (by decide) hR.1.1) (Nat.le_trans (m := 3603) (Nat.le_of_ble_eq_true rfl) hR.1.2) dX8_init_27 rfl ?_
  refine qq_Se (S' := (us (us (us (us S n (.inl (g.2.2.2.1 1, 900, .inl (fun _ => 0)))) (n + 1) (.inl (g.2.2.2.1 4, 901, qA (fun _ => none)))) (n + 2) (.inl (g.2.2.2.1 0, 901, .inl (fun _ => 0)))) i (.inr (6, [.ref (z0 + n), .ref (z0 + (n + 1)), .null, .null, .int 0])))) (us_comm (by omega)) ?_
  refine q_put (pc' := 32) (C := RX8) (T := TX8) (N := 5) (ci := 6) (i := i) (j := 2) (ty0 := tyX8) hC hR.2 lay_X8 rfl tyX8_ok nmX8 wF_X8_21 (by omega) (us_s _ _ _) (by decide) (by first | exact Or.inl rfl | exact Or.inr ⟨rfl, rfl⟩) (tyX8_ok 2 (by decide)) rfl rfl (Nat.le_of_ble_eq_true rfl) dX8_init_29 rfl ?_
  refine qq_Se (S' := (us (us (us (us S n (.inl (g.2.2.2.1 1, 900, .inl (fun _ => 0)))) (n + 1) (.inl (g.2.2.2.1 4, 901, qA (fun _ => none)))) (n + 2) (.inl (g.2.2.2.1 0, 901, .inl (fun _ => 0)))) i (.inr (6, [.ref (z0 + n), .ref (z0 + (n + 1)), .ref (z0 + (n + 2)), .null, .int 0])))) (us_us) ?_
  refine q_aload_n (pc' := 33) (j := 0) hC dX8_init_32 rfl rfl rfl ?_
  refine q_sipush (pc' := 36) (v := nI 901) hC dX8_init_33 rfl rfl ?_
  refine q_newa (pc' := 38) (ty := .int) (t := 0) (N := 901) (a0 := (901, .inl (fun _ => 0))) hC rfl w_ac_int rfl (fun _ h9 => h9) (fun _ => rfl) (by decide) (Nat.le_of_ble_eq_true rfl) (Nat.le_trans (m := 4) (by decide) hR.1.1) (Nat.le_trans (m := 3603) (Nat.le_of_ble_eq_true rfl) hR.1.2) dX8_init_36 rfl ?_
  refine qq_Se (S' := (us (us (us (us (us S n (.inl (g.2.2.2.1 1, 900, .inl (fun _ => 0)))) (n + 1) (.inl (g.2.2.2.1 4, 901, qA (fun _ => none)))) (n + 2) (.inl (g.2.2.2.1 0, 901, .inl (fun _ => 0)))) (n + 3) (.inl (g.2.2.2.1 0, 901, .inl (fun _ => 0)))) i (.inr (6, [.ref (z0 + n), .ref (z0 + (n + 1)), .ref (z0 + (n + 2)), .null, .int 0])))) (us_comm (by omega)) ?_
  refine q_put (pc' := 41) (C := RX8) (T := TX8) (N := 5) (ci := 6) (i := i) (j := 3) (ty0 := tyX8) hC hR.2 lay_X8 rfl tyX8_ok nmX8 wF_X8_25 (by omega) (us_s _ _ _) (by decide) (by first | exact Or.inl rfl | exact Or.inr ⟨rfl, rfl⟩) (tyX8_ok 3 (by decide)) rfl rfl (Nat.le_of_ble_eq_true rfl) dX8_init_38 rfl ?_
  refine qq_Se (S' := (us (us (us (us (us S n (.inl (g.2.2.2.1 1, 900, .inl (fun _ => 0)))) (n + 1) (.inl (g.2.2.2.1 4, 901, qA (fun _ => none)))) (n + 2) (.inl (g.2.2.2.1 0, 901, .inl (fun _ => 0)))) (n + 3) (.inl (g.2.2.2.1 0, 901, .inl (fun _ => 0)))) i (.inr (6, [.ref (z0 + n), .ref (z0 + (n + 1)), .ref (z0 + (n + 2)), .ref (z0 + (n + 3)), .int 0])))) (us_us) ?_
  exact q_ret hC dX8_init_41 (by first | rfl | omega) (fun _ _ => rfl)
