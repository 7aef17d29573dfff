set_option maxHeartbeats 4000000 in
set_option maxRecDepth 20000 in
theorem n_X10 (l : Launch) (g : Lay) (z0 : Nat) (S : Nat → va_E) (n i : Nat) (hi : i < n) (hS : S i = .inr (8, [.int 0, .int 0, .int 0, .int 0, .int 0, .int 0, .null, .null, .null, .null, .null, .null, .null, .null, .null, .null, .null, .null, .null, .null, .null, .int 0, .int 0, .int 0, .int 0, .null, .int 0, .int 0, .int 0, .int 0, .int 0, .int 0, .int 0, .int 0, .long 0, .int 0, .int 0, .int 0, .null, .int 0])) : CN l yX10_init cX10_init 1 1 17 12534 g z0 [.ref (z0 + i)] S n (us (us (us (us (us (us (us (us (us (us (us (us (us (us (us (us (us (us S n (.inl (g.2.2.2.1 0, 8, .inl (fun _ => 0)))) (n + 1) (.inl (g.2.2.2.1 0, 1600, .inl (fun _ => 0)))) (n + 2) (.inl (g.2.2.2.1 0, 1600, .inl (fun _ => 0)))) (n + 3) (.inl (g.2.2.2.1 0, 1600, .inl (fun _ => 0)))) (n + 4) (.inl (g.2.2.2.1 0, 1600, .inl (fun _ => 0)))) (n + 5) (.inl (g.2.2.2.1 0, 1600, .inl (fun _ => 0)))) (n + 6) (.inl (g.2.2.2.1 0, 1600, .inl (fun _ => 0)))) (n + 7) (.inl (g.2.2.2.1 0, 6, .inl (fun _ => 0)))) (n + 8) (.inl (g.2.2.2.1 0, 6, .inl (fun _ => 0)))) (n + 9) (.inl (g.2.2.2.1 0, 6, .inl (fun _ => 0)))) (n + 10) (.inl (g.2.2.2.1 0, 36, .inl (fun _ => 0)))) (n + 11) (.inl (g.2.2.2.1 0, 1206, .inl (fun _ => 0)))) (n + 12) (.inl (g.2.2.2.1 2, 6, .inl (fun _ => 0)))) (n + 13) (.inl (g.2.2.2.1 0, 160, .inl (fun _ => 0)))) (n + 14) (.inl (g.2.2.2.1 0, 360, .inl (fun _ => 0)))) (n + 15) (.inl (g.2.2.2.1 0, 900, .inl (fun _ => 0)))) (n + 16) (.inl (g.2.2.2.1 0, 240, .inl (fun _ => 0)))) i (.inr (8, [.int 0, .int 0, .int 0, .int 0, .int 0, .int 0, .ref (z0 + n), .ref (z0 + (n + 1)), .ref (z0 + (n + 2)), .ref (z0 + (n + 3)), .ref (z0 + (n + 4)), .ref (z0 + (n + 5)), .ref (z0 + (n + 6)), .ref (z0 + (n + 7)), .ref (z0 + (n + 8)), .ref (z0 + (n + 9)), .ref (z0 + (n + 10)), .ref (z0 + (n + 11)), .ref (z0 + (n + 12)), .ref (z0 + (n + 13)), .ref (z0 + (n + 14)), .int 0, .int 0, .int 0, .int 0, .ref (z0 + (n + 15)), .int 0, .int 0, .int 0, .int 0, .int 0, .int 0, .int 0, .int (-1), .long 0, .int 0, .int 0, .int 0, .ref (z0 + (n + 16)), .int 0]))) (n + 17) := by
  refine CN.of (by decide) rfl (Nat.le_of_ble_eq_true rfl) ?_
  intro x hxl hxa hC hR
  have hC : Cx x RX10 cX10_init 1 none 1 g z0 := hC
  show GN x g z0 1 0 0 _ S n 0 [(0, .ref (z0 + i))] []
  refine q_aload_n (pc' := 1) (j := 0) hC dX10_init_0 rfl rfl rfl ?_
  refine q_obj (pc' := 4) hC (by decide) w_oi_X10 (Nat.le_of_ble_eq_true rfl) dX10_init_1 rfl ?_
  refine q_aload_n (pc' := 5) (j := 0) hC dX10_init_4 rfl rfl rfl ?_
  refine q_bipush (pc' := 7) (v := nI 8) hC dX10_init_5 rfl rfl ?_
  refine q_newa (pc' := 9) (ty := .int) (t := 0) (N := 8) (a0 := (8, .inl (fun _ => 0))) hC rfl w_ac_int rfl (fun _ h9 => h9) (fun _ => rfl) (by decide) (Nat.le_of_ble_eq_true rfl) (Nat.le_trans (m := 17) (by decide) hR.1.1) (Nat.le_trans (m := 12534) (Nat.le_of_ble_eq_true rfl) hR.1.2) dX10_init_7 rfl ?_
  refine q_put (pc' := 12) (C := RX10) (T := TX10) (N := 40) (ci := 8) (i := i) (j := 6) (ty0 := tyX10) hC hR.2 lay_X10 rfl tyX10_ok nmX10 wF_X10_7 (by omega) ((us_o _ _ (by omega)).trans (hS)) (by decide) (by first | exact Or.inl rfl | exact Or.inr ⟨rfl, rfl⟩) (tyX10_ok 6 (by decide)) rfl rfl (Nat.le_of_ble_eq_true rfl) dX10_init_9 rfl ?_
  refine q_aload_n (pc' := 13) (j := 0) hC dX10_init_12 rfl rfl rfl ?_
  refine q_sipush (pc' := 16) (v := nI 1600) hC dX10_init_13 rfl rfl ?_
  refine q_newa (pc' := 18) (ty := .int) (t := 0) (N := 1600) (a0 := (1600, .inl (fun _ => 0))) hC rfl w_ac_int rfl (fun _ h9 => h9) (fun _ => rfl) (by decide) (Nat.le_of_ble_eq_true rfl) (Nat.le_trans (m := 17) (by decide) hR.1.1) (Nat.le_trans (m := 12534) (Nat.le_of_ble_eq_true rfl) hR.1.2) dX10_init_16 rfl ?_
  refine qq_Se (us_comm (by omega)) ?_
  refine q_put (pc' := 21) (C := RX10) (T := TX10) (N := 40) (ci := 8) (i := i) (j := 7) (ty0 := tyX10) hC hR.2 lay_X10 rfl tyX10_ok nmX10 wF_X10_13 (by omega) (us_s _ _ _) (by decide) (by first | exact Or.inl rfl | exact Or.inr ⟨rfl, rfl⟩) (tyX10_ok 7 (by decide)) rfl rfl (Nat.le_of_ble_eq_true rfl) dX10_init_18 rfl ?_
  refine qq_Se us_us ?_
  refine q_aload_n (pc' := 22) (j := 0) hC dX10_init_21 rfl rfl rfl ?_
  refine q_sipush (pc' := 25) (v := nI 1600) hC dX10_init_22 rfl rfl ?_
  refine q_newa (pc' := 27) (ty := .int) (t := 0) (N := 1600) (a0 := (1600, .inl (fun _ => 0))) hC rfl w_ac_int rfl (fun _ h9 => h9) (fun _ => rfl) (by decide) (Nat.le_of_ble_eq_true rfl) (Nat.le_trans (m := 17) (by decide) hR.1.1) (Nat.le_trans (m := 12534) (Nat.le_of_ble_eq_true rfl) hR.1.2) dX10_init_25 rfl ?_
  refine qq_Se (us_comm (by omega)) ?_
  refine q_put (pc' := 30) (C := RX10) (T := TX10) (N := 40) (ci := 8) (i := i) (j := 8) (ty0 := tyX10) hC hR.2 lay_X10 rfl tyX10_ok nmX10 wF_X10_16 (by omega) (us_s _ _ _) (by decide) (by first | exact Or.inl rfl | exact Or.inr ⟨rfl, rfl⟩) (tyX10_ok 8 (by decide)) rfl rfl (Nat.le_of_ble_eq_true rfl) dX10_init_27 rfl ?_
  refine qq_Se us_us ?_
  refine q_aload_n (pc' := 31) (j := 0) hC dX10_init_30 rfl rfl rfl ?_
  refine q_sipush (pc' := 34) (v := nI 1600) hC dX10_init_31 rfl rfl ?_
  refine q_newa (pc' := 36) (ty := .int) (t := 0) (N := 1600) (a0 := (1600, .inl (fun _ => 0))) hC rfl w_ac_int rfl (fun _ h9 => h9) (fun _ => rfl) (by decide) (Nat.le_of_ble_eq_true rfl) (Nat.le_trans (m := 17) (by decide) hR.1.1) (Nat.le_trans (m := 12534) (Nat.le_of_ble_eq_true rfl) hR.1.2) dX10_init_34 rfl ?_
  refine qq_Se (us_comm (by omega)) ?_
  refine q_put (pc' := 39) (C := RX10) (T := TX10) (N := 40) (ci := 8) (i := i) (j := 9) (ty0 := tyX10) hC hR.2 lay_X10 rfl tyX10_ok nmX10 wF_X10_19 (by omega) (us_s _ _ _) (by decide) (by first | exact Or.inl rfl | exact Or.inr ⟨rfl, rfl⟩) (tyX10_ok 9 (by decide)) rfl rfl (Nat.le_of_ble_eq_true rfl) dX10_init_36 rfl ?_
  refine qq_Se us_us ?_
  refine q_aload_n (pc' := 40) (j := 0) hC dX10_init_39 rfl rfl rfl ?_
  refine q_sipush (pc' := 43) (v := nI 1600) hC dX10_init_40 rfl rfl ?_
  refine q_newa (pc' := 45) (ty := .int) (t := 0) (N := 1600) (a0 := (1600, .inl (fun _ => 0))) hC rfl w_ac_int rfl (fun _ h9 => h9) (fun _ => rfl) (by decide) (Nat.le_of_ble_eq_true rfl) (Nat.le_trans (m := 17) (by decide) hR.1.1) (Nat.le_trans (m := 12534) (Nat.le_of_ble_eq_true rfl) hR.1.2) dX10_init_43 rfl ?_
  refine qq_Se (us_comm (by omega)) ?_
  refine q_put (pc' := 48) (C := RX10) (T := TX10) (N := 40) (ci := 8) (i := i) (j := 10) (ty0 := tyX10) hC hR.2 lay_X10 rfl tyX10_ok nmX10 wF_X10_22 (by omega) (us_s _ _ _) (by decide) (by first | exact Or.inl rfl | exact Or.inr ⟨rfl, rfl⟩) (tyX10_ok 10 (by decide)) rfl rfl (Nat.le_of_ble_eq_true rfl) dX10_init_45 rfl ?_
  refine qq_Se us_us ?_
  refine q_aload_n (pc' := 49) (j := 0) hC dX10_init_48 rfl rfl rfl ?_
  refine q_sipush (pc' := 52) (v := nI 1600) hC dX10_init_49 rfl rfl ?_
  refine q_newa (pc' := 54) (ty := .int) (t := 0) (N := 1600) (a0 := (1600, .inl (fun _ => 0))) hC rfl w_ac_int rfl (fun _ h9 => h9) (fun _ => rfl) (by decide) (Nat.le_of_ble_eq_true rfl) (Nat.le_trans (m := 17) (by decide) hR.1.1) (Nat.le_trans (m := 12534) (Nat.le_of_ble_eq_true rfl) hR.1.2) dX10_init_52 rfl ?_
  refine qq_Se (us_comm (by omega)) ?_
  refine q_put (pc' := 57) (C := RX10) (T := TX10) (N := 40) (ci := 8) (i := i) (j := 11) (ty0 := tyX10) hC hR.2 lay_X10 rfl tyX10_ok nmX10 wF_X10_25 (by omega) (us_s _ _ _) (by decide) (by first | exact Or.inl rfl | exact Or.inr ⟨rfl, rfl⟩) (tyX10_ok 11 (by decide)) rfl rfl (Nat.le_of_ble_eq_true rfl) dX10_init_54 rfl ?_
  refine qq_Se us_us ?_
  refine q_aload_n (pc' := 58) (j := 0) hC dX10_init_57 rfl rfl rfl ?_
  refine q_sipush (pc' := 61) (v := nI 1600) hC dX10_init_58 rfl rfl ?_
  refine q_newa (pc' := 63) (ty := .int) (t := 0) (N := 1600) (a0 := (1600, .inl (fun _ => 0))) hC rfl w_ac_int rfl (fun _ h9 => h9) (fun _ => rfl) (by decide) (Nat.le_of_ble_eq_true rfl) (Nat.le_trans (m := 17) (by decide) hR.1.1) (Nat.le_trans (m := 12534) (Nat.le_of_ble_eq_true rfl) hR.1.2) dX10_init_61 rfl ?_
  refine qq_Se (us_comm (by omega)) ?_
  refine q_put (pc' := 66) (C := RX10) (T := TX10) (N := 40) (ci := 8) (i := i) (j := 12) (ty0 := tyX10) hC hR.2 lay_X10 rfl tyX10_ok nmX10 wF_X10_28 (by omega) (us_s _ _ _) (by decide) (by first | exact Or.inl rfl | exact Or.inr ⟨rfl, rfl⟩) (tyX10_ok 12 (by decide)) rfl rfl (Nat.le_of_ble_eq_true rfl) dX10_init_63 rfl ?_
  refine qq_Se us_us ?_
  refine q_aload_n (pc' := 67) (j := 0) hC dX10_init_66 rfl rfl rfl ?_
  refine q_bipush (pc' := 69) (v := nI 6) hC dX10_init_67 rfl rfl ?_
  refine q_newa (pc' := 71) (ty := .int) (t := 0) (N := 6) (a0 := (6, .inl (fun _ => 0))) hC rfl w_ac_int rfl (fun _ h9 => h9) (fun _ => rfl) (by decide) (Nat.le_of_ble_eq_true rfl) (Nat.le_trans (m := 17) (by decide) hR.1.1) (Nat.le_trans (m := 12534) (Nat.le_of_ble_eq_true rfl) hR.1.2) dX10_init_69 rfl ?_
  refine qq_Se (us_comm (by omega)) ?_
  refine q_put (pc' := 74) (C := RX10) (T := TX10) (N := 40) (ci := 8) (i := i) (j := 13) (ty0 := tyX10) hC hR.2 lay_X10 rfl tyX10_ok nmX10 wF_X10_31 (by omega) (us_s _ _ _) (by decide) (by first | exact Or.inl rfl | exact Or.inr ⟨rfl, rfl⟩) (tyX10_ok 13 (by decide)) rfl rfl (Nat.le_of_ble_eq_true rfl) dX10_init_71 rfl ?_
  refine qq_Se us_us ?_
  refine q_aload_n (pc' := 75) (j := 0) hC dX10_init_74 rfl rfl rfl ?_
  refine q_bipush (pc' := 77) (v := nI 6) hC dX10_init_75 rfl rfl ?_
  refine q_newa (pc' := 79) (ty := .int) (t := 0) (N := 6) (a0 := (6, .inl (fun _ => 0))) hC rfl w_ac_int rfl (fun _ h9 => h9) (fun _ => rfl) (by decide) (Nat.le_of_ble_eq_true rfl) (Nat.le_trans (m := 17) (by decide) hR.1.1) (Nat.le_trans (m := 12534) (Nat.le_of_ble_eq_true rfl) hR.1.2) dX10_init_77 rfl ?_
  refine qq_Se (us_comm (by omega)) ?_
  refine q_put (pc' := 82) (C := RX10) (T := TX10) (N := 40) (ci := 8) (i := i) (j := 14) (ty0 := tyX10) hC hR.2 lay_X10 rfl tyX10_ok nmX10 wF_X10_34 (by omega) (us_s _ _ _) (by decide) (by first | exact Or.inl rfl | exact Or.inr ⟨rfl, rfl⟩) (tyX10_ok 14 (by decide)) rfl rfl (Nat.le_of_ble_eq_true rfl) dX10_init_79 rfl ?_
  refine qq_Se us_us ?_
  refine q_aload_n (pc' := 83) (j := 0) hC dX10_init_82 rfl rfl rfl ?_
  refine q_bipush (pc' := 85) (v := nI 6) hC dX10_init_83 rfl rfl ?_
  refine q_newa (pc' := 87) (ty := .int) (t := 0) (N := 6) (a0 := (6, .inl (fun _ => 0))) hC rfl w_ac_int rfl (fun _ h9 => h9) (fun _ => rfl) (by decide) (Nat.le_of_ble_eq_true rfl) (Nat.le_trans (m := 17) (by decide) hR.1.1) (Nat.le_trans (m := 12534) (Nat.le_of_ble_eq_true rfl) hR.1.2) dX10_init_85 rfl ?_
  refine qq_Se (us_comm (by omega)) ?_
  refine q_put (pc' := 90) (C := RX10) (T := TX10) (N := 40) (ci := 8) (i := i) (j := 15) (ty0 := tyX10) hC hR.2 lay_X10 rfl tyX10_ok nmX10 wF_X10_37 (by omega) (us_s _ _ _) (by decide) (by first | exact Or.inl rfl | exact Or.inr ⟨rfl, rfl⟩) (tyX10_ok 15 (by decide)) rfl rfl (Nat.le_of_ble_eq_true rfl) dX10_init_87 rfl ?_
  refine qq_Se us_us ?_
  refine q_aload_n (pc' := 91) (j := 0) hC dX10_init_90 rfl rfl rfl ?_
  refine q_bipush (pc' := 93) (v := nI 36) hC dX10_init_91 rfl rfl ?_
  refine q_newa (pc' := 95) (ty := .int) (t := 0) (N := 36) (a0 := (36, .inl (fun _ => 0))) hC rfl w_ac_int rfl (fun _ h9 => h9) (fun _ => rfl) (by decide) (Nat.le_of_ble_eq_true rfl) (Nat.le_trans (m := 17) (by decide) hR.1.1) (Nat.le_trans (m := 12534) (Nat.le_of_ble_eq_true rfl) hR.1.2) dX10_init_93 rfl ?_
  refine qq_Se (us_comm (by omega)) ?_
  refine q_put (pc' := 98) (C := RX10) (T := TX10) (N := 40) (ci := 8) (i := i) (j := 16) (ty0 := tyX10) hC hR.2 lay_X10 rfl tyX10_ok nmX10 wF_X10_40 (by omega) (us_s _ _ _) (by decide) (by first | exact Or.inl rfl | exact Or.inr ⟨rfl, rfl⟩) (tyX10_ok 16 (by decide)) rfl rfl (Nat.le_of_ble_eq_true rfl) dX10_init_95 rfl ?_
  refine qq_Se us_us ?_
  refine q_aload_n (pc' := 99) (j := 0) hC dX10_init_98 rfl rfl rfl ?_
  refine q_sipush (pc' := 102) (v := nI 1206) hC dX10_init_99 rfl rfl ?_
  refine q_newa (pc' := 104) (ty := .int) (t := 0) (N := 1206) (a0 := (1206, .inl (fun _ => 0))) hC rfl w_ac_int rfl (fun _ h9 => h9) (fun _ => rfl) (by decide) (Nat.le_of_ble_eq_true rfl) (Nat.le_trans (m := 17) (by decide) hR.1.1) (Nat.le_trans (m := 12534) (Nat.le_of_ble_eq_true rfl) hR.1.2) dX10_init_102 rfl ?_
  refine qq_Se (us_comm (by omega)) ?_
  refine q_put (pc' := 107) (C := RX10) (T := TX10) (N := 40) (ci := 8) (i := i) (j := 17) (ty0 := tyX10) hC hR.2 lay_X10 rfl tyX10_ok nmX10 wF_X10_43 (by omega) (us_s _ _ _) (by decide) (by first | exact Or.inl rfl | exact Or.inr ⟨rfl, rfl⟩) (tyX10_ok 17 (by decide)) rfl rfl (Nat.le_of_ble_eq_true rfl) dX10_init_104 rfl ?_
  refine qq_Se us_us ?_
  refine q_aload_n (pc' := 108) (j := 0) hC dX10_init_107 rfl rfl rfl ?_
  refine q_bipush (pc' := 110) (v := nI 6) hC dX10_init_108 rfl rfl ?_
  refine q_newa (pc' := 112) (ty := .boolean) (t := 2) (N := 6) (a0 := (6, .inl (fun _ => 0))) hC rfl w_ac_boolean rfl (fun _ h9 => h9) (fun _ => rfl) (by decide) (Nat.le_of_ble_eq_true rfl) (Nat.le_trans (m := 17) (by decide) hR.1.1) (Nat.le_trans (m := 12534) (Nat.le_of_ble_eq_true rfl) hR.1.2) dX10_init_110 rfl ?_
  refine qq_Se (us_comm (by omega)) ?_
  refine q_put (pc' := 115) (C := RX10) (T := TX10) (N := 40) (ci := 8) (i := i) (j := 18) (ty0 := tyX10) hC hR.2 lay_X10 rfl tyX10_ok nmX10 wF_X10_46 (by omega) (us_s _ _ _) (by decide) (by first | exact Or.inl rfl | exact Or.inr ⟨rfl, rfl⟩) (tyX10_ok 18 (by decide)) rfl rfl (Nat.le_of_ble_eq_true rfl) dX10_init_112 rfl ?_
  refine qq_Se us_us ?_
  refine q_aload_n (pc' := 116) (j := 0) hC dX10_init_115 rfl rfl rfl ?_
  refine q_sipush (pc' := 119) (v := nI 160) hC dX10_init_116 rfl rfl ?_
  refine q_newa (pc' := 121) (ty := .int) (t := 0) (N := 160) (a0 := (160, .inl (fun _ => 0))) hC rfl w_ac_int rfl (fun _ h9 => h9) (fun _ => rfl) (by decide) (Nat.le_of_ble_eq_true rfl) (Nat.le_trans (m := 17) (by decide) hR.1.1) (Nat.le_trans (m := 12534) (Nat.le_of_ble_eq_true rfl) hR.1.2) dX10_init_119 rfl ?_
  refine qq_Se (us_comm (by omega)) ?_
  refine q_put (pc' := 124) (C := RX10) (T := TX10) (N := 40) (ci := 8) (i := i) (j := 19) (ty0 := tyX10) hC hR.2 lay_X10 rfl tyX10_ok nmX10 wF_X10_50 (by omega) (us_s _ _ _) (by decide) (by first | exact Or.inl rfl | exact Or.inr ⟨rfl, rfl⟩) (tyX10_ok 19 (by decide)) rfl rfl (Nat.le_of_ble_eq_true rfl) dX10_init_121 rfl ?_
  refine qq_Se us_us ?_
  refine q_aload_n (pc' := 125) (j := 0) hC dX10_init_124 rfl rfl rfl ?_
  refine q_sipush (pc' := 128) (v := nI 360) hC dX10_init_125 rfl rfl ?_
  refine q_newa (pc' := 130) (ty := .int) (t := 0) (N := 360) (a0 := (360, .inl (fun _ => 0))) hC rfl w_ac_int rfl (fun _ h9 => h9) (fun _ => rfl) (by decide) (Nat.le_of_ble_eq_true rfl) (Nat.le_trans (m := 17) (by decide) hR.1.1) (Nat.le_trans (m := 12534) (Nat.le_of_ble_eq_true rfl) hR.1.2) dX10_init_128 rfl ?_
  refine qq_Se (us_comm (by omega)) ?_
  refine q_put (pc' := 133) (C := RX10) (T := TX10) (N := 40) (ci := 8) (i := i) (j := 20) (ty0 := tyX10) hC hR.2 lay_X10 rfl tyX10_ok nmX10 wF_X10_53 (by omega) (us_s _ _ _) (by decide) (by first | exact Or.inl rfl | exact Or.inr ⟨rfl, rfl⟩) (tyX10_ok 20 (by decide)) rfl rfl (Nat.le_of_ble_eq_true rfl) dX10_init_130 rfl ?_
  refine qq_Se us_us ?_
  refine q_aload_n (pc' := 134) (j := 0) hC dX10_init_133 rfl rfl rfl ?_
  refine q_sipush (pc' := 137) (v := nI 900) hC dX10_init_134 rfl rfl ?_
  refine q_newa (pc' := 139) (ty := .int) (t := 0) (N := 900) (a0 := (900, .inl (fun _ => 0))) hC rfl w_ac_int rfl (fun _ h9 => h9) (fun _ => rfl) (by decide) (Nat.le_of_ble_eq_true rfl) (Nat.le_trans (m := 17) (by decide) hR.1.1) (Nat.le_trans (m := 12534) (Nat.le_of_ble_eq_true rfl) hR.1.2) dX10_init_137 rfl ?_
  refine qq_Se (us_comm (by omega)) ?_
  refine q_put (pc' := 142) (C := RX10) (T := TX10) (N := 40) (ci := 8) (i := i) (j := 25) (ty0 := tyX10) hC hR.2 lay_X10 rfl tyX10_ok nmX10 wF_X10_56 (by omega) (us_s _ _ _) (by decide) (by first | exact Or.inl rfl | exact Or.inr ⟨rfl, rfl⟩) (tyX10_ok 25 (by decide)) rfl rfl (Nat.le_of_ble_eq_true rfl) dX10_init_139 rfl ?_
  refine qq_Se us_us ?_
  refine q_aload_n (pc' := 143) (j := 0) hC dX10_init_142 rfl rfl rfl ?_
  refine q_iconst (pc' := 144) (v := (-1)) hC dX10_init_143 rfl rfl ?_
  refine q_put (pc' := 147) (C := RX10) (T := TX10) (N := 40) (ci := 8) (i := i) (j := 33) (ty0 := tyX10) hC hR.2 lay_X10 rfl tyX10_ok nmX10 wF_X10_59 (by omega) (us_s _ _ _) (by decide) (by first | exact Or.inl rfl | exact Or.inr ⟨rfl, rfl⟩) (tyX10_ok 33 (by decide)) rfl rfl (Nat.le_of_ble_eq_true rfl) dX10_init_144 rfl ?_
  refine qq_Se us_us ?_
  refine q_aload_n (pc' := 148) (j := 0) hC dX10_init_147 rfl rfl rfl ?_
  refine q_sipush (pc' := 151) (v := nI 240) hC dX10_init_148 rfl rfl ?_
  refine q_newa (pc' := 153) (ty := .int) (t := 0) (N := 240) (a0 := (240, .inl (fun _ => 0))) hC rfl w_ac_int rfl (fun _ h9 => h9) (fun _ => rfl) (by decide) (Nat.le_of_ble_eq_true rfl) (Nat.le_trans (m := 17) (by decide) hR.1.1) (Nat.le_trans (m := 12534) (Nat.le_of_ble_eq_true rfl) hR.1.2) dX10_init_151 rfl ?_
  refine qq_Se (us_comm (by omega)) ?_
  refine q_put (pc' := 156) (C := RX10) (T := TX10) (N := 40) (ci := 8) (i := i) (j := 38) (ty0 := tyX10) hC hR.2 lay_X10 rfl tyX10_ok nmX10 wF_X10_63 (by omega) (us_s _ _ _) (by decide) (by first | exact Or.inl rfl | exact Or.inr ⟨rfl, rfl⟩) (tyX10_ok 38 (by decide)) rfl rfl (Nat.le_of_ble_eq_true rfl) dX10_init_153 rfl ?_
  refine qq_Se us_us ?_
  sorry

