set_option maxHeartbeats 4000000 in
set_option maxRecDepth 20000 in
theorem c_length (l : Launch) (g : Lay) (z0 : Nat) (σ : St) (b : Int32) (hNT : l.stackTraces = false) (hT : GT g z0) (hI : CI σ)  : CXi l yX9_length cX9_length 2 (some .int) 7 1 g z0 [.ref (g.2.1 0), .int b] σ (FXi (wBr σ b) (σ.1 (34 + 7 * cn b) 6) σ) (FXx (wBr σ b) σ) := by
  refine CXi.of hNT (by decide) (Nat.le_of_ble_eq_true rfl) ?_
  intro x hxl hxa hC hY
  have hC : Cx x RX9 cX9_length 2 (some .int) 7 g z0 := hC
  show GG x g z0 2 0 0 (Xi x g z0 (FXi (wBr σ b) (σ.1 (34 + 7 * cn b) 6) σ) (FXx (wBr σ b) σ) 1) σ 0 [(0, .ref (g.2.1 0)), (1, .int b)] []
  refine g_aload_n (pc' := 1) (j := 0) hC dX9_length_0 rfl rfl rfl ?_
  refine g_iload_n (pc' := 2) (j := 1) hC dX9_length_1 rfl rfl rfl ?_
  refine fx_Vv (pc' := 5) (kr := 0) (st := []) hC hY (c_requireBranch x.2.1 g z0 σ b (hY.2.2) (hT) (hI.nr)) k_X9_requireBranch wM_X9_191 (by decide) (by decide) (ct_0 g σ) rfl rfl rfl rfl (Nat.le_of_ble_eq_true rfl) dX9_length_2 rfl (by decide) (by decide) (fun E x2 => ?_) (fun x2 => ?_)
  · exact ⟨x2, rfl⟩
  obtain ⟨hcN, hcL⟩ := vl2_n (by have := hI.nr.2; omega) (cI_no x2)
  have hcM := hI.nr.2
  refine gg_lve (lv' := [(0, .ref (g.2.1 0)), (1, .int (nI (cn b)))]) (by rw [← hcN]) ?_
  refine g_aload_n (pc' := 6) (j := 0) hC dX9_length_5 rfl rfl rfl ?_
  refine gf_X9_1 (pc' := 9) hC wF_X9_19 dX9_length_6 rfl ?_
  refine gf_X6_0 (pc' := 12) hC wF_X9_174 dX9_length_9 rfl ?_
  refine g_iload_n (pc' := 13) (j := 1) hC dX9_length_12 rfl rfl rfl ?_
  refine a_ldr (pc' := 14) (k := 9) (t := 5) (i := cn b) hC (by decide) (ct_9 g σ) rfl (by omega) (by decide) dX9_length_13 rfl ?_
  refine gf_X1_6 (pc' := 17) (b := cn b) hC (by omega : (cn b) < 8) wF_X9_194 dX9_length_14 rfl ?_
  refine gx_ret hC (by decide) (by decide) dX9_length_17 rfl ?_
  exact ⟨x2, rfl, rfl⟩
set_option maxHeartbeats 4000000 in
set_option maxRecDepth 20000 in
theorem c_branchOf (l : Launch) (g : Lay) (z0 : Nat) (σ : St) (c : Int32) (hNT : l.stackTraces = false) (hT : GT g z0) (hI : CI σ)  : CXi l yX9_branchOf cX9_branchOf 2 (some .int) 7 1 g z0 [.ref (g.2.1 0), .int c] σ (FXi (wCl σ c) (σ.1 (90 + 3 * cn c) 3) σ) (FXx (wCl σ c) σ) := by
  refine CXi.of hNT (by decide) (Nat.le_of_ble_eq_true rfl) ?_
  intro x hxl hxa hC hY
  have hC : Cx x RX9 cX9_branchOf 2 (some .int) 7 g z0 := hC
  show GG x g z0 2 0 0 (Xi x g z0 (FXi (wCl σ c) (σ.1 (90 + 3 * cn c) 3) σ) (FXx (wCl σ c) σ) 1) σ 0 [(0, .ref (g.2.1 0)), (1, .int c)] []
  refine g_aload_n (pc' := 1) (j := 0) hC dX9_branchOf_0 rfl rfl rfl ?_
  refine g_iload_n (pc' := 2) (j := 1) hC dX9_branchOf_1 rfl rfl rfl ?_
  refine fx_Vv (pc' := 5) (kr := 0) (st := []) hC hY (c_requireClient x.2.1 g z0 σ c (hY.2.2) (hT) (hI.nc)) k_X9_requireClient wM_X9_161 (by decide) (by decide) (ct_0 g σ) rfl rfl rfl rfl (Nat.le_of_ble_eq_true rfl) dX9_branchOf_2 rfl (by decide) (by decide) (fun E x2 => ?_) (fun x2 => ?_)
  · exact ⟨x2, rfl⟩
  obtain ⟨hcN, hcL⟩ := vl2_n (by have := hI.nc.2; omega) (cI_no x2)
  have hcM := hI.nc.2
  refine gg_lve (lv' := [(0, .ref (g.2.1 0)), (1, .int (nI (cn c)))]) (by rw [← hcN]) ?_
  refine g_aload_n (pc' := 6) (j := 0) hC dX9_branchOf_5 rfl rfl rfl ?_
  refine gf_X9_1 (pc' := 9) hC wF_X9_19 dX9_branchOf_6 rfl ?_
  refine gf_X6_1 (pc' := 12) hC wF_X9_164 dX9_branchOf_9 rfl ?_
  refine g_iload_n (pc' := 13) (j := 1) hC dX9_branchOf_12 rfl rfl rfl ?_
  refine a_ldr (pc' := 14) (k := 10) (t := 6) (i := cn c) hC (by decide) (ct_10 g σ) rfl (by omega) (by decide) dX9_branchOf_13 rfl ?_
  refine gf_X2_3 (pc' := 17) (b := cn c) hC (by omega : (cn c) < 6) wF_X9_178 dX9_branchOf_14 rfl ?_
  refine gx_ret hC (by decide) (by decide) dX9_branchOf_17 rfl ?_
  exact ⟨x2, rfl, rfl⟩
set_option maxHeartbeats 4000000 in
set_option maxRecDepth 20000 in
theorem c_isSuspicious (l : Launch) (g : Lay) (z0 : Nat) (σ : St) (c : Int32) (hNT : l.stackTraces = false) (hT : GT g z0) (hI : CI σ)  : CXi l yX9_isSuspicious cX9_isSuspicious 2 (some .boolean) 7 1 g z0 [.ref (g.2.1 0), .int c] σ (FXi (wCl σ c) (σ.1 (90 + 3 * cn c) 5) σ) (FXx (wCl σ c) σ) := by
  refine CXi.of hNT (by decide) (Nat.le_of_ble_eq_true rfl) ?_
  intro x hxl hxa hC hY
  have hC : Cx x RX9 cX9_isSuspicious 2 (some .boolean) 7 g z0 := hC
  show GG x g z0 2 0 0 (Xi x g z0 (FXi (wCl σ c) (σ.1 (90 + 3 * cn c) 5) σ) (FXx (wCl σ c) σ) 1) σ 0 [(0, .ref (g.2.1 0)), (1, .int c)] []
  refine g_aload_n (pc' := 1) (j := 0) hC dX9_isSuspicious_0 rfl rfl rfl ?_
  refine g_iload_n (pc' := 2) (j := 1) hC dX9_isSuspicious_1 rfl rfl rfl ?_
  refine fx_Vv (pc' := 5) (kr := 0) (st := []) hC hY (c_requireClient x.2.1 g z0 σ c (hY.2.2) (hT) (hI.nc)) k_X9_requireClient wM_X9_161 (by decide) (by decide) (ct_0 g σ) rfl rfl rfl rfl (Nat.le_of_ble_eq_true rfl) dX9_isSuspicious_2 rfl (by decide) (by decide) (fun E x2 => ?_) (fun x2 => ?_)
  · exact ⟨x2, rfl⟩
  obtain ⟨hcN, hcL⟩ := vl2_n (by have := hI.nc.2; omega) (cI_no x2)
  have hcM := hI.nc.2
  refine gg_lve (lv' := [(0, .ref (g.2.1 0)), (1, .int (nI (cn c)))]) (by rw [← hcN]) ?_
  refine g_aload_n (pc' := 6) (j := 0) hC dX9_isSuspicious_5 rfl rfl rfl ?_
  refine gf_X9_1 (pc' := 9) hC wF_X9_19 dX9_isSuspicious_6 rfl ?_
  refine gf_X6_1 (pc' := 12) hC wF_X9_164 dX9_isSuspicious_9 rfl ?_
  refine g_iload_n (pc' := 13) (j := 1) hC dX9_isSuspicious_12 rfl rfl rfl ?_
  refine a_ldr (pc' := 14) (k := 10) (t := 6) (i := cn c) hC (by decide) (ct_10 g σ) rfl (by omega) (by decide) dX9_isSuspicious_13 rfl ?_
  refine gf_X2_5 (pc' := 17) (b := cn c) hC (by omega : (cn c) < 6) wF_X9_168 dX9_isSuspicious_14 rfl ?_
  refine gx_ret hC (by decide) (by decide) dX9_isSuspicious_17 (sus_nar (hI.su (by omega))) ?_
  exact ⟨x2, rfl, rfl⟩
set_option maxHeartbeats 4000000 in
set_option maxRecDepth 20000 in
theorem c_wouldFind (l : Launch) (g : Lay) (z0 : Nat) (σ : St) (c : Int32) (hNT : l.stackTraces = false) (hT : GT g z0) (hI : CI σ)  : CXi l yX9_wouldFind cX9_wouldFind 2 (some .int) 7 1 g z0 [.ref (g.2.1 0), .int c] σ (FXi (wCl σ c) (nI (cfc σ (cn c))) σ) (FXx (wCl σ c) σ) := by
  refine CXi.of hNT (by decide) (Nat.le_of_ble_eq_true rfl) ?_
  intro x hxl hxa hC hY
  have hC : Cx x RX9 cX9_wouldFind 2 (some .int) 7 g z0 := hC
  show GG x g z0 2 0 0 (Xi x g z0 (FXi (wCl σ c) (nI (cfc σ (cn c))) σ) (FXx (wCl σ c) σ) 1) σ 0 [(0, .ref (g.2.1 0)), (1, .int c)] []
  refine g_aload_n (pc' := 1) (j := 0) hC dX9_wouldFind_0 rfl rfl rfl ?_
  refine g_iload_n (pc' := 2) (j := 1) hC dX9_wouldFind_1 rfl rfl rfl ?_
  refine fx_Vv (pc' := 5) (kr := 0) (st := []) hC hY (c_requireClient x.2.1 g z0 σ c (hY.2.2) (hT) (hI.nc)) k_X9_requireClient wM_X9_161 (by decide) (by decide) (ct_0 g σ) rfl rfl rfl rfl (Nat.le_of_ble_eq_true rfl) dX9_wouldFind_2 rfl (by decide) (by decide) (fun E x2 => ?_) (fun x2 => ?_)
  · exact ⟨x2, rfl⟩
  obtain ⟨hcN, hcL⟩ := vl2_n (by have := hI.nc.2; omega) (cI_no x2)
  have hcM := hI.nc.2
  refine gg_lve (lv' := [(0, .ref (g.2.1 0)), (1, .int (nI (cn c)))]) (by rw [← hcN]) ?_
  refine g_aload_n (pc' := 6) (j := 0) hC dX9_wouldFind_5 rfl rfl rfl ?_
  refine gf_X9_1 (pc' := 9) hC wF_X9_19 dX9_wouldFind_6 rfl ?_
  refine g_iload_n (pc' := 10) (j := 1) hC dX9_wouldFind_9 rfl rfl rfl ?_
  refine f_Vi (pc' := 13) (k := 8) (st := []) hC (c_caseFor x.2.1 g z0 σ ((cn c)) (by omega) (hI)) k_X6_caseFor wM_X9_253 (by decide) (by decide) (ct_8 g σ) rfl rfl rfl rfl (Nat.le_of_ble_eq_true rfl) dX9_wouldFind_10 rfl (hY.c (by decide)) (hY.s (by decide)) ?_
  refine gx_ret hC (by decide) (by decide) dX9_wouldFind_13 rfl ?_
  exact ⟨x2, rfl, rfl⟩
set_option maxHeartbeats 4000000 in
set_option maxRecDepth 20000 in
theorem c_calm (l : Launch) (g : Lay) (z0 : Nat) (σ : St) (c : Int32) (hNT : l.stackTraces = false) (hT : GT g z0) (hI : CI σ)  : CXi l yX9_calm cX9_calm 3 (some .boolean) 7 1 g z0 [.ref (g.2.1 0), .int c] σ (FXi (wCl σ c) (σ.1 (90 + 3 * cn c) 5) (cI (vl2 (nI (rd σ 8 4)) c) (uv σ (90 + 3 * cn c) 5 (nI 0)) σ)) (FXx (wCl σ c) (cI (vl2 (nI (rd σ 8 4)) c) (uv σ (90 + 3 * cn c) 5 (nI 0)) σ)) := by
  refine CXi.of hNT (by decide) (Nat.le_of_ble_eq_true rfl) ?_
  intro x hxl hxa hC hY
  have hC : Cx x RX9 cX9_calm 3 (some .boolean) 7 g z0 := hC
  show GG x g z0 3 0 0 (Xi x g z0 (FXi (wCl σ c) (σ.1 (90 + 3 * cn c) 5) (cI (vl2 (nI (rd σ 8 4)) c) (uv σ (90 + 3 * cn c) 5 (nI 0)) σ)) (FXx (wCl σ c) (cI (vl2 (nI (rd σ 8 4)) c) (uv σ (90 + 3 * cn c) 5 (nI 0)) σ)) 1) σ 0 [(0, .ref (g.2.1 0)), (1, .int c)] []
  refine g_aload_n (pc' := 1) (j := 0) hC dX9_calm_0 rfl rfl rfl ?_
  refine g_iload_n (pc' := 2) (j := 1) hC dX9_calm_1 rfl rfl rfl ?_
  refine fx_Vv (pc' := 5) (kr := 0) (st := []) hC hY (c_requireClient x.2.1 g z0 σ c (hY.2.2) (hT) (hI.nc)) k_X9_requireClient wM_X9_161 (by decide) (by decide) (ct_0 g σ) rfl rfl rfl rfl (Nat.le_of_ble_eq_true rfl) dX9_calm_2 rfl (by decide) (by decide) (fun E x2 => ?_) (fun x2 => ?_)
  · exact ⟨x2, (cI_f (cI_so x2).1).symm⟩
  obtain ⟨hcN, hcL⟩ := vl2_n (by have := hI.nc.2; omega) (cI_no x2)
  have hcM := hI.nc.2
  refine gg_lve (lv' := [(0, .ref (g.2.1 0)), (1, .int (nI (cn c)))]) (by rw [← hcN]) ?_
  refine g_aload_n (pc' := 6) (j := 0) hC dX9_calm_5 rfl rfl rfl ?_
  refine gf_X9_1 (pc' := 9) hC wF_X9_19 dX9_calm_6 rfl ?_
  refine gf_X6_1 (pc' := 12) hC wF_X9_164 dX9_calm_9 rfl ?_
  refine g_iload_n (pc' := 13) (j := 1) hC dX9_calm_12 rfl rfl rfl ?_
  refine a_ldr (pc' := 14) (k := 10) (t := 6) (i := cn c) hC (by decide) (ct_10 g σ) rfl (by omega) (by decide) dX9_calm_13 rfl ?_
  refine gf_X2_5 (pc' := 17) (b := cn c) hC (by omega : (cn c) < 6) wF_X9_168 dX9_calm_14 rfl ?_
  refine g_istore_n (pc' := 18) (lv' := [(2, .int (σ.1 (90 + 3 * (cn c)) 5)), (0, .ref (g.2.1 0)), (1, .int (nI (cn c)))]) hC dX9_calm_17 rfl rfl (by decide) rfl ?_
  refine g_aload_n (pc' := 19) (j := 1) hC dX9_calm_18 rfl rfl rfl ?_
  refine gf_X9_1 (pc' := 22) hC wF_X9_19 dX9_calm_19 rfl ?_
  refine gf_X6_1 (pc' := 25) hC wF_X9_164 dX9_calm_22 rfl ?_
  refine g_iload_n (pc' := 26) (j := 2) hC dX9_calm_25 rfl rfl rfl ?_
  refine a_ldr (pc' := 27) (k := 10) (t := 6) (i := cn c) hC (by decide) (ct_10 g σ) rfl (by omega) (by decide) dX9_calm_26 rfl ?_
  refine g_iconst (pc' := 28) (v := nI 0) hC dX9_calm_27 rfl rfl ?_
  refine pf_X2_5 (pc' := 31) (b := cn c) hC (by omega : (cn c) < 6) rfl rfl wF_X9_168 dX9_calm_28 rfl ?_
  refine g_iload_n (pc' := 32) (j := 0) hC dX9_calm_31 rfl rfl rfl ?_
  refine gx_ret hC (by decide) (by decide) dX9_calm_32 (sus_nar (hI.su (by omega))) ?_
  exact ⟨x2, rfl, (cI_t (cI_no x2)).symm⟩
set_option maxHeartbeats 4000000 in
set_option maxRecDepth 20000 in
theorem c_adopt (l : Launch) (g : Lay) (z0 : Nat) (σ : St) (c : Int32) (hNT : l.stackTraces = false) (hT : GT g z0) (hI : CI σ)  : CXi l yX9_adopt cX9_adopt 3 (some .int) 7 1 g z0 [.ref (g.2.1 0), .int c] σ (FXi (wCl σ c) ((cth σ (cn c) (rd σ (90 + 3 * cn c) 3)).1 (90 + 3 * cn c) 2) (cI (vl2 (nI (rd σ 8 4)) c) (uv (cth σ (cn c) (rd σ (90 + 3 * cn c) 3)) (90 + 3 * cn c) 5 (nI 0)) σ)) (FXx (wCl σ c) (cI (vl2 (nI (rd σ 8 4)) c) (uv (cth σ (cn c) (rd σ (90 + 3 * cn c) 3)) (90 + 3 * cn c) 5 (nI 0)) σ)) := by
  refine CXi.of hNT (by decide) (Nat.le_of_ble_eq_true rfl) ?_
  intro x hxl hxa hC hY
  have hC : Cx x RX9 cX9_adopt 3 (some .int) 7 g z0 := hC
  show GG x g z0 3 0 0 (Xi x g z0 (FXi (wCl σ c) ((cth σ (cn c) (rd σ (90 + 3 * cn c) 3)).1 (90 + 3 * cn c) 2) (cI (vl2 (nI (rd σ 8 4)) c) (uv (cth σ (cn c) (rd σ (90 + 3 * cn c) 3)) (90 + 3 * cn c) 5 (nI 0)) σ)) (FXx (wCl σ c) (cI (vl2 (nI (rd σ 8 4)) c) (uv (cth σ (cn c) (rd σ (90 + 3 * cn c) 3)) (90 + 3 * cn c) 5 (nI 0)) σ)) 1) σ 0 [(0, .ref (g.2.1 0)), (1, .int c)] []
  refine g_aload_n (pc' := 1) (j := 0) hC dX9_adopt_0 rfl rfl rfl ?_
  refine g_iload_n (pc' := 2) (j := 1) hC dX9_adopt_1 rfl rfl rfl ?_
  refine fx_Vv (pc' := 5) (kr := 0) (st := []) hC hY (c_requireClient x.2.1 g z0 σ c (hY.2.2) (hT) (hI.nc)) k_X9_requireClient wM_X9_161 (by decide) (by decide) (ct_0 g σ) rfl rfl rfl rfl (Nat.le_of_ble_eq_true rfl) dX9_adopt_2 rfl (by decide) (by decide) (fun E x2 => ?_) (fun x2 => ?_)
  · exact ⟨x2, (cI_f (cI_so x2).1).symm⟩
  obtain ⟨hcN, hcL⟩ := vl2_n (by have := hI.nc.2; omega) (cI_no x2)
  have hcM := hI.nc.2
  have hse2 := (hI.se (c := cn c) (by omega)).2
  refine gg_lve (lv' := [(0, .ref (g.2.1 0)), (1, .int (nI (cn c)))]) (by rw [← hcN]) ?_
  refine g_aload_n (pc' := 6) (j := 0) hC dX9_adopt_5 rfl rfl rfl ?_
  refine gf_X9_1 (pc' := 9) hC wF_X9_19 dX9_adopt_6 rfl ?_
  refine gf_X6_1 (pc' := 12) hC wF_X9_164 dX9_adopt_9 rfl ?_
  refine g_iload_n (pc' := 13) (j := 1) hC dX9_adopt_12 rfl rfl rfl ?_
  refine a_ldr (pc' := 14) (k := 10) (t := 6) (i := cn c) hC (by decide) (ct_10 g σ) rfl (by omega) (by decide) dX9_adopt_13 rfl ?_
  refine g_astore_n (pc' := 15) (lv' := [(2, .ref (g.2.1 (90 + 3 * (cn c)))), (0, .ref (g.2.1 0)), (1, .int (nI (cn c)))]) hC dX9_adopt_14 rfl rfl (by decide) rfl ?_
  refine g_aload_n (pc' := 16) (j := 0) hC dX9_adopt_15 rfl rfl rfl ?_
  refine g_aload_n (pc' := 17) (j := 1) hC dX9_adopt_16 rfl rfl rfl ?_
  refine gf_X9_1 (pc' := 20) hC wF_X9_19 dX9_adopt_17 rfl ?_
  refine gf_X6_0 (pc' := 23) hC wF_X9_174 dX9_adopt_20 rfl ?_
  refine g_aload_n (pc' := 24) (j := 0) hC dX9_adopt_23 rfl rfl rfl ?_
  refine gf_X2_3 (pc' := 27) (b := cn c) hC (by omega : (cn c) < 6) wF_X9_178 dX9_adopt_24 rfl ?_
  refine gg_topi (b := nI (rd σ (90 + 3 * cn c) 3)) ((hI.se (by omega)).1) ?_
  refine a_ldr (pc' := 28) (k := 9) (t := 5) (i := rd σ (90 + 3 * cn c) 3) hC (by decide) (ct_9 g σ) rfl (by omega) (by decide) dX9_adopt_27 rfl ?_
  refine f_Vv (pc' := 31) (k := 90 + 3 * (cn c)) (st := []) hC (c_takeHistory x.2.1 g z0 σ ((cn c)) ((rd σ (90 + 3 * cn c) 3)) (by omega) (by omega) (hI.sz (by omega))) k_X2_takeHistory wM_X9_181 (by decide) (by have := (by omega : (cn c) < 6); show _ < 228; omega) (ct_cl g σ (by omega : (cn c) < 6)) rfl rfl rfl rfl (Nat.le_of_ble_eq_true rfl) dX9_adopt_28 rfl (hY.c (by decide)) (hY.s (by decide)) ?_
  refine g_aload_n (pc' := 32) (j := 0) hC dX9_adopt_31 rfl rfl rfl ?_
  refine g_iconst (pc' := 33) (v := nI 0) hC dX9_adopt_32 rfl rfl ?_
  refine pf_X2_5 (pc' := 36) (b := cn c) hC (by omega : (cn c) < 6) rfl rfl wF_X9_168 dX9_adopt_33 rfl ?_
  refine g_aload_n (pc' := 37) (j := 0) hC dX9_adopt_36 rfl rfl rfl ?_
  refine gf_X2_2 (pc' := 40) (b := cn c) hC (by omega : (cn c) < 6) wF_X9_185 dX9_adopt_37 rfl ?_
  refine gg_topi (b := (cth σ (cn c) (rd σ (90 + 3 * cn c) 3)).1 (90 + 3 * (cn c)) 2) (uv_idx _ _ _ _ (by decide)) ?_
  refine gx_ret hC (by decide) (by decide) dX9_adopt_40 rfl ?_
  exact ⟨x2, rfl, (cI_t (cI_no x2)).symm⟩
set_option maxHeartbeats 4000000 in
set_option maxRecDepth 20000 in
theorem c_entry (l : Launch) (g : Lay) (z0 : Nat) (σ : St) (b : Int32) (n : Int32) (w : Int32) (hNT : l.stackTraces = false) (hT : GT g z0) (hI : CI σ)  : CXi l yX9_entry cX9_entry 4 (some .int) 7 3 g z0 [.ref (g.2.1 0), .int b, .int n, .int w] σ (FXi (wEn σ b n w) (cpt σ (cn b) (cn n) w) σ) (FXx (wEn σ b n w) σ) := by
  refine CXi.of hNT (by decide) (Nat.le_of_ble_eq_true rfl) ?_
  intro x hxl hxa hC hY
  have hC : Cx x RX9 cX9_entry 4 (some .int) 7 g z0 := hC
  show GG x g z0 4 0 0 (Xi x g z0 (FXi (wEn σ b n w) (cpt σ (cn b) (cn n) w) σ) (FXx (wEn σ b n w) σ) 3) σ 0 [(0, .ref (g.2.1 0)), (1, .int b), (2, .int n), (3, .int w)] []
  refine g_aload_n (pc' := 1) (j := 0) hC dX9_entry_0 rfl rfl rfl ?_
  refine g_iload_n (pc' := 2) (j := 1) hC dX9_entry_1 rfl rfl rfl ?_
  refine fx_Vv (pc' := 5) (kr := 0) (st := []) hC hY (c_requireBranch x.2.1 g z0 σ b (hY.2.2) (hT) (hI.nr)) k_X9_requireBranch wM_X9_191 (by decide) (by decide) (ct_0 g σ) rfl rfl rfl rfl (Nat.le_of_ble_eq_true rfl) dX9_entry_2 rfl (by decide) (by decide) (fun E x2 => ?_) (fun x2 => ?_)
  · exact ⟨by obtain ⟨q, e⟩ := cI_so x2; unfold wEn; rw [cI_f q, e], rfl⟩
  obtain ⟨hcN, hcL⟩ := vl2_n (by have := hI.nr.2; omega) (cI_no x2)
  have hcM := hI.nr.2
  refine gg_lve (lv' := [(0, .ref (g.2.1 0)), (1, .int (nI (cn b))), (2, .int n), (3, .int w)]) (by rw [← hcN]) ?_
  refine g_aload_n (pc' := 6) (j := 0) hC dX9_entry_5 rfl rfl rfl ?_
  refine gf_X9_1 (pc' := 9) hC wF_X9_19 dX9_entry_6 rfl ?_
  refine gf_X6_0 (pc' := 12) hC wF_X9_174 dX9_entry_9 rfl ?_
  refine g_iload_n (pc' := 13) (j := 1) hC dX9_entry_12 rfl rfl rfl ?_
  refine a_ldr (pc' := 14) (k := 9) (t := 5) (i := cn b) hC (by decide) (ct_9 g σ) rfl (by omega) (by decide) dX9_entry_13 rfl ?_
  refine g_iload_n (pc' := 15) (j := 2) hC dX9_entry_14 rfl rfl rfl ?_
  refine f_Vi (pc' := 18) (k := 34 + 7 * (cn b)) (st := []) hC (c_hasEntry x.2.1 g z0 σ ((cn b)) n (by omega) (hI.sz (by omega))) k_X1_hasEntry wM_X9_199 (by decide) (by have := (by omega : (cn b) < 8); show _ < 228; omega) (ct_br g σ (by omega : (cn b) < 8)) rfl rfl rfl rfl (Nat.le_of_ble_eq_true rfl) dX9_entry_15 rfl (hY.c (by decide)) (hY.s (by decide)) ?_
  refine b_if_ne (pc' := 21) (tgt := 31) hC dX9_entry_18 (by decide) rfl (fun c18 => ?_) (fun c18 => ?_)
  · skip
    have hL2 := (hI.sz (b := cn b) (by omega)).2
    obtain ⟨heN, he1, he2⟩ := cen_n hL2 c18
    refine gg_lve (lv' := [(0, .ref (g.2.1 0)), (1, .int (nI (cn b))), (2, .int (nI (cn n))), (3, .int w)]) (by rw [← heN]) ?_
    refine g_iload_n (pc' := 32) (j := 3) hC dX9_entry_31 rfl rfl rfl ?_
    refine g_bipush (pc' := 34) (v := nI 7) hC dX9_entry_32 rfl rfl ?_
    refine fx_Sv (pc' := 37) (st := []) hC hY (c_requirePart x.2.1 g z0 σ w 7 (hY.2.2) (hT)) k_X9_requirePart wM_X9_208 (by decide) rfl rfl (Nat.le_of_ble_eq_true rfl) dX9_entry_34 rfl (by decide) (by decide) (fun E x34 => ?_) (fun x34 => ?_)
    · exact ⟨by unfold wEn; rw [cI_t (cI_no x2), cI_t c18]; exact x34, rfl⟩
    refine g_aload_n (pc' := 38) (j := 0) hC dX9_entry_37 rfl rfl rfl ?_
    refine gf_X9_1 (pc' := 41) hC wF_X9_19 dX9_entry_38 rfl ?_
    refine gf_X6_0 (pc' := 44) hC wF_X9_174 dX9_entry_41 rfl ?_
    refine g_iload_n (pc' := 45) (j := 1) hC dX9_entry_44 rfl rfl rfl ?_
    refine a_ldr (pc' := 46) (k := 9) (t := 5) (i := cn b) hC (by decide) (ct_9 g σ) rfl (by omega) (by decide) dX9_entry_45 rfl ?_
    refine g_iload_n (pc' := 47) (j := 2) hC dX9_entry_46 rfl rfl rfl ?_
    refine g_iload_n (pc' := 48) (j := 3) hC dX9_entry_47 rfl rfl rfl ?_
    refine f_Vi (pc' := 51) (k := 34 + 7 * (cn b)) (st := []) hC (c_partOfB x.2.1 g z0 σ ((cn b)) ((cn n)) w (by omega) (hI.sz (by omega)) (by omega) (by first | exact h2 | (simp (disch := decide) only [nb, rd_uv, rd_ur, uv_cell, ur_cell]; exact h2) | omega)) k_X1_partOf wM_X9_212 (by decide) (by have := (by omega : (cn b) < 8); show _ < 228; omega) (ct_br g σ (by omega : (cn b) < 8)) rfl rfl rfl rfl (Nat.le_of_ble_eq_true rfl) dX9_entry_48 rfl (hY.c (by decide)) (hY.s (by decide)) ?_
    refine gx_ret hC (by decide) (by decide) dX9_entry_51 rfl ?_
    exact ⟨by unfold wEn; rw [cI_t (cI_no x2), cI_t c18]; exact x34, rfl, rfl⟩
  · skip
    exact gx_thS hC hY hT xe_exNo (by decide : (205, "no such entry") ∈ exS) (by decide) (by decide) (by decide) (Nat.le_of_ble_eq_true rfl) dX9_entry_21 dX9_entry_24 dX9_entry_25 dX9_entry_27 dX9_entry_30 (⟨by unfold wEn; rw [cI_t (cI_no x2), cI_f c18], rfl⟩)
set_option maxHeartbeats 4000000 in
set_option maxRecDepth 20000 in
theorem c_value (l : Launch) (g : Lay) (z0 : Nat) (σ : St) (b : Int32) (w : Int32) (hNT : l.stackTraces = false) (hT : GT g z0) (hI : CI σ)  : CXi l yX9_value cX9_value 3 (some .int) 7 2 g z0 [.ref (g.2.1 0), .int b, .int w] σ (FXi (wVa σ b w) (cval σ (cn b) w (rd σ (34 + 7 * cn b) 6)) σ) (FXx (wVa σ b w) σ) := by
  refine CXi.of hNT (by decide) (Nat.le_of_ble_eq_true rfl) ?_
  intro x hxl hxa hC hY
  have hC : Cx x RX9 cX9_value 3 (some .int) 7 g z0 := hC
  show GG x g z0 3 0 0 (Xi x g z0 (FXi (wVa σ b w) (cval σ (cn b) w (rd σ (34 + 7 * cn b) 6)) σ) (FXx (wVa σ b w) σ) 2) σ 0 [(0, .ref (g.2.1 0)), (1, .int b), (2, .int w)] []
  refine g_aload_n (pc' := 1) (j := 0) hC dX9_value_0 rfl rfl rfl ?_
  refine g_iload_n (pc' := 2) (j := 1) hC dX9_value_1 rfl rfl rfl ?_
  refine fx_Vv (pc' := 5) (kr := 0) (st := []) hC hY (c_requireBranch x.2.1 g z0 σ b (hY.2.2) (hT) (hI.nr)) k_X9_requireBranch wM_X9_191 (by decide) (by decide) (ct_0 g σ) rfl rfl rfl rfl (Nat.le_of_ble_eq_true rfl) dX9_value_2 rfl (by decide) (by decide) (fun E x2 => ?_) (fun x2 => ?_)
  · exact ⟨by obtain ⟨q, e⟩ := cI_so x2; unfold wVa; rw [cI_f q, e], rfl⟩
  obtain ⟨hcN, hcL⟩ := vl2_n (by have := hI.nr.2; omega) (cI_no x2)
  have hcM := hI.nr.2
  refine gg_lve (lv' := [(0, .ref (g.2.1 0)), (1, .int (nI (cn b))), (2, .int w)]) (by rw [← hcN]) ?_
  refine g_aload_n (pc' := 6) (j := 0) hC dX9_value_5 rfl rfl rfl ?_
  refine gf_X9_1 (pc' := 9) hC wF_X9_19 dX9_value_6 rfl ?_
  refine g_iload_n (pc' := 10) (j := 2) hC dX9_value_9 rfl rfl rfl ?_
  refine f_Vi (pc' := 13) (k := 8) (st := []) hC (c_hasBlock x.2.1 g z0 σ w (hI.nk)) k_X6_hasBlock wM_X9_215 (by decide) (by decide) (ct_8 g σ) rfl rfl rfl rfl (Nat.le_of_ble_eq_true rfl) dX9_value_10 rfl (hY.c (by decide)) (hY.s (by decide)) ?_
  refine b_if_ne (pc' := 16) (tgt := 26) hC dX9_value_13 (by decide) rfl (fun c13 => ?_) (fun c13 => ?_)
  · skip
    refine g_aload_n (pc' := 27) (j := 0) hC dX9_value_26 rfl rfl rfl ?_
    refine gf_X9_1 (pc' := 30) hC wF_X9_19 dX9_value_27 rfl ?_
    refine gf_X6_0 (pc' := 33) hC wF_X9_174 dX9_value_30 rfl ?_
    refine g_iload_n (pc' := 34) (j := 1) hC dX9_value_33 rfl rfl rfl ?_
    refine a_ldr (pc' := 35) (k := 9) (t := 5) (i := cn b) hC (by decide) (ct_9 g σ) rfl (by omega) (by decide) dX9_value_34 rfl ?_
    refine g_iload_n (pc' := 36) (j := 2) hC dX9_value_35 rfl rfl rfl ?_
    refine f_Vi (pc' := 39) (k := 34 + 7 * (cn b)) (st := []) hC (c_lastValue x.2.1 g z0 σ ((cn b)) w (by omega) (hI.sz (by omega))) k_X1_lastValue wM_X9_220 (by decide) (by have := (by omega : (cn b) < 8); show _ < 228; omega) (ct_br g σ (by omega : (cn b) < 8)) rfl rfl rfl rfl (Nat.le_of_ble_eq_true rfl) dX9_value_36 rfl (hY.c (by decide)) (hY.s (by decide)) ?_
    refine gx_ret hC (by decide) (by decide) dX9_value_39 rfl ?_
    exact ⟨by unfold wVa; rw [cI_t (cI_no x2), cI_t c13], rfl, rfl⟩
  · skip
    exact gx_thS hC hY hT xe_exNo (by decide : (218, "no such block") ∈ exS) (by decide) (by decide) (by decide) (Nat.le_of_ble_eq_true rfl) dX9_value_16 dX9_value_19 dX9_value_20 dX9_value_22 dX9_value_25 (⟨by unfold wVa; rw [cI_t (cI_no x2), cI_f c13], rfl⟩)
set_option maxHeartbeats 4000000 in
set_option maxRecDepth 20000 in
theorem c_commonLength (l : Launch) (g : Lay) (z0 : Nat) (σ : St) (ua : Int32) (ub : Int32) (hNT : l.stackTraces = false) (hT : GT g z0) (hG : GX g) (hI : CI σ)  : CXi l yX9_commonLength cX9_commonLength 3 (some .int) 7 2 g z0 [.ref (g.2.1 0), .int ua, .int ub] σ (FXi (w2B σ ua ub) (nI (csh σ (cn ua) (cn ub))) σ) (FXx (w2B σ ua ub) σ) := by
  refine CXi.of hNT (by decide) (Nat.le_of_ble_eq_true rfl) ?_
  intro x hxl hxa hC hY
  have hC : Cx x RX9 cX9_commonLength 3 (some .int) 7 g z0 := hC
  show GG x g z0 3 0 0 (Xi x g z0 (FXi (w2B σ ua ub) (nI (csh σ (cn ua) (cn ub))) σ) (FXx (w2B σ ua ub) σ) 2) σ 0 [(0, .ref (g.2.1 0)), (1, .int ua), (2, .int ub)] []
  refine g_aload_n (pc' := 1) (j := 0) hC dX9_commonLength_0 rfl rfl rfl ?_
  refine g_iload_n (pc' := 2) (j := 1) hC dX9_commonLength_1 rfl rfl rfl ?_
  refine fx_Vv (pc' := 5) (kr := 0) (st := []) hC hY (c_requireBranch x.2.1 g z0 σ ua (hY.2.2) (hT) (hI.nr)) k_X9_requireBranch wM_X9_191 (by decide) (by decide) (ct_0 g σ) rfl rfl rfl rfl (Nat.le_of_ble_eq_true rfl) dX9_commonLength_2 rfl (by decide) (by decide) (fun E x2 => ?_) (fun x2 => ?_)
  · exact ⟨by obtain ⟨q, e⟩ := cI_so x2; unfold w2B; rw [cI_f q, e], rfl⟩
  refine g_aload_n (pc' := 6) (j := 0) hC dX9_commonLength_5 rfl rfl rfl ?_
  refine g_iload_n (pc' := 7) (j := 2) hC dX9_commonLength_6 rfl rfl rfl ?_
  refine fx_Vv (pc' := 10) (kr := 0) (st := []) hC hY (c_requireBranch x.2.1 g z0 σ ub (hY.2.2) (hT) (hI.nr)) k_X9_requireBranch wM_X9_191 (by decide) (by decide) (ct_0 g σ) rfl rfl rfl rfl (Nat.le_of_ble_eq_true rfl) dX9_commonLength_7 rfl (by decide) (by decide) (fun E x7 => ?_) (fun x7 => ?_)
  · exact ⟨by unfold w2B; rw [cI_t (cI_no x2)]; exact x7, rfl⟩
  obtain ⟨hcN, hcL⟩ := vl2_n (by have := hI.nr.2; omega) (cI_no x2)
  have hcM := hI.nr.2
  refine gg_lve (lv' := [(0, .ref (g.2.1 0)), (1, .int (nI (cn ua))), (2, .int ub)]) (by rw [← hcN]) ?_
  obtain ⟨hdN, hdL⟩ := vl2_n (by have := hI.nr.2; omega) (cI_no x7)
  have hdM := hI.nr.2
  refine gg_lve (lv' := [(0, .ref (g.2.1 0)), (1, .int (nI (cn ua))), (2, .int (nI (cn ub)))]) (by rw [← hdN]) ?_
  refine g_aload_n (pc' := 11) (j := 0) hC dX9_commonLength_10 rfl rfl rfl ?_
  refine gf_X9_1 (pc' := 14) hC wF_X9_19 dX9_commonLength_11 rfl ?_
  refine gf_X6_0 (pc' := 17) hC wF_X9_174 dX9_commonLength_14 rfl ?_
  refine g_iload_n (pc' := 18) (j := 1) hC dX9_commonLength_17 rfl rfl rfl ?_
  refine a_ldr (pc' := 19) (k := 9) (t := 5) (i := cn ua) hC (by decide) (ct_9 g σ) rfl (by omega) (by decide) dX9_commonLength_18 rfl ?_
  refine g_aload_n (pc' := 20) (j := 0) hC dX9_commonLength_19 rfl rfl rfl ?_
  refine gf_X9_1 (pc' := 23) hC wF_X9_19 dX9_commonLength_20 rfl ?_
  refine gf_X6_0 (pc' := 26) hC wF_X9_174 dX9_commonLength_23 rfl ?_
  refine g_iload_n (pc' := 27) (j := 2) hC dX9_commonLength_26 rfl rfl rfl ?_
  refine a_ldr (pc' := 28) (k := 9) (t := 5) (i := cn ub) hC (by decide) (ct_9 g σ) rfl (by omega) (by decide) dX9_commonLength_27 rfl ?_
  refine f_Vi (pc' := 31) (k := 34 + 7 * (cn ua)) (st := []) hC (c_sharedWith x.2.1 g z0 σ ((cn ua)) ((cn ub)) (hG) (by omega) (hI.sz (by omega)) (by omega) (hI.sz (by omega)) ((hI.h0 (by omega)).trans (hI.h0 (by omega)).symm)) k_X1_sharedWith wM_X9_223 (by decide) (by have := (by omega : (cn ua) < 8); show _ < 228; omega) (ct_br g σ (by omega : (cn ua) < 8)) rfl rfl rfl rfl (Nat.le_of_ble_eq_true rfl) dX9_commonLength_28 rfl (hY.c (by decide)) (hY.s (by decide)) ?_
  refine gx_ret hC (by decide) (by decide) dX9_commonLength_31 rfl ?_
  exact ⟨by unfold w2B; rw [cI_t (cI_no x2)]; exact x7, rfl, rfl⟩
set_option maxHeartbeats 4000000 in
set_option maxRecDepth 20000 in
theorem c_conflicts (l : Launch) (g : Lay) (z0 : Nat) (σ : St) (ua : Int32) (ub : Int32) (hNT : l.stackTraces = false) (hT : GT g z0) (hG : GX g) (hI : CI σ)  : CXi l yX9_conflicts cX9_conflicts 3 (some .int) 7 2 g z0 [.ref (g.2.1 0), .int ua, .int ub] σ (FXi (w2B σ ua ub) (ccf σ (cn ua) (cn ub)) σ) (FXx (w2B σ ua ub) σ) := by
  refine CXi.of hNT (by decide) (Nat.le_of_ble_eq_true rfl) ?_
  intro x hxl hxa hC hY
  have hC : Cx x RX9 cX9_conflicts 3 (some .int) 7 g z0 := hC
  show GG x g z0 3 0 0 (Xi x g z0 (FXi (w2B σ ua ub) (ccf σ (cn ua) (cn ub)) σ) (FXx (w2B σ ua ub) σ) 2) σ 0 [(0, .ref (g.2.1 0)), (1, .int ua), (2, .int ub)] []
  refine g_aload_n (pc' := 1) (j := 0) hC dX9_conflicts_0 rfl rfl rfl ?_
  refine g_iload_n (pc' := 2) (j := 1) hC dX9_conflicts_1 rfl rfl rfl ?_
  refine fx_Vv (pc' := 5) (kr := 0) (st := []) hC hY (c_requireBranch x.2.1 g z0 σ ua (hY.2.2) (hT) (hI.nr)) k_X9_requireBranch wM_X9_191 (by decide) (by decide) (ct_0 g σ) rfl rfl rfl rfl (Nat.le_of_ble_eq_true rfl) dX9_conflicts_2 rfl (by decide) (by decide) (fun E x2 => ?_) (fun x2 => ?_)
  · exact ⟨by obtain ⟨q, e⟩ := cI_so x2; unfold w2B; rw [cI_f q, e], rfl⟩
  refine g_aload_n (pc' := 6) (j := 0) hC dX9_conflicts_5 rfl rfl rfl ?_
  refine g_iload_n (pc' := 7) (j := 2) hC dX9_conflicts_6 rfl rfl rfl ?_
  refine fx_Vv (pc' := 10) (kr := 0) (st := []) hC hY (c_requireBranch x.2.1 g z0 σ ub (hY.2.2) (hT) (hI.nr)) k_X9_requireBranch wM_X9_191 (by decide) (by decide) (ct_0 g σ) rfl rfl rfl rfl (Nat.le_of_ble_eq_true rfl) dX9_conflicts_7 rfl (by decide) (by decide) (fun E x7 => ?_) (fun x7 => ?_)
  · exact ⟨by unfold w2B; rw [cI_t (cI_no x2)]; exact x7, rfl⟩
  obtain ⟨hcN, hcL⟩ := vl2_n (by have := hI.nr.2; omega) (cI_no x2)
  have hcM := hI.nr.2
  refine gg_lve (lv' := [(0, .ref (g.2.1 0)), (1, .int (nI (cn ua))), (2, .int ub)]) (by rw [← hcN]) ?_
  obtain ⟨hdN, hdL⟩ := vl2_n (by have := hI.nr.2; omega) (cI_no x7)
  have hdM := hI.nr.2
  refine gg_lve (lv' := [(0, .ref (g.2.1 0)), (1, .int (nI (cn ua))), (2, .int (nI (cn ub)))]) (by rw [← hdN]) ?_
  refine g_aload_n (pc' := 11) (j := 0) hC dX9_conflicts_10 rfl rfl rfl ?_
  refine gf_X9_1 (pc' := 14) hC wF_X9_19 dX9_conflicts_11 rfl ?_
  refine gf_X6_0 (pc' := 17) hC wF_X9_174 dX9_conflicts_14 rfl ?_
  refine g_iload_n (pc' := 18) (j := 1) hC dX9_conflicts_17 rfl rfl rfl ?_
  refine a_ldr (pc' := 19) (k := 9) (t := 5) (i := cn ua) hC (by decide) (ct_9 g σ) rfl (by omega) (by decide) dX9_conflicts_18 rfl ?_
  refine g_aload_n (pc' := 20) (j := 0) hC dX9_conflicts_19 rfl rfl rfl ?_
  refine gf_X9_1 (pc' := 23) hC wF_X9_19 dX9_conflicts_20 rfl ?_
  refine gf_X6_0 (pc' := 26) hC wF_X9_174 dX9_conflicts_23 rfl ?_
  refine g_iload_n (pc' := 27) (j := 2) hC dX9_conflicts_26 rfl rfl rfl ?_
  refine a_ldr (pc' := 28) (k := 9) (t := 5) (i := cn ub) hC (by decide) (ct_9 g σ) rfl (by omega) (by decide) dX9_conflicts_27 rfl ?_
  refine f_Vi (pc' := 31) (k := 34 + 7 * (cn ua)) (st := []) hC (c_conflictsWith x.2.1 g z0 σ ((cn ua)) ((cn ub)) (hG) (by omega) (hI.sz (by omega)) (by omega) (hI.sz (by omega)) ((hI.h0 (by omega)).trans (hI.h0 (by omega)).symm)) k_X1_conflictsWith wM_X9_227 (by decide) (by have := (by omega : (cn ua) < 8); show _ < 228; omega) (ct_br g σ (by omega : (cn ua) < 8)) rfl rfl rfl rfl (Nat.le_of_ble_eq_true rfl) dX9_conflicts_28 rfl (hY.c (by decide)) (hY.s (by decide)) ?_
  refine gx_ret hC (by decide) (by decide) dX9_conflicts_31 rfl ?_
  exact ⟨by unfold w2B; rw [cI_t (cI_no x2)]; exact x7, rfl, rfl⟩
set_option maxHeartbeats 4000000 in
set_option maxRecDepth 20000 in
theorem c_vector (l : Launch) (g : Lay) (z0 : Nat) (σ : St) (ua : Int32) (ub : Int32) (hNT : l.stackTraces = false) (hT : GT g z0) (hI : CI σ)  : CXi l yX9_vector cX9_vector 3 (some .int) 7 2 g z0 [.ref (g.2.1 0), .int ua, .int ub] σ (FXi (w2C σ ua ub) (σ.1 (90 + 3 * cn ua + 2) (cn ub)) σ) (FXx (w2C σ ua ub) σ) := by
  refine CXi.of hNT (by decide) (Nat.le_of_ble_eq_true rfl) ?_
  intro x hxl hxa hC hY
  have hC : Cx x RX9 cX9_vector 3 (some .int) 7 g z0 := hC
  show GG x g z0 3 0 0 (Xi x g z0 (FXi (w2C σ ua ub) (σ.1 (90 + 3 * cn ua + 2) (cn ub)) σ) (FXx (w2C σ ua ub) σ) 2) σ 0 [(0, .ref (g.2.1 0)), (1, .int ua), (2, .int ub)] []
  refine g_aload_n (pc' := 1) (j := 0) hC dX9_vector_0 rfl rfl rfl ?_
  refine g_iload_n (pc' := 2) (j := 1) hC dX9_vector_1 rfl rfl rfl ?_
  refine fx_Vv (pc' := 5) (kr := 0) (st := []) hC hY (c_requireClient x.2.1 g z0 σ ua (hY.2.2) (hT) (hI.nc)) k_X9_requireClient wM_X9_161 (by decide) (by decide) (ct_0 g σ) rfl rfl rfl rfl (Nat.le_of_ble_eq_true rfl) dX9_vector_2 rfl (by decide) (by decide) (fun E x2 => ?_) (fun x2 => ?_)
  · exact ⟨by obtain ⟨q, e⟩ := cI_so x2; unfold w2C; rw [cI_f q, e], rfl⟩
  refine g_aload_n (pc' := 6) (j := 0) hC dX9_vector_5 rfl rfl rfl ?_
  refine g_iload_n (pc' := 7) (j := 2) hC dX9_vector_6 rfl rfl rfl ?_
  refine fx_Vv (pc' := 10) (kr := 0) (st := []) hC hY (c_requireClient x.2.1 g z0 σ ub (hY.2.2) (hT) (hI.nc)) k_X9_requireClient wM_X9_161 (by decide) (by decide) (ct_0 g σ) rfl rfl rfl rfl (Nat.le_of_ble_eq_true rfl) dX9_vector_7 rfl (by decide) (by decide) (fun E x7 => ?_) (fun x7 => ?_)
  · exact ⟨by unfold w2C; rw [cI_t (cI_no x2)]; exact x7, rfl⟩
  obtain ⟨hcN, hcL⟩ := vl2_n (by have := hI.nc.2; omega) (cI_no x2)
  have hcM := hI.nc.2
  refine gg_lve (lv' := [(0, .ref (g.2.1 0)), (1, .int (nI (cn ua))), (2, .int ub)]) (by rw [← hcN]) ?_
  obtain ⟨hdN, hdL⟩ := vl2_n (by have := hI.nc.2; omega) (cI_no x7)
  have hdM := hI.nc.2
  refine gg_lve (lv' := [(0, .ref (g.2.1 0)), (1, .int (nI (cn ua))), (2, .int (nI (cn ub)))]) (by rw [← hdN]) ?_
  refine g_aload_n (pc' := 11) (j := 0) hC dX9_vector_10 rfl rfl rfl ?_
  refine gf_X9_1 (pc' := 14) hC wF_X9_19 dX9_vector_11 rfl ?_
  refine gf_X6_1 (pc' := 17) hC wF_X9_164 dX9_vector_14 rfl ?_
  refine g_iload_n (pc' := 18) (j := 1) hC dX9_vector_17 rfl rfl rfl ?_
  refine a_ldr (pc' := 19) (k := 10) (t := 6) (i := cn ua) hC (by decide) (ct_10 g σ) rfl (by omega) (by decide) dX9_vector_18 rfl ?_
  refine gf_X2_1 (pc' := 22) (b := cn ua) hC (by omega : (cn ua) < 6) wF_X9_246 dX9_vector_19 rfl ?_
  refine g_iload_n (pc' := 23) (j := 2) hC dX9_vector_22 rfl rfl rfl ?_
  refine a_ld (pc' := 24) (k := 90 + 3 * (cn ua) + 2) (i := cn ub) hC (by have := (by omega : (cn ua) < 6); show _ < 228; omega) (ct_cc g σ (by omega : (cn ua) < 6)) (by omega) (by decide) dX9_vector_23 rfl ?_
  refine gx_ret hC (by decide) (by decide) dX9_vector_24 rfl ?_
  exact ⟨by unfold w2C; rw [cI_t (cI_no x2)]; exact x7, rfl, rfl⟩
set_option maxHeartbeats 4000000 in
set_option maxRecDepth 20000 in
theorem c_order (l : Launch) (g : Lay) (z0 : Nat) (σ : St) (ua : Int32) (ub : Int32) (hNT : l.stackTraces = false) (hT : GT g z0) (hI : CI σ)  : CXi l yX9_order cX9_order 3 (some .int) 7 2 g z0 [.ref (g.2.1 0), .int ua, .int ub] σ (FXi (w2C σ ua ub) (ordF (σ.1 (90 + 3 * cn ua + 2)) (σ.1 (90 + 3 * cn ub + 2)) 6) σ) (FXx (w2C σ ua ub) σ) := by
  refine CXi.of hNT (by decide) (Nat.le_of_ble_eq_true rfl) ?_
  intro x hxl hxa hC hY
  have hC : Cx x RX9 cX9_order 3 (some .int) 7 g z0 := hC
  show GG x g z0 3 0 0 (Xi x g z0 (FXi (w2C σ ua ub) (ordF (σ.1 (90 + 3 * cn ua + 2)) (σ.1 (90 + 3 * cn ub + 2)) 6) σ) (FXx (w2C σ ua ub) σ) 2) σ 0 [(0, .ref (g.2.1 0)), (1, .int ua), (2, .int ub)] []
  refine g_aload_n (pc' := 1) (j := 0) hC dX9_order_0 rfl rfl rfl ?_
  refine g_iload_n (pc' := 2) (j := 1) hC dX9_order_1 rfl rfl rfl ?_
  refine fx_Vv (pc' := 5) (kr := 0) (st := []) hC hY (c_requireClient x.2.1 g z0 σ ua (hY.2.2) (hT) (hI.nc)) k_X9_requireClient wM_X9_161 (by decide) (by decide) (ct_0 g σ) rfl rfl rfl rfl (Nat.le_of_ble_eq_true rfl) dX9_order_2 rfl (by decide) (by decide) (fun E x2 => ?_) (fun x2 => ?_)
  · exact ⟨by obtain ⟨q, e⟩ := cI_so x2; unfold w2C; rw [cI_f q, e], rfl⟩
  refine g_aload_n (pc' := 6) (j := 0) hC dX9_order_5 rfl rfl rfl ?_
  refine g_iload_n (pc' := 7) (j := 2) hC dX9_order_6 rfl rfl rfl ?_
  refine fx_Vv (pc' := 10) (kr := 0) (st := []) hC hY (c_requireClient x.2.1 g z0 σ ub (hY.2.2) (hT) (hI.nc)) k_X9_requireClient wM_X9_161 (by decide) (by decide) (ct_0 g σ) rfl rfl rfl rfl (Nat.le_of_ble_eq_true rfl) dX9_order_7 rfl (by decide) (by decide) (fun E x7 => ?_) (fun x7 => ?_)
  · exact ⟨by unfold w2C; rw [cI_t (cI_no x2)]; exact x7, rfl⟩
  obtain ⟨hcN, hcL⟩ := vl2_n (by have := hI.nc.2; omega) (cI_no x2)
  have hcM := hI.nc.2
  refine gg_lve (lv' := [(0, .ref (g.2.1 0)), (1, .int (nI (cn ua))), (2, .int ub)]) (by rw [← hcN]) ?_
  obtain ⟨hdN, hdL⟩ := vl2_n (by have := hI.nc.2; omega) (cI_no x7)
  have hdM := hI.nc.2
  refine gg_lve (lv' := [(0, .ref (g.2.1 0)), (1, .int (nI (cn ua))), (2, .int (nI (cn ub)))]) (by rw [← hdN]) ?_
  refine g_aload_n (pc' := 11) (j := 0) hC dX9_order_10 rfl rfl rfl ?_
  refine gf_X9_1 (pc' := 14) hC wF_X9_19 dX9_order_11 rfl ?_
  refine gf_X6_1 (pc' := 17) hC wF_X9_164 dX9_order_14 rfl ?_
  refine g_iload_n (pc' := 18) (j := 1) hC dX9_order_17 rfl rfl rfl ?_
  refine a_ldr (pc' := 19) (k := 10) (t := 6) (i := cn ua) hC (by decide) (ct_10 g σ) rfl (by omega) (by decide) dX9_order_18 rfl ?_
  refine g_aload_n (pc' := 20) (j := 0) hC dX9_order_19 rfl rfl rfl ?_
  refine gf_X9_1 (pc' := 23) hC wF_X9_19 dX9_order_20 rfl ?_
  refine gf_X6_1 (pc' := 26) hC wF_X9_164 dX9_order_23 rfl ?_
  refine g_iload_n (pc' := 27) (j := 2) hC dX9_order_26 rfl rfl rfl ?_
  refine a_ldr (pc' := 28) (k := 10) (t := 6) (i := cn ub) hC (by decide) (ct_10 g σ) rfl (by omega) (by decide) dX9_order_27 rfl ?_
  refine f_Vi (pc' := 31) (k := 90 + 3 * (cn ua)) (st := []) hC (c_orderTo x.2.1 g z0 σ ((cn ua)) ((cn ub)) (by omega) (by omega)) k_X2_orderTo wM_X9_249 (by decide) (by have := (by omega : (cn ua) < 6); show _ < 228; omega) (ct_cl g σ (by omega : (cn ua) < 6)) rfl rfl rfl rfl (Nat.le_of_ble_eq_true rfl) dX9_order_28 rfl (hY.c (by decide)) (hY.s (by decide)) ?_
  refine gx_ret hC (by decide) (by decide) dX9_order_31 rfl ?_
  exact ⟨by unfold w2C; rw [cI_t (cI_no x2)]; exact x7, rfl, rfl⟩
