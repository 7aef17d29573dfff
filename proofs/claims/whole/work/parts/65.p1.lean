set_option maxHeartbeats 4000000 in
set_option maxRecDepth 20000 in
theorem c_hasFailed (l : Launch) (g : Lay) (z0 : Nat) (σ : St)    : CTi l yX5_hasFailed cX5_hasFailed 1 (some .boolean) 0 g z0 [.ref (g.2.1 1)] σ (FI (bI (¬ σ.1 1 7 = 0)) σ) := by
  refine CTi.of (by decide) (Nat.le_of_ble_eq_true rfl) ?_
  intro x hxl hxa hC
  have hC : Cx x RX5 cX5_hasFailed 1 (some .boolean) 0 g z0 := hC
  show GG x g z0 1 0 0 (Qi x g z0 (FI (bI (¬ σ.1 1 7 = 0)) σ)) σ 0 [(0, .ref (g.2.1 1))] []
  refine g_aload_n (pc' := 1) (j := 0) hC dX5_hasFailed_0 rfl rfl rfl ?_
  refine gf_X5_7 (pc' := 4) hC wF_X5_29 dX5_hasFailed_1 rfl ?_
  refine g_if_eq (pc' := 7) (tgt := 11) hC dX5_hasFailed_4 (by decide) rfl (fun c4 => ?_) (fun c4 => ?_)
  · skip
    refine g_iconst (pc' := 12) (v := nI 0) hC dX5_hasFailed_11 rfl rfl ?_
    refine g_ret hC dX5_hasFailed_12 rfl ?_
    exact ⟨(bI_f (fun z => z c4)).symm, rfl⟩
  · skip
    refine g_iconst (pc' := 8) (v := nI 1) hC dX5_hasFailed_7 rfl rfl ?_
    refine g_goto (tgt := 12) hC dX5_hasFailed_8 (by decide) ?_
    refine g_ret hC dX5_hasFailed_12 rfl ?_
    exact ⟨(bI_t c4).symm, rfl⟩
set_option maxHeartbeats 4000000 in
set_option maxRecDepth 20000 in
theorem c_fail (l : Launch) (g : Lay) (z0 : Nat) (σ : St) (c : Int32) (hV : PV σ)  : CTv l yX5_fail cX5_fail 2 0 g z0 [.ref (g.2.1 1), .int c] σ (FV (cfa σ c)) := by
  refine CTv.of (by decide) (Nat.le_of_ble_eq_true rfl) ?_
  intro x hxl hxa hC
  have hC : Cx x RX5 cX5_fail 2 none 0 g z0 := hC
  have hV1 := hV.2.1.2
  have hV2 := hV.2.2.1
  have hV3 := hV.1.2
  show GG x g z0 2 0 0 (Qv x g z0 (FV (cfa σ c))) σ 0 [(0, .ref (g.2.1 1)), (1, .int c)] []
  refine g_aload_n (pc' := 1) (j := 0) hC dX5_fail_0 rfl rfl rfl ?_
  refine gf_X5_7 (pc' := 4) hC wF_X5_29 dX5_fail_1 rfl ?_
  refine g_if_ne (pc' := 7) (tgt := 28) hC dX5_fail_4 (by decide) rfl (fun c4 => ?_) (fun c4 => ?_)
  · skip
    refine g_retv hC dX5_fail_28 ?_
    exact (show _ = _ from (cI_f c4).symm)
  · skip
    refine g_aload_n (pc' := 8) (j := 0) hC dX5_fail_7 rfl rfl rfl ?_
    refine g_iload_n (pc' := 9) (j := 1) hC dX5_fail_8 rfl rfl rfl ?_
    refine pf_X5_7 (pc' := 12) hC wF_X5_29 dX5_fail_9 rfl ?_
    refine g_aload_n (pc' := 13) (j := 0) hC dX5_fail_12 rfl rfl rfl ?_
    refine g_aload_n (pc' := 14) (j := 0) hC dX5_fail_13 rfl rfl rfl ?_
    refine gf_X5_0 (pc' := 17) hC wF_X5_12 dX5_fail_14 rfl ?_
    refine gf_X8_2 (pc' := 20) hC wF_X5_42 dX5_fail_17 rfl ?_
    refine g_aload_n (pc' := 21) (j := 0) hC dX5_fail_20 rfl rfl rfl ?_
    refine gf_X5_2 (pc' := 24) hC wF_X5_35 dX5_fail_21 rfl ?_
    refine gg_topi (b := nI (rd σ 1 2)) ((uv_idx _ _ _ _ (by decide)).trans (hV.1.1)) ?_
    refine a_ld (pc' := 25) (k := 5) (i := rd σ 1 2) hC (by decide) (ct_5 g (uv σ 1 7 c)) (by omega) (by decide) dX5_fail_24 rfl ?_
    refine gg_topi (b := σ.1 5 (rd σ 1 2)) (uv_cell _ _ _ _ (by decide)) ?_
    refine pf_X5_8 (pc' := 28) hC wF_X5_24 dX5_fail_25 rfl ?_
    refine g_retv hC dX5_fail_28 ?_
    exact (show _ = _ from (cI_t c4).symm)
set_option maxHeartbeats 4000000 in
set_option maxRecDepth 20000 in
theorem c_kindHere (l : Launch) (g : Lay) (z0 : Nat) (σ : St)  (hV : PV σ)  : CTe l yX5_kindHere cX5_kindHere 2 (some (.object "ForkWatch$Kind")) 0 g z0 [.ref (g.2.1 1)] σ (FE (some (kdH σ)) σ) := by
  refine CTe.of (by decide) (Nat.le_of_ble_eq_true rfl) ?_
  intro x hxl hxa hC
  have hC : Cx x RX5 cX5_kindHere 2 (some (.object "ForkWatch$Kind")) 0 g z0 := hC
  have hV1 := hV.2.1.2
  have hV2 := hV.2.2.1
  have hV3 := hV.1.2
  show GG x g z0 2 0 0 (Qe x g z0 (FE (some (kdH σ)) σ)) σ 0 [(0, .ref (g.2.1 1))] []
  refine g_aload_n (pc' := 1) (j := 0) hC dX5_kindHere_0 rfl rfl rfl ?_
  refine gf_X5_0 (pc' := 4) hC wF_X5_12 dX5_kindHere_1 rfl ?_
  refine gf_X8_1 (pc' := 7) hC wF_X5_162 dX5_kindHere_4 rfl ?_
  refine g_aload_n (pc' := 8) (j := 0) hC dX5_kindHere_7 rfl rfl rfl ?_
  refine gf_X5_2 (pc' := 11) hC wF_X5_35 dX5_kindHere_8 rfl ?_
  refine gg_topi (b := nI (rd σ 1 2)) (hV.1.1) ?_
  refine e_ldK (pc' := 12) (i := rd σ 1 2) (k0 := kdH σ) hC (by omega) (hV.kd) dX5_kindHere_11 rfl ?_
  refine g_astore_n (pc' := 13) (lv' := [(1, .ref (g.2.2.1 (kdH σ))), (0, .ref (g.2.1 1))]) hC dX5_kindHere_12 rfl rfl (by decide) rfl ?_
  refine g_aload_n (pc' := 14) (j := 0) hC dX5_kindHere_13 rfl rfl rfl ?_
  refine e_ifnn (pc' := 17) (tgt := 23) hC dX5_kindHere_14 (by decide) ?_
  refine g_aload_n (pc' := 24) (j := 0) hC dX5_kindHere_23 rfl rfl rfl ?_
  refine e_ret (i := (kdH σ)) hC dX5_kindHere_24 ?_
  exact ⟨rfl, rfl⟩
set_option maxHeartbeats 4000000 in
set_option maxRecDepth 20000 in
theorem c_takeToken (l : Launch) (g : Lay) (z0 : Nat) (σ : St)  (hV : PV σ)  : CTv l yX5_takeToken cX5_takeToken 1 1 g z0 [.ref (g.2.1 1)] σ (FV (ctt σ)) := by
  refine CTv.of (by decide) (Nat.le_of_ble_eq_true rfl) ?_
  intro x hxl hxa hC
  have hC : Cx x RX5 cX5_takeToken 1 none 1 g z0 := hC
  have hV1 := hV.2.1.2
  have hV2 := hV.2.2.1
  have hV3 := hV.1.2
  show GG x g z0 1 0 0 (Qv x g z0 (FV (ctt σ))) σ 0 [(0, .ref (g.2.1 1))] []
  refine g_aload_n (pc' := 1) (j := 0) hC dX5_takeToken_0 rfl rfl rfl ?_
  refine f_Vi (pc' := 4) (k := 1) (st := []) hC (c_hasFailed x.2.1 g z0 σ) k_X5_hasFailed wM_X5_84 (by decide) (by decide) (ct_1 g σ) rfl rfl rfl rfl (Nat.le_of_ble_eq_true rfl) dX5_takeToken_1 rfl (Nat.zero_le _) (Nat.zero_le _) ?_
  refine b_if_ne (pc' := 7) (tgt := 33) hC dX5_takeToken_4 (by decide) rfl (fun c4 => ?_) (fun c4 => ?_)
  · skip
    refine g_retv hC dX5_takeToken_33 ?_
    exact (show _ = _ from (cI_f (fun z => c4 z.1)).symm)
  · skip
    refine g_aload_n (pc' := 8) (j := 0) hC dX5_takeToken_7 rfl rfl rfl ?_
    refine gf_X5_2 (pc' := 11) hC wF_X5_35 dX5_takeToken_8 rfl ?_
    refine gg_topi (b := nI (rd σ 1 2)) (hV.1.1) ?_
    refine g_aload_n (pc' := 12) (j := 0) hC dX5_takeToken_11 rfl rfl rfl ?_
    refine gf_X5_0 (pc' := 15) hC wF_X5_12 dX5_takeToken_12 rfl ?_
    refine gf_X8_4 (pc' := 18) hC wF_X5_159 dX5_takeToken_15 rfl ?_
    refine gg_topi (b := nI (rd σ 2 4)) (hV.2.1.1) ?_
    refine g_iconst (pc' := 19) (v := nI 1) hC dX5_takeToken_18 rfl rfl ?_
    refine n_isub (pc' := 20) hC dX5_takeToken_19 rfl (by omega) ?_
    refine n_icmp_ge (pc' := 23) (tgt := 33) hC dX5_takeToken_20 (by decide) rfl (by omega) (by omega) (fun c20 => ?_) (fun c20 => ?_)
    · skip
      refine g_retv hC dX5_takeToken_33 ?_
      exact (show _ = _ from (cI_f (fun z => absurd z.2 (Nat.not_lt.mpr c20))).symm)
    · skip
      refine g_aload_n (pc' := 24) (j := 0) hC dX5_takeToken_23 rfl rfl rfl ?_
      refine g_dup (pc' := 25) hC dX5_takeToken_24 rfl rfl ?_
      refine gf_X5_2 (pc' := 28) hC wF_X5_35 dX5_takeToken_25 rfl ?_
      refine gg_topi (b := nI (rd σ 1 2)) (hV.1.1) ?_
      refine g_iconst (pc' := 29) (v := nI 1) hC dX5_takeToken_28 rfl rfl ?_
      refine n_iadd (pc' := 30) hC dX5_takeToken_29 rfl ?_
      refine pf_X5_2 (pc' := 33) hC wF_X5_35 dX5_takeToken_30 rfl ?_
      refine g_retv hC dX5_takeToken_33 ?_
      exact (show _ = _ from (cI_t ⟨Classical.not_not.mp c4, c20⟩).symm)
set_option maxHeartbeats 4000000 in
set_option maxRecDepth 20000 in
theorem c_takeKind (l : Launch) (g : Lay) (z0 : Nat) {KA : KAd} (σ : St) (k : Nat) (hK : GK g z0 KA) (hV : PV σ) (hk : k < 16)  : CTv l yX5_takeKind cX5_takeKind 2 2 g z0 [.ref (g.2.1 1), .ref (g.2.2.1 k)] σ (FV (ctK σ k)) := by
  refine CTv.of (by decide) (Nat.le_of_ble_eq_true rfl) ?_
  intro x hxl hxa hC
  have hC : Cx x RX5 cX5_takeKind 2 none 2 g z0 := hC
  show GG x g z0 2 0 0 (Qv x g z0 (FV (ctK σ k))) σ 0 [(0, .ref (g.2.1 1)), (1, .ref (g.2.2.1 k))] []
  refine g_aload_n (pc' := 1) (j := 0) hC dX5_takeKind_0 rfl rfl rfl ?_
  refine f_Ve (pc' := 4) (k := 1) (st := []) hC (c_kindHere x.2.1 g z0 σ (by first | exact hV | (simp (disch := decide) only [nb, rd_uv, rd_ur, uv_cell, ur_cell]; exact hV) | omega)) k_X5_kindHere wM_X5_88 (by decide) (by decide) (ct_1 g σ) rfl rfl rfl rfl (Nat.le_of_ble_eq_true rfl) dX5_takeKind_1 rfl (Nat.zero_le _) (Nat.zero_le _) ?_
  refine g_aload_n (pc' := 5) (j := 1) hC dX5_takeKind_4 rfl rfl rfl ?_
  refine e_acmp_eq (pc' := 8) (a := kdH σ) (b := k) (tgt := 13) hC hK hV.lt (by omega : k < 16) dX5_takeKind_5 (by decide) rfl (fun c5 => ?_) (fun c5 => ?_)
  · skip
    refine g_aload_n (pc' := 14) (j := 0) hC dX5_takeKind_13 rfl rfl rfl ?_
    refine f_Vv (pc' := 17) (k := 1) (st := []) hC (c_takeToken x.2.1 g z0 σ (by first | exact hV | exact (PX_cfa _ _).2.2 hV)) k_X5_takeToken wM_X5_129 (by decide) (by decide) (ct_1 g σ) rfl rfl rfl rfl (Nat.le_of_ble_eq_true rfl) dX5_takeKind_14 rfl (Nat.zero_le _) (Nat.zero_le _) ?_
    refine g_retv hC dX5_takeKind_17 ?_
    exact (show _ = _ from by unfold ctK; rw [cI_t c5])
  · skip
    refine g_aload_n (pc' := 9) (j := 0) hC dX5_takeKind_8 rfl rfl rfl ?_
    refine g_iconst (pc' := 10) (v := nI 1) hC dX5_takeKind_9 rfl rfl ?_
    refine f_Vv (pc' := 13) (k := 1) (st := []) hC (c_fail x.2.1 g z0 σ ((nI 1)) (by first | exact hV | (simp (disch := decide) only [nb, rd_uv, rd_ur, uv_cell, ur_cell]; exact hV) | omega)) k_X5_fail wM_X5_95 (by decide) (by decide) (ct_1 g σ) rfl rfl rfl rfl (Nat.le_of_ble_eq_true rfl) dX5_takeKind_10 rfl (Nat.zero_le _) (Nat.zero_le _) ?_
    refine g_aload_n (pc' := 14) (j := 0) hC dX5_takeKind_13 rfl rfl rfl ?_
    refine f_Vv (pc' := 17) (k := 1) (st := []) hC (c_takeToken x.2.1 g z0 (cfa σ (nI 1)) (by first | exact hV | exact (PX_cfa _ _).2.2 hV)) k_X5_takeToken wM_X5_129 (by decide) (by decide) (ct_1 g (cfa σ (nI 1))) rfl rfl rfl rfl (Nat.le_of_ble_eq_true rfl) dX5_takeKind_14 rfl (Nat.zero_le _) (Nat.zero_le _) ?_
    refine g_retv hC dX5_takeKind_17 ?_
    exact (show _ = _ from by unfold ctK; rw [cI_f c5])
set_option maxHeartbeats 4000000 in
set_option maxRecDepth 20000 in
theorem c_checkNumber (l : Launch) (g : Lay) (z0 : Nat) {KA : KAd} (σ : St) (lo : Int32) (hi : Int32) (hK : GK g z0 KA) (hV : PV σ)  : CTv l yX5_checkNumber cX5_checkNumber 4 1 g z0 [.ref (g.2.1 1), .int lo, .int hi] σ (FV (ccN σ lo hi)) := by
  refine CTv.of (by decide) (Nat.le_of_ble_eq_true rfl) ?_
  intro x hxl hxa hC
  have hC : Cx x RX5 cX5_checkNumber 4 none 1 g z0 := hC
  have hV1 := hV.2.1.2
  have hV2 := hV.2.2.1
  have hV3 := hV.1.2
  show GG x g z0 4 0 0 (Qv x g z0 (FV (ccN σ lo hi))) σ 0 [(0, .ref (g.2.1 1)), (1, .int lo), (2, .int hi)] []
  refine g_aload_n (pc' := 1) (j := 0) hC dX5_checkNumber_0 rfl rfl rfl ?_
  refine gf_X5_0 (pc' := 4) hC wF_X5_12 dX5_checkNumber_1 rfl ?_
  refine gf_X8_3 (pc' := 7) hC wF_X5_158 dX5_checkNumber_4 rfl ?_
  refine g_aload_n (pc' := 8) (j := 0) hC dX5_checkNumber_7 rfl rfl rfl ?_
  refine gf_X5_2 (pc' := 11) hC wF_X5_35 dX5_checkNumber_8 rfl ?_
  refine gg_topi (b := nI (rd σ 1 2)) (hV.1.1) ?_
  refine a_ld (pc' := 12) (k := 6) (i := rd σ 1 2) hC (by decide) (ct_6 g σ) (by omega) (by decide) dX5_checkNumber_11 rfl ?_
  refine g_istore_n (pc' := 13) (lv' := [(3, .int (σ.1 6 (rd σ 1 2))), (0, .ref (g.2.1 1)), (1, .int lo), (2, .int hi)]) hC dX5_checkNumber_12 rfl rfl (by decide) rfl ?_
  refine g_aload_n (pc' := 14) (j := 1) hC dX5_checkNumber_13 rfl rfl rfl ?_
  refine f_Ve (pc' := 17) (k := 1) (st := []) hC (c_kindHere x.2.1 g z0 σ (by first | exact hV | (simp (disch := decide) only [nb, rd_uv, rd_ur, uv_cell, ur_cell]; exact hV) | omega)) k_X5_kindHere wM_X5_88 (by decide) (by decide) (ct_1 g σ) rfl rfl rfl rfl (Nat.le_of_ble_eq_true rfl) dX5_checkNumber_14 rfl (Nat.zero_le _) (Nat.zero_le _) ?_
  refine g_gsE (pc' := 20) (i := 3) hC hK (by decide) rfl wF_X5_102 dX5_checkNumber_17 rfl ?_
  refine e_acmp_eq (pc' := 23) (a := kdH σ) (b := 3) (tgt := 31) hC hK hV.lt (by decide) dX5_checkNumber_20 (by decide) rfl (fun c20 => ?_) (fun c20 => ?_)
  · skip
    refine g_iload_n (pc' := 32) (j := 0) hC dX5_checkNumber_31 rfl rfl rfl ?_
    refine g_iload_n (pc' := 33) (j := 2) hC dX5_checkNumber_32 rfl rfl rfl ?_
    refine g_icmp_lt (pc' := 36) (tgt := 41) hC dX5_checkNumber_33 (by decide) rfl (fun c33 => ?_) (fun c33 => ?_)
    · skip
      refine g_aload_n (pc' := 42) (j := 1) hC dX5_checkNumber_41 rfl rfl rfl ?_
      refine g_iconst (pc' := 43) (v := nI 2) hC dX5_checkNumber_42 rfl rfl ?_
      refine f_Vv (pc' := 46) (k := 1) (st := []) hC (c_fail x.2.1 g z0 σ ((nI 2)) (by first | exact hV | (simp (disch := decide) only [nb, rd_uv, rd_ur, uv_cell, ur_cell]; exact hV) | omega)) k_X5_fail wM_X5_95 (by decide) (by decide) (ct_1 g σ) rfl rfl rfl rfl (Nat.le_of_ble_eq_true rfl) dX5_checkNumber_43 rfl (Nat.zero_le _) (Nat.zero_le _) ?_
      refine g_retv hC dX5_checkNumber_46 ?_
      exact (show _ = _ from by unfold ccN; rw [cI_t c20, cI_t (Or.inl c33)])
    · skip
      refine g_iload_n (pc' := 37) (j := 0) hC dX5_checkNumber_36 rfl rfl rfl ?_
      refine g_iload_n (pc' := 38) (j := 3) hC dX5_checkNumber_37 rfl rfl rfl ?_
      refine g_icmp_le (pc' := 41) (tgt := 46) hC dX5_checkNumber_38 (by decide) rfl (fun c38 => ?_) (fun c38 => ?_)
      · skip
        refine g_retv hC dX5_checkNumber_46 ?_
        exact (show _ = _ from by unfold ccN; rw [cI_t c20, cI_f (fun z => z.elim c33 (fun z => z c38))])
      · skip
        refine g_aload_n (pc' := 42) (j := 1) hC dX5_checkNumber_41 rfl rfl rfl ?_
        refine g_iconst (pc' := 43) (v := nI 2) hC dX5_checkNumber_42 rfl rfl ?_
        refine f_Vv (pc' := 46) (k := 1) (st := []) hC (c_fail x.2.1 g z0 σ ((nI 2)) (by first | exact hV | (simp (disch := decide) only [nb, rd_uv, rd_ur, uv_cell, ur_cell]; exact hV) | omega)) k_X5_fail wM_X5_95 (by decide) (by decide) (ct_1 g σ) rfl rfl rfl rfl (Nat.le_of_ble_eq_true rfl) dX5_checkNumber_43 rfl (Nat.zero_le _) (Nat.zero_le _) ?_
        refine g_retv hC dX5_checkNumber_46 ?_
        exact (show _ = _ from by unfold ccN; rw [cI_t c20, cI_t (Or.inr c38)])
  · skip
    refine g_aload_n (pc' := 24) (j := 1) hC dX5_checkNumber_23 rfl rfl rfl ?_
    refine g_iconst (pc' := 25) (v := nI 1) hC dX5_checkNumber_24 rfl rfl ?_
    refine f_Vv (pc' := 28) (k := 1) (st := []) hC (c_fail x.2.1 g z0 σ ((nI 1)) (by first | exact hV | (simp (disch := decide) only [nb, rd_uv, rd_ur, uv_cell, ur_cell]; exact hV) | omega)) k_X5_fail wM_X5_95 (by decide) (by decide) (ct_1 g σ) rfl rfl rfl rfl (Nat.le_of_ble_eq_true rfl) dX5_checkNumber_25 rfl (Nat.zero_le _) (Nat.zero_le _) ?_
    refine g_goto (tgt := 46) hC dX5_checkNumber_28 (by decide) ?_
    refine g_retv hC dX5_checkNumber_46 ?_
    exact (show _ = _ from by unfold ccN; rw [cI_f c20])
set_option maxHeartbeats 4000000 in
set_option maxRecDepth 20000 in
theorem c_takeNumber (l : Launch) (g : Lay) (z0 : Nat) {KA : KAd} (σ : St) (lo : Int32) (hi : Int32) (hK : GK g z0 KA) (hV : PV σ)  : CTi l yX5_takeNumber cX5_takeNumber 4 (some .int) 2 g z0 [.ref (g.2.1 1), .int lo, .int hi] σ (FI (σ.1 6 (rd σ 1 2)) (ctN σ lo hi)) := by
  refine CTi.of (by decide) (Nat.le_of_ble_eq_true rfl) ?_
  intro x hxl hxa hC
  have hC : Cx x RX5 cX5_takeNumber 4 (some .int) 2 g z0 := hC
  have hV1 := hV.2.1.2
  have hV2 := hV.2.2.1
  have hV3 := hV.1.2
  show GG x g z0 4 0 0 (Qi x g z0 (FI (σ.1 6 (rd σ 1 2)) (ctN σ lo hi))) σ 0 [(0, .ref (g.2.1 1)), (1, .int lo), (2, .int hi)] []
  refine g_aload_n (pc' := 1) (j := 0) hC dX5_takeNumber_0 rfl rfl rfl ?_
  refine gf_X5_0 (pc' := 4) hC wF_X5_12 dX5_takeNumber_1 rfl ?_
  refine gf_X8_3 (pc' := 7) hC wF_X5_158 dX5_takeNumber_4 rfl ?_
  refine g_aload_n (pc' := 8) (j := 0) hC dX5_takeNumber_7 rfl rfl rfl ?_
  refine gf_X5_2 (pc' := 11) hC wF_X5_35 dX5_takeNumber_8 rfl ?_
  refine gg_topi (b := nI (rd σ 1 2)) (hV.1.1) ?_
  refine a_ld (pc' := 12) (k := 6) (i := rd σ 1 2) hC (by decide) (ct_6 g σ) (by omega) (by decide) dX5_takeNumber_11 rfl ?_
  refine g_istore_n (pc' := 13) (lv' := [(3, .int (σ.1 6 (rd σ 1 2))), (0, .ref (g.2.1 1)), (1, .int lo), (2, .int hi)]) hC dX5_takeNumber_12 rfl rfl (by decide) rfl ?_
  refine g_aload_n (pc' := 14) (j := 1) hC dX5_takeNumber_13 rfl rfl rfl ?_
  refine g_iload_n (pc' := 15) (j := 2) hC dX5_takeNumber_14 rfl rfl rfl ?_
  refine g_iload_n (pc' := 16) (j := 3) hC dX5_takeNumber_15 rfl rfl rfl ?_
  refine f_Vv (pc' := 19) (k := 1) (st := []) hC (c_checkNumber x.2.1 g z0 σ lo hi (hK) (by first | exact hV | (simp (disch := decide) only [nb, rd_uv, rd_ur, uv_cell, ur_cell]; exact hV) | omega)) k_X5_checkNumber wM_X5_105 (by decide) (by decide) (ct_1 g σ) rfl rfl rfl rfl (Nat.le_of_ble_eq_true rfl) dX5_takeNumber_16 rfl (Nat.zero_le _) (Nat.zero_le _) ?_
  refine g_aload_n (pc' := 20) (j := 1) hC dX5_takeNumber_19 rfl rfl rfl ?_
  refine f_Vv (pc' := 23) (k := 1) (st := []) hC (c_takeToken x.2.1 g z0 (ccN σ lo hi) ((PX_ccN _ _ _).2.2 hV)) k_X5_takeToken wM_X5_129 (by decide) (by decide) (ct_1 g (ccN σ lo hi)) rfl rfl rfl rfl (Nat.le_of_ble_eq_true rfl) dX5_takeNumber_20 rfl (Nat.zero_le _) (Nat.zero_le _) ?_
  refine g_iload_n (pc' := 24) (j := 0) hC dX5_takeNumber_23 rfl rfl rfl ?_
  refine g_ret hC dX5_takeNumber_24 rfl ?_
  exact ⟨rfl, rfl⟩
set_option maxHeartbeats 4000000 in
set_option maxRecDepth 20000 in
theorem c_takeRest (l : Launch) (g : Lay) (z0 : Nat) {KA : KAd} (σ : St) (s0 : Int32) (hK : GK g z0 KA) (hV : PV σ)  : CTi l yX5_takeRestOfSet cX5_takeRestOfSet 4 (some .int) 3 g z0 [.ref (g.2.1 1), .int s0] σ (FI ((crs 900 s0 σ).1) ((crs 900 s0 σ).2)) := by
  refine CTi.of (by decide) (Nat.le_of_ble_eq_true rfl) ?_
  intro x hxl hxa hC
  have hC : Cx x RX5 cX5_takeRestOfSet 4 (some .int) 3 g z0 := hC
  show GG x g z0 4 0 0 (Qi x g z0 (FI ((crs 900 s0 σ).1) ((crs 900 s0 σ).2))) σ 0 [(0, .ref (g.2.1 1)), (1, .int s0)] []
  refine g_iload_n (pc' := 1) (j := 1) hC dX5_takeRestOfSet_0 rfl rfl rfl ?_
  refine g_istore_n (pc' := 2) (lv' := [(2, .int s0), (0, .ref (g.2.1 1)), (1, .int s0)]) hC dX5_takeRestOfSet_1 rfl rfl (by decide) rfl ?_
  refine g_iconst (pc' := 3) (v := nI 0) hC dX5_takeRestOfSet_2 rfl rfl ?_
  refine g_istore_n (pc' := 4) (lv' := [(3, .int (nI 0)), (2, .int s0), (0, .ref (g.2.1 1)), (1, .int s0)]) hC dX5_takeRestOfSet_3 rfl rfl (by decide) rfl ?_
  have L4 : ∀ (fu : Nat) (i : Nat) (s : Int32) (τ : St), (i ≤ 900) → (PV τ) → (crs (900 - i) s τ = crs 900 s0 σ) → (900 - i) < fu → GG x g z0 4 0 0 (Qi x g z0 (FI ((crs 900 s0 σ).1) ((crs 900 s0 σ).2))) τ 4 [(3, .int (nI i)), (2, .int s), (0, .ref (g.2.1 1)), (1, .int s0)] [] := by
    intro fu
    induction fu with
    | zero => intro i s τ h1 hV hE hz; exact absurd hz (Nat.not_lt_zero _)
    | succ fu ih4 =>
      intro i s τ h1 hV hE hf
      refine g_iload_n (pc' := 5) (j := 0) hC dX5_takeRestOfSet_4 rfl rfl rfl ?_
      refine g_sipush (pc' := 8) (v := nI 900) hC dX5_takeRestOfSet_5 rfl rfl ?_
      refine n_icmp_ge (pc' := 11) (tgt := 50) hC dX5_takeRestOfSet_8 (by decide) rfl (by omega) (by omega) (fun c8 => ?_) (fun c8 => ?_)
      · skip
        refine g_iload_n (pc' := 51) (j := 1) hC dX5_takeRestOfSet_50 rfl rfl rfl ?_
        refine g_ret hC dX5_takeRestOfSet_51 rfl ?_
        exact (show _ ∧ _ from by rw [← hE, crs_e (Or.inl c8)]; exact ⟨rfl, rfl⟩)
      · skip
        refine g_aload_n (pc' := 12) (j := 2) hC dX5_takeRestOfSet_11 rfl rfl rfl ?_
        refine f_Vi (pc' := 15) (k := 1) (st := []) hC (c_hasFailed x.2.1 g z0 τ) k_X5_hasFailed wM_X5_84 (by decide) (by decide) (ct_1 g τ) rfl rfl rfl rfl (Nat.le_of_ble_eq_true rfl) dX5_takeRestOfSet_12 rfl (Nat.zero_le _) (Nat.zero_le _) ?_
        refine b_if_ne (pc' := 18) (tgt := 50) hC dX5_takeRestOfSet_15 (by decide) rfl (fun c15 => ?_) (fun c15 => ?_)
        · skip
          refine g_iload_n (pc' := 51) (j := 1) hC dX5_takeRestOfSet_50 rfl rfl rfl ?_
          refine g_ret hC dX5_takeRestOfSet_51 rfl ?_
          exact (show _ ∧ _ from by rw [← hE, crs_e (Or.inr (fun z => c15 z.1))]; exact ⟨rfl, rfl⟩)
        · skip
          refine g_aload_n (pc' := 19) (j := 2) hC dX5_takeRestOfSet_18 rfl rfl rfl ?_
          refine f_Ve (pc' := 22) (k := 1) (st := []) hC (c_kindHere x.2.1 g z0 τ (by first | exact hV | (simp (disch := decide) only [nb, rd_uv, rd_ur, uv_cell, ur_cell]; exact hV) | omega)) k_X5_kindHere wM_X5_88 (by decide) (by decide) (ct_1 g τ) rfl rfl rfl rfl (Nat.le_of_ble_eq_true rfl) dX5_takeRestOfSet_19 rfl (Nat.zero_le _) (Nat.zero_le _) ?_
          refine g_gsE (pc' := 25) (i := 3) hC hK (by decide) rfl wF_X5_102 dX5_takeRestOfSet_22 rfl ?_
          refine e_acmp_ne (pc' := 28) (a := kdH τ) (b := 3) (tgt := 50) hC hK hV.lt (by decide) dX5_takeRestOfSet_25 (by decide) rfl (fun c25 => ?_) (fun c25 => ?_)
          · skip
            refine g_iload_n (pc' := 51) (j := 1) hC dX5_takeRestOfSet_50 rfl rfl rfl ?_
            refine g_ret hC dX5_takeRestOfSet_51 rfl ?_
            exact (show _ ∧ _ from by rw [← hE, crs_e (Or.inr (fun z => c25 z.2))]; exact ⟨rfl, rfl⟩)
          · skip
            refine g_iload_n (pc' := 29) (j := 1) hC dX5_takeRestOfSet_28 rfl rfl rfl ?_
            refine g_iconst (pc' := 30) (v := nI 1) hC dX5_takeRestOfSet_29 rfl rfl ?_
            refine g_aload_n (pc' := 31) (j := 2) hC dX5_takeRestOfSet_30 rfl rfl rfl ?_
            refine g_iconst (pc' := 32) (v := nI 0) hC dX5_takeRestOfSet_31 rfl rfl ?_
            refine g_aload_n (pc' := 33) (j := 2) hC dX5_takeRestOfSet_32 rfl rfl rfl ?_
            refine gf_X5_4 (pc' := 36) hC wF_X5_63 dX5_takeRestOfSet_33 rfl ?_
            refine g_iconst (pc' := 37) (v := nI 1) hC dX5_takeRestOfSet_36 rfl rfl ?_
            refine g_isub (pc' := 38) hC dX5_takeRestOfSet_37 rfl ?_
            refine f_Vi (pc' := 41) (k := 1) (st := [.int (nI 1), .int s]) hC (c_takeNumber x.2.1 g z0 τ ((nI 0)) (((τ.1 1 4) - (nI 1))) (hK) (by first | exact hV | (simp (disch := decide) only [nb, rd_uv, rd_ur, uv_cell, ur_cell]; exact hV) | omega)) k_X5_takeNumber wM_X5_59 (by decide) (by decide) (ct_1 g τ) rfl rfl rfl rfl (Nat.le_of_ble_eq_true rfl) dX5_takeRestOfSet_38 rfl (Nat.zero_le _) (Nat.zero_le _) ?_
            refine g_ishl (pc' := 42) hC dX5_takeRestOfSet_41 rfl ?_
            refine g_ior (pc' := 43) hC dX5_takeRestOfSet_42 rfl ?_
            refine g_istore_n (pc' := 44) (lv' := [(2, .int (s ||| ((nI 1) <<< ((τ.1 6 (rd τ 1 2)) &&& 31)))), (3, .int (nI i)), (0, .ref (g.2.1 1)), (1, .int s0)]) hC dX5_takeRestOfSet_43 rfl rfl (by decide) rfl ?_
            refine g_iinc (pc' := 47) (j := 1) (u := nI (i + 1)) (lv' := [(3, .int (nI (i + 1))), (2, .int (s ||| ((nI 1) <<< ((τ.1 6 (rd τ 1 2)) &&& 31)))), (0, .ref (g.2.1 1)), (1, .int s0)]) hC dX5_takeRestOfSet_44 rfl rfl (nI_add i 1) (by decide) rfl ?_
            refine g_goto (tgt := 4) hC dX5_takeRestOfSet_47 (by decide) ?_
            refine gg_st (σ' := ((ctN τ (nI 0) ((τ.1 1 4) - (nI 1))))) (rfl) ?_
            refine gg_lv (lv' := [(3, .int (nI (i + 1))), (2, .int (s ||| ((nI 1) <<< ((τ.1 6 (rd τ 1 2)) &&& 31)))), (0, .ref (g.2.1 1)), (1, .int s0)]) ?_ [0, 1, 2, 3] rfl
            exact ih4 ((i + 1)) (s ||| ((nI 1) <<< ((τ.1 6 (rd τ 1 2)) &&& 31))) ((ctN τ (nI 0) ((τ.1 1 4) - (nI 1)))) (by omega) ((PX_ctN _ _ _).2.2 hV) ((crs_s (by omega) ⟨Classical.not_not.mp c15, c25⟩).symm.trans hE) (by omega)
  refine gg_lv (lv' := [(3, .int (nI 0)), (2, .int s0), (0, .ref (g.2.1 1)), (1, .int s0)]) ?_ [0, 1, 2, 3] rfl
  exact L4 (900 - 0 + 1) 0 s0 σ (by omega) (hV) (rfl) (by omega)
set_option maxHeartbeats 4000000 in
set_option maxRecDepth 20000 in
theorem c_greatest (l : Launch) (g : Lay) (z0 : Nat) (σ : St) (s : Int32)   : CTi l yX5_greatest cX5_greatest 2 (some .int) 0 g z0 [.ref (g.2.1 1), .int s] σ (FI (cgr σ s) σ) := by
  refine CTi.of (by decide) (Nat.le_of_ble_eq_true rfl) ?_
  intro x hxl hxa hC
  have hC : Cx x RX5 cX5_greatest 2 (some .int) 0 g z0 := hC
  show GG x g z0 2 0 0 (Qi x g z0 (FI (cgr σ s) σ)) σ 0 [(0, .ref (g.2.1 1)), (1, .int s)] []
  refine g_iload_n (pc' := 1) (j := 1) hC dX5_greatest_0 rfl rfl rfl ?_
  by_cases t1_98 : s = nI 98
  · skip
    refine g_lsw (tgt := 61) (off := 60) hC dX5_greatest_1 (by decide) (by rw [t1_98]; decide) (by decide) ?_
    refine g_bipush (pc' := 63) (v := nI 7) hC dX5_greatest_61 rfl rfl ?_
    refine g_ret hC dX5_greatest_63 rfl ?_
    exact ⟨by unfold cgr; rw [cI_f (by rw [t1_98]; decide), cI_f (by rw [t1_98]; decide), cI_f (by rw [t1_98]; decide), cI_t t1_98], rfl⟩
  by_cases t1_99 : s = nI 99
  · skip
    refine g_lsw (tgt := 44) (off := 43) hC dX5_greatest_1 (by decide) (by rw [t1_99]; decide) (by decide) ?_
    refine g_aload_n (pc' := 45) (j := 0) hC dX5_greatest_44 rfl rfl rfl ?_
    refine gf_X5_4 (pc' := 48) hC wF_X5_63 dX5_greatest_45 rfl ?_
    refine g_iconst (pc' := 49) (v := nI 1) hC dX5_greatest_48 rfl rfl ?_
    refine g_isub (pc' := 50) hC dX5_greatest_49 rfl ?_
    refine g_ret hC dX5_greatest_50 rfl ?_
    exact ⟨by unfold cgr; rw [cI_t t1_99], rfl⟩
  by_cases t1_107 : s = nI 107
  · skip
    refine g_lsw (tgt := 51) (off := 50) hC dX5_greatest_1 (by decide) (by rw [t1_107]; decide) (by decide) ?_
    refine g_aload_n (pc' := 52) (j := 0) hC dX5_greatest_51 rfl rfl rfl ?_
    refine gf_X5_5 (pc' := 55) hC wF_X5_69 dX5_greatest_52 rfl ?_
    refine g_iconst (pc' := 56) (v := nI 1) hC dX5_greatest_55 rfl rfl ?_
    refine g_isub (pc' := 57) hC dX5_greatest_56 rfl ?_
    refine g_ret hC dX5_greatest_57 rfl ?_
    exact ⟨by unfold cgr; rw [cI_f (by rw [t1_107]; decide), cI_t t1_107], rfl⟩
  by_cases t1_118 : s = nI 118
  · skip
    refine g_lsw (tgt := 58) (off := 57) hC dX5_greatest_1 (by decide) (by rw [t1_118]; decide) (by decide) ?_
    refine g_ldc (pc' := 60) (v := 999999) hC wC_X5_157 dX5_greatest_58 rfl ?_
    refine gg_topi (b := nI 999999) rfl ?_
    refine g_ret hC dX5_greatest_60 rfl ?_
    exact ⟨by unfold cgr; rw [cI_f (by rw [t1_118]; decide), cI_f (by rw [t1_118]; decide), cI_t t1_118], rfl⟩
  refine g_lsw (tgt := 64) (off := 63) hC dX5_greatest_1 (by decide) (by show Op.lookupswitch.offset [(98, 60), (99, 43), (107, 50), (118, 57)] 63 (s).toInt = 63; rw [Op.lookupswitch.offset_cons, if_neg (show ¬ (98 : Int) = (s).toInt from fun z => t1_98 (nI_ti (by decide) z)), Op.lookupswitch.offset_cons, if_neg (show ¬ (99 : Int) = (s).toInt from fun z => t1_99 (nI_ti (by decide) z)), Op.lookupswitch.offset_cons, if_neg (show ¬ (107 : Int) = (s).toInt from fun z => t1_107 (nI_ti (by decide) z)), Op.lookupswitch.offset_cons, if_neg (show ¬ (118 : Int) = (s).toInt from fun z => t1_118 (nI_ti (by decide) z))]; rfl) (by decide) ?_
  refine g_sipush (pc' := 67) (v := nI 200) hC dX5_greatest_64 rfl rfl ?_
  refine g_ret hC dX5_greatest_67 rfl ?_
  exact ⟨by unfold cgr; rw [cI_f t1_99, cI_f t1_107, cI_f t1_118, cI_f t1_98], rfl⟩
set_option maxHeartbeats 4000000 in
set_option maxRecDepth 20000 in
theorem c_takeOperands (l : Launch) (g : Lay) (z0 : Nat) {KA : KAd} (σ : St) (p : Nat) (f : Nat) (hK : GK g z0 KA) (hV : PV σ) (hp : p < 60) (hq : skO σ p) (hf : f ≤ 1)  : CTv l yX5_takeOperands cX5_takeOperands 6 4 g z0 [.ref (g.2.1 1), .ref (g.2.1 (108 + 2 * p)), .int (nI f)] σ (FV (cto (3 - f) p (kOp.getD (skd σ p) 0) f σ)) := by
  refine CTv.of (by decide) (Nat.le_of_ble_eq_true rfl) ?_
  intro x hxl hxa hC
  have hC : Cx x RX5 cX5_takeOperands 6 none 4 g z0 := hC
  have hL8 := k_len (kOp_lt hq.2)
  show GG x g z0 6 0 0 (Qv x g z0 (FV (cto (3 - f) p (kOp.getD (skd σ p) 0) f σ))) σ 0 [(0, .ref (g.2.1 1)), (1, .ref (g.2.1 (108 + 2 * p))), (2, .int (nI f))] []
  refine g_aload_n (pc' := 1) (j := 1) hC dX5_takeOperands_0 rfl rfl rfl ?_
  refine gf_X7_1 (pc' := 4) (b := p) hC (by omega : p < 60) wF_X5_116 dX5_takeOperands_1 rfl ?_
  refine gg_top (b := .ref (g.2.2.1 (skd σ p))) (by rw [hq.1]; rfl) ?_
  refine g_gOp (pc' := 7) (i := skd σ p) hC hK hq.2 wF_X5_139 dX5_takeOperands_4 rfl ?_
  refine g_astore_n (pc' := 8) (lv' := [(3, .ref (KA.1 (kOp.getD (skd σ p) 0))), (0, .ref (g.2.1 1)), (1, .ref (g.2.1 (108 + 2 * p))), (2, .int (nI f))]) hC dX5_takeOperands_7 rfl rfl (by decide) rfl ?_
  refine g_iload_n (pc' := 9) (j := 3) hC dX5_takeOperands_8 rfl rfl rfl ?_
  refine g_istore (pc' := 11) (lv' := [(4, .int (nI f)), (3, .ref (KA.1 (kOp.getD (skd σ p) 0))), (0, .ref (g.2.1 1)), (1, .ref (g.2.1 (108 + 2 * p))), (2, .int (nI f))]) hC dX5_takeOperands_9 rfl (by decide) rfl ?_
  have L11 : ∀ (fu : Nat) (a : Nat) (τ : St), (a ≤ 3) → (PV τ) → (cto (3 - a) p (kOp.getD (skd σ p) 0) a τ = cto (3 - f) p (kOp.getD (skd σ p) 0) f σ) → (3 - a) < fu → GG x g z0 6 0 0 (Qv x g z0 (FV (cto (3 - f) p (kOp.getD (skd σ p) 0) f σ))) τ 11 [(4, .int (nI a)), (3, .ref (KA.1 (kOp.getD (skd σ p) 0))), (0, .ref (g.2.1 1)), (1, .ref (g.2.1 (108 + 2 * p))), (2, .int (nI f))] [] := by
    intro fu
    induction fu with
    | zero => intro a τ h1 hV hE hz; exact absurd hz (Nat.not_lt_zero _)
    | succ fu ih11 =>
      intro a τ h1 hV hE hf
      refine g_iload (pc' := 13) (j := 0) hC dX5_takeOperands_11 rfl rfl ?_
      refine g_aload_n (pc' := 14) (j := 1) hC dX5_takeOperands_13 rfl rfl rfl ?_
      refine f_Ki (pc' := 17) (i := kOp.getD (skd σ p) 0) (st := [.int (nI a)]) hC hK (kOp_lt hq.2) (j_length x.2.1 g z0 τ ((kOp.getD (skd σ p) 0)) (hK) (kOp_lt hq.2)) k_J0_length_8abf5 rfl wM_X5_143 (by decide) rfl rfl (Nat.le_of_ble_eq_true rfl) dX5_takeOperands_14 rfl (Nat.zero_le _) (Nat.zero_le _) ?_
      refine n_icmp_ge (pc' := 20) (tgt := 69) hC dX5_takeOperands_17 (by decide) rfl (by omega) (by omega) (fun c17 => ?_) (fun c17 => ?_)
      · skip
        refine g_retv hC dX5_takeOperands_69 ?_
        exact (show _ = _ from by rw [← hE, cto_e (Or.inr c17)])
      · skip
        refine g_iload (pc' := 22) (j := 0) hC dX5_takeOperands_20 rfl rfl ?_
        refine g_iconst (pc' := 23) (v := nI 3) hC dX5_takeOperands_22 rfl rfl ?_
        refine n_icmp_ge (pc' := 26) (tgt := 69) hC dX5_takeOperands_23 (by decide) rfl (by omega) (by omega) (fun c23 => ?_) (fun c23 => ?_)
        · skip
          refine g_retv hC dX5_takeOperands_69 ?_
          exact (show _ = _ from by rw [← hE, cto_e (Or.inl c23)])
        · skip
          refine g_aload_n (pc' := 27) (j := 1) hC dX5_takeOperands_26 rfl rfl rfl ?_
          refine g_iload (pc' := 29) (j := 0) hC dX5_takeOperands_27 rfl rfl ?_
          refine f_Ki (pc' := 32) (i := kOp.getD (skd σ p) 0) (st := []) hC hK (kOp_lt hq.2) (j_charAt x.2.1 g z0 τ ((kOp.getD (skd σ p) 0)) a (hK) (kOp_lt hq.2) (c17)) k_J0_charAt_5068e rfl wM_X5_149 (by decide) rfl rfl (Nat.le_of_ble_eq_true rfl) dX5_takeOperands_29 rfl (Nat.zero_le _) (Nat.zero_le _) ?_
          refine g_istore (pc' := 34) (lv' := [(5, .int ((kByt.getD (kOp.getD (skd σ p) 0) []).getD a 0)), (4, .int (nI a)), (3, .ref (KA.1 (kOp.getD (skd σ p) 0))), (0, .ref (g.2.1 1)), (1, .ref (g.2.1 (108 + 2 * p))), (2, .int (nI f))]) hC dX5_takeOperands_32 rfl (by decide) rfl ?_
          refine g_aload_n (pc' := 35) (j := 4) hC dX5_takeOperands_34 rfl rfl rfl ?_
          refine gf_X7_0 (pc' := 38) (b := p) hC (by omega : p < 60) wF_X5_113 dX5_takeOperands_35 rfl ?_
          refine g_iload (pc' := 40) (j := 1) hC dX5_takeOperands_38 rfl rfl ?_
          refine g_aload_n (pc' := 41) (j := 3) hC dX5_takeOperands_40 rfl rfl rfl ?_
          refine g_iload (pc' := 43) (j := 0) hC dX5_takeOperands_41 rfl rfl ?_
          refine g_bipush (pc' := 45) (v := nI 110) hC dX5_takeOperands_43 rfl rfl ?_
          refine g_icmp_ne (pc' := 48) (tgt := 52) hC dX5_takeOperands_45 (by decide) rfl (fun c45 => ?_) (fun c45 => ?_)
          · skip
            refine g_iconst (pc' := 53) (v := nI 0) hC dX5_takeOperands_52 rfl rfl ?_
            refine g_aload_n (pc' := 54) (j := 3) hC dX5_takeOperands_53 rfl rfl rfl ?_
            refine g_iload (pc' := 56) (j := 0) hC dX5_takeOperands_54 rfl rfl ?_
            refine f_Vi (pc' := 59) (k := 1) (st := [.int (nI 0), .ref (g.2.1 1), .int (nI a), .ref (g.2.1 (108 + 2 * p + 1))]) hC (c_greatest x.2.1 g z0 τ (((kByt.getD (kOp.getD (skd σ p) 0) []).getD a 0))) k_X5_greatest wM_X5_153 (by decide) (by decide) (ct_1 g τ) rfl rfl rfl rfl (Nat.le_of_ble_eq_true rfl) dX5_takeOperands_56 rfl (Nat.zero_le _) (Nat.zero_le _) ?_
            refine f_Vi (pc' := 62) (k := 1) (st := [.int (nI a), .ref (g.2.1 (108 + 2 * p + 1))]) hC (c_takeNumber x.2.1 g z0 τ ((nI 0)) ((cgr τ ((kByt.getD (kOp.getD (skd σ p) 0) []).getD a 0))) (hK) (by first | exact hV | (simp (disch := decide) only [nb, rd_uv, rd_ur, uv_cell, ur_cell]; exact hV) | omega)) k_X5_takeNumber wM_X5_59 (by decide) (by decide) (ct_1 g τ) rfl rfl rfl rfl (Nat.le_of_ble_eq_true rfl) dX5_takeOperands_59 rfl (Nat.zero_le _) (Nat.zero_le _) ?_
            refine a_st (pc' := 63) (k := 108 + 2 * p + 1) (i := a) hC (by have := (by omega : p < 60); show _ < 228; omega) (fun σ9 => (ct_sn g σ9 (by omega : p < 60))) (by omega) (by decide) dX5_takeOperands_62 rfl ?_
            refine g_iinc (pc' := 66) (j := 1) (u := nI (a + 1)) (lv' := [(4, .int (nI (a + 1))), (5, .int ((kByt.getD (kOp.getD (skd σ p) 0) []).getD a 0)), (3, .ref (KA.1 (kOp.getD (skd σ p) 0))), (0, .ref (g.2.1 1)), (1, .ref (g.2.1 (108 + 2 * p))), (2, .int (nI f))]) hC dX5_takeOperands_63 rfl rfl (nI_add a 1) (by decide) rfl ?_
            refine g_goto (tgt := 11) hC dX5_takeOperands_66 (by decide) ?_
            refine gg_st (σ' := ((uv (ctN τ (nI 0) (cgr τ ((kByt.getD (kOp.getD (skd σ p) 0) []).getD a 0))) (108 + 2 * p + 1) a (τ.1 6 (rd τ 1 2))))) (rfl) ?_
            refine gg_lv (lv' := [(4, .int (nI (a + 1))), (3, .ref (KA.1 (kOp.getD (skd σ p) 0))), (0, .ref (g.2.1 1)), (1, .ref (g.2.1 (108 + 2 * p))), (2, .int (nI f))]) ?_ [0, 2, 3, 4, 5] rfl
            exact ih11 ((a + 1)) ((uv (ctN τ (nI 0) (cgr τ ((kByt.getD (kOp.getD (skd σ p) 0) []).getD a 0))) (108 + 2 * p + 1) a (τ.1 6 (rd τ 1 2)))) (by omega) (((PX_ctN _ _ _).ps p |>.tr (PS_uv p _ _ _)).2.2.2 hV) ((cto_s c23 c17 (cI_f c45)).symm.trans hE) (by omega)
          · skip
            refine g_iconst (pc' := 49) (v := nI 1) hC dX5_takeOperands_48 rfl rfl ?_
            refine g_goto (tgt := 53) hC dX5_takeOperands_49 (by decide) ?_
            refine g_aload_n (pc' := 54) (j := 3) hC dX5_takeOperands_53 rfl rfl rfl ?_
            refine g_iload (pc' := 56) (j := 0) hC dX5_takeOperands_54 rfl rfl ?_
            refine f_Vi (pc' := 59) (k := 1) (st := [.int (nI 1), .ref (g.2.1 1), .int (nI a), .ref (g.2.1 (108 + 2 * p + 1))]) hC (c_greatest x.2.1 g z0 τ (((kByt.getD (kOp.getD (skd σ p) 0) []).getD a 0))) k_X5_greatest wM_X5_153 (by decide) (by decide) (ct_1 g τ) rfl rfl rfl rfl (Nat.le_of_ble_eq_true rfl) dX5_takeOperands_56 rfl (Nat.zero_le _) (Nat.zero_le _) ?_
            refine f_Vi (pc' := 62) (k := 1) (st := [.int (nI a), .ref (g.2.1 (108 + 2 * p + 1))]) hC (c_takeNumber x.2.1 g z0 τ ((nI 1)) ((cgr τ ((kByt.getD (kOp.getD (skd σ p) 0) []).getD a 0))) (hK) (by first | exact hV | (simp (disch := decide) only [nb, rd_uv, rd_ur, uv_cell, ur_cell]; exact hV) | omega)) k_X5_takeNumber wM_X5_59 (by decide) (by decide) (ct_1 g τ) rfl rfl rfl rfl (Nat.le_of_ble_eq_true rfl) dX5_takeOperands_59 rfl (Nat.zero_le _) (Nat.zero_le _) ?_
            refine a_st (pc' := 63) (k := 108 + 2 * p + 1) (i := a) hC (by have := (by omega : p < 60); show _ < 228; omega) (fun σ9 => (ct_sn g σ9 (by omega : p < 60))) (by omega) (by decide) dX5_takeOperands_62 rfl ?_
            refine g_iinc (pc' := 66) (j := 1) (u := nI (a + 1)) (lv' := [(4, .int (nI (a + 1))), (5, .int ((kByt.getD (kOp.getD (skd σ p) 0) []).getD a 0)), (3, .ref (KA.1 (kOp.getD (skd σ p) 0))), (0, .ref (g.2.1 1)), (1, .ref (g.2.1 (108 + 2 * p))), (2, .int (nI f))]) hC dX5_takeOperands_63 rfl rfl (nI_add a 1) (by decide) rfl ?_
            refine g_goto (tgt := 11) hC dX5_takeOperands_66 (by decide) ?_
            refine gg_st (σ' := ((uv (ctN τ (nI 1) (cgr τ ((kByt.getD (kOp.getD (skd σ p) 0) []).getD a 0))) (108 + 2 * p + 1) a (τ.1 6 (rd τ 1 2))))) (rfl) ?_
            refine gg_lv (lv' := [(4, .int (nI (a + 1))), (3, .ref (KA.1 (kOp.getD (skd σ p) 0))), (0, .ref (g.2.1 1)), (1, .ref (g.2.1 (108 + 2 * p))), (2, .int (nI f))]) ?_ [0, 2, 3, 4, 5] rfl
            exact ih11 ((a + 1)) ((uv (ctN τ (nI 1) (cgr τ ((kByt.getD (kOp.getD (skd σ p) 0) []).getD a 0))) (108 + 2 * p + 1) a (τ.1 6 (rd τ 1 2)))) (by omega) (((PX_ctN _ _ _).ps p |>.tr (PS_uv p _ _ _)).2.2.2 hV) ((cto_s c23 c17 (cI_t c45)).symm.trans hE) (by omega)
  refine gg_lv (lv' := [(4, .int (nI f)), (3, .ref (KA.1 (kOp.getD (skd σ p) 0))), (0, .ref (g.2.1 1)), (1, .ref (g.2.1 (108 + 2 * p))), (2, .int (nI f))]) ?_ [0, 1, 2, 3, 4] rfl
  exact L11 (3 - f + 1) f σ (by omega) (hV) (rfl) (by omega)
set_option maxHeartbeats 4000000 in
set_option maxRecDepth 20000 in
theorem c_parseStep (l : Launch) (g : Lay) (z0 : Nat) {KA : KAd} (σ : St) (p : Nat) (hK : GK g z0 KA) (hV : PV σ) (hp : p < 60)  : CTv l yX5_parseStep cX5_parseStep 2 5 g z0 [.ref (g.2.1 1), .ref (g.2.1 (108 + 2 * p))] σ (FV (cqs σ p)) := by
  refine CTv.of (by decide) (Nat.le_of_ble_eq_true rfl) ?_
  intro x hxl hxa hC
  have hC : Cx x RX5 cX5_parseStep 2 none 5 g z0 := hC
  show GG x g z0 2 0 0 (Qv x g z0 (FV (cqs σ p))) σ 0 [(0, .ref (g.2.1 1)), (1, .ref (g.2.1 (108 + 2 * p)))] []
  refine g_aload_n (pc' := 1) (j := 0) hC dX5_parseStep_0 rfl rfl rfl ?_
  refine f_Ve (pc' := 4) (k := 1) (st := []) hC (c_kindHere x.2.1 g z0 σ (by first | exact hV | (simp (disch := decide) only [nb, rd_uv, rd_ur, uv_cell, ur_cell]; exact hV) | omega)) k_X5_kindHere wM_X5_88 (by decide) (by decide) (ct_1 g σ) rfl rfl rfl rfl (Nat.le_of_ble_eq_true rfl) dX5_parseStep_1 rfl (Nat.zero_le _) (Nat.zero_le _) ?_
  refine g_gsE (pc' := 7) (i := 3) hC hK (by decide) rfl wF_X5_102 dX5_parseStep_4 rfl ?_
  refine e_acmp_ne (pc' := 10) (a := kdH σ) (b := 3) (tgt := 67) hC hK hV.lt (by decide) dX5_parseStep_7 (by decide) rfl (fun c7 => ?_) (fun c7 => ?_)
  · skip
    refine g_aload_n (pc' := 68) (j := 1) hC dX5_parseStep_67 rfl rfl rfl ?_
    refine g_aload_n (pc' := 69) (j := 0) hC dX5_parseStep_68 rfl rfl rfl ?_
    refine f_Ve (pc' := 72) (k := 1) (st := [.ref (g.2.1 (108 + 2 * p))]) hC (c_kindHere x.2.1 g z0 σ (by first | exact hV | (simp (disch := decide) only [nb, rd_uv, rd_ur, uv_cell, ur_cell]; exact hV) | omega)) k_X5_kindHere wM_X5_88 (by decide) (by decide) (ct_1 g σ) rfl rfl rfl rfl (Nat.le_of_ble_eq_true rfl) dX5_parseStep_69 rfl (Nat.zero_le _) (Nat.zero_le _) ?_
    refine pf_X7_1 (pc' := 75) (v := some (kdH σ)) (b := p) hC (by omega : p < 60) wF_X5_116 dX5_parseStep_72 rfl ?_
    refine gg_st (σ' := cqk σ p) (rfl) ?_
    refine g_aload_n (pc' := 76) (j := 0) hC dX5_parseStep_75 rfl rfl rfl ?_
    refine f_Vv (pc' := 79) (k := 1) (st := []) hC (c_takeToken x.2.1 g z0 (cqk σ p) ((cqk_ok hV p).1)) k_X5_takeToken wM_X5_129 (by decide) (by decide) (ct_1 g (cqk σ p)) rfl rfl rfl rfl (Nat.le_of_ble_eq_true rfl) dX5_parseStep_76 rfl (Nat.zero_le _) (Nat.zero_le _) ?_
    refine gg_st (σ' := cq2 σ p) (rfl) ?_
    refine g_aload_n (pc' := 80) (j := 0) hC dX5_parseStep_79 rfl rfl rfl ?_
    refine g_aload_n (pc' := 81) (j := 1) hC dX5_parseStep_80 rfl rfl rfl ?_
    refine g_iconst (pc' := 82) (v := nI 0) hC dX5_parseStep_81 rfl rfl ?_
    refine f_Vv (pc' := 85) (k := 1) (st := []) hC (c_takeOperands x.2.1 g z0 (cq2 σ p) p 0 (hK) ((cq2_PS σ p).2.2.2 hV) (by omega) ((cq2_sk hV p).1) (by omega)) k_X5_takeOperands wM_X5_125 (by decide) (by decide) (ct_1 g (cq2 σ p)) rfl rfl rfl rfl (Nat.le_of_ble_eq_true rfl) dX5_parseStep_82 rfl (Nat.zero_le _) (Nat.zero_le _) ?_
    refine gg_st (σ' := cq3 σ p) ((cI_f c7).symm) ?_
    refine g_aload_n (pc' := 86) (j := 1) hC dX5_parseStep_85 rfl rfl rfl ?_
    refine gf_X7_1 (pc' := 89) (b := p) hC (by omega : p < 60) wF_X5_116 dX5_parseStep_86 rfl ?_
    refine gg_top (b := .ref (g.2.2.1 (skd (cq3 σ p) p))) (by rw [(cq3_sk hV p).1]; rfl) ?_
    refine g_gsE (pc' := 92) (i := 9) hC hK (by decide) rfl wF_X5_132 dX5_parseStep_89 rfl ?_
    refine e_acmp_ne (pc' := 95) (a := skd (cq3 σ p) p) (b := 9) (tgt := 113) hC hK (cq3_sk hV p).2 (by decide) dX5_parseStep_92 (by decide) rfl (fun c92 => ?_) (fun c92 => ?_)
    · skip
      refine gg_st (σ' := cqf (cq3 σ p) p) ((cI_f c92).symm) ?_
      refine g_aload_n (pc' := 114) (j := 0) hC dX5_parseStep_113 rfl rfl rfl ?_
      refine g_gsE (pc' := 117) (i := 2) hC hK (by decide) rfl wF_X5_78 dX5_parseStep_114 rfl ?_
      refine f_Vv (pc' := 120) (k := 1) (st := []) hC (c_takeKind x.2.1 g z0 (cqf (cq3 σ p) p) 2 (hK) (((cq3_PS σ p).tr (cqf_PS _ p)).2.2.2 hV) (by omega)) k_X5_takeKind wM_X5_55 (by decide) (by decide) (ct_1 g (cqf (cq3 σ p) p)) rfl rfl rfl rfl (Nat.le_of_ble_eq_true rfl) dX5_parseStep_117 rfl (Nat.zero_le _) (Nat.zero_le _) ?_
      refine g_retv hC dX5_parseStep_120 ?_
      exact rfl
    · skip
      refine g_aload_n (pc' := 96) (j := 1) hC dX5_parseStep_95 rfl rfl rfl ?_
      refine gf_X7_0 (pc' := 99) (b := p) hC (by omega : p < 60) wF_X5_113 dX5_parseStep_96 rfl ?_
      refine g_iconst (pc' := 100) (v := nI 0) hC dX5_parseStep_99 rfl rfl ?_
      refine g_aload_n (pc' := 101) (j := 0) hC dX5_parseStep_100 rfl rfl rfl ?_
      refine g_iconst (pc' := 102) (v := nI 1) hC dX5_parseStep_101 rfl rfl ?_
      refine g_aload_n (pc' := 103) (j := 1) hC dX5_parseStep_102 rfl rfl rfl ?_
      refine gf_X7_0 (pc' := 106) (b := p) hC (by omega : p < 60) wF_X5_113 dX5_parseStep_103 rfl ?_
      refine g_iconst (pc' := 107) (v := nI 0) hC dX5_parseStep_106 rfl rfl ?_
      refine a_ld (pc' := 108) (k := 108 + 2 * p + 1) (i := 0) hC (by have := (by omega : p < 60); show _ < 228; omega) (ct_sn g (cq3 σ p) (by omega : p < 60)) (by omega) (by decide) dX5_parseStep_107 rfl ?_
      refine g_ishl (pc' := 109) hC dX5_parseStep_108 rfl ?_
      refine f_Vi (pc' := 112) (k := 1) (st := [.int (nI 0), .ref (g.2.1 (108 + 2 * p + 1))]) hC (c_takeRest x.2.1 g z0 (cq3 σ p) (((nI 1) <<< (((cq3 σ p).1 (108 + 2 * p + 1) 0) &&& 31))) (hK) ((cq3_PS σ p).2.2.2 hV)) k_X5_takeRestOfSet wM_X5_135 (by decide) (by decide) (ct_1 g (cq3 σ p)) rfl rfl rfl rfl (Nat.le_of_ble_eq_true rfl) dX5_parseStep_109 rfl (Nat.zero_le _) (Nat.zero_le _) ?_
      refine a_st (pc' := 113) (k := 108 + 2 * p + 1) (i := 0) hC (by have := (by omega : p < 60); show _ < 228; omega) (fun σ9 => (ct_sn g σ9 (by omega : p < 60))) (by omega) (by decide) dX5_parseStep_112 rfl ?_
      refine gg_st (σ' := cqf (cq3 σ p) p) ((cI_t c92).symm) ?_
      refine g_aload_n (pc' := 114) (j := 0) hC dX5_parseStep_113 rfl rfl rfl ?_
      refine g_gsE (pc' := 117) (i := 2) hC hK (by decide) rfl wF_X5_78 dX5_parseStep_114 rfl ?_
      refine f_Vv (pc' := 120) (k := 1) (st := []) hC (c_takeKind x.2.1 g z0 (cqf (cq3 σ p) p) 2 (hK) (((cq3_PS σ p).tr (cqf_PS _ p)).2.2.2 hV) (by omega)) k_X5_takeKind wM_X5_55 (by decide) (by decide) (ct_1 g (cqf (cq3 σ p) p)) rfl rfl rfl rfl (Nat.le_of_ble_eq_true rfl) dX5_parseStep_117 rfl (Nat.zero_le _) (Nat.zero_le _) ?_
      refine g_retv hC dX5_parseStep_120 ?_
      exact rfl
  · skip
    refine g_aload_n (pc' := 11) (j := 1) hC dX5_parseStep_10 rfl rfl rfl ?_
    refine gf_X7_0 (pc' := 14) (b := p) hC (by omega : p < 60) wF_X5_113 dX5_parseStep_11 rfl ?_
    refine g_iconst (pc' := 15) (v := nI 0) hC dX5_parseStep_14 rfl rfl ?_
    refine g_aload_n (pc' := 16) (j := 0) hC dX5_parseStep_15 rfl rfl rfl ?_
    refine g_iconst (pc' := 17) (v := nI 0) hC dX5_parseStep_16 rfl rfl ?_
    refine g_aload_n (pc' := 18) (j := 0) hC dX5_parseStep_17 rfl rfl rfl ?_
    refine gf_X5_4 (pc' := 21) hC wF_X5_63 dX5_parseStep_18 rfl ?_
    refine g_iconst (pc' := 22) (v := nI 1) hC dX5_parseStep_21 rfl rfl ?_
    refine g_isub (pc' := 23) hC dX5_parseStep_22 rfl ?_
    refine f_Vi (pc' := 26) (k := 1) (st := [.int (nI 0), .ref (g.2.1 (108 + 2 * p + 1))]) hC (c_takeNumber x.2.1 g z0 σ ((nI 0)) (((σ.1 1 4) - (nI 1))) (hK) (by first | exact hV | (simp (disch := decide) only [nb, rd_uv, rd_ur, uv_cell, ur_cell]; exact hV) | omega)) k_X5_takeNumber wM_X5_59 (by decide) (by decide) (ct_1 g σ) rfl rfl rfl rfl (Nat.le_of_ble_eq_true rfl) dX5_parseStep_23 rfl (Nat.zero_le _) (Nat.zero_le _) ?_
    refine a_st (pc' := 27) (k := 108 + 2 * p + 1) (i := 0) hC (by have := (by omega : p < 60); show _ < 228; omega) (fun σ9 => (ct_sn g σ9 (by omega : p < 60))) (by omega) (by decide) dX5_parseStep_26 rfl ?_
    refine gg_st (σ' := cq0 σ p) (rfl) ?_
    refine g_aload_n (pc' := 28) (j := 1) hC dX5_parseStep_27 rfl rfl rfl ?_
    refine g_aload_n (pc' := 29) (j := 0) hC dX5_parseStep_28 rfl rfl rfl ?_
    refine f_Ve (pc' := 32) (k := 1) (st := [.ref (g.2.1 (108 + 2 * p))]) hC (c_kindHere x.2.1 g z0 (cq0 σ p) ((cq0_PS σ p).2.2.2 hV)) k_X5_kindHere wM_X5_88 (by decide) (by decide) (ct_1 g (cq0 σ p)) rfl rfl rfl rfl (Nat.le_of_ble_eq_true rfl) dX5_parseStep_29 rfl (Nat.zero_le _) (Nat.zero_le _) ?_
    refine pf_X7_1 (pc' := 35) (v := some (kdH (cq0 σ p))) (b := p) hC (by omega : p < 60) wF_X5_116 dX5_parseStep_32 rfl ?_
    refine gg_st (σ' := cqk (cq0 σ p) p) (rfl) ?_
    refine g_aload_n (pc' := 36) (j := 0) hC dX5_parseStep_35 rfl rfl rfl ?_
    refine g_aload_n (pc' := 37) (j := 1) hC dX5_parseStep_36 rfl rfl rfl ?_
    refine gf_X7_1 (pc' := 40) (b := p) hC (by omega : p < 60) wF_X5_116 dX5_parseStep_37 rfl ?_
    refine gg_top (b := .ref (g.2.2.1 (kdH (cq0 σ p)))) (by rw [show (cqk (cq0 σ p) p).2.1 (108 + 2 * p) 1 = some (kdH (cq0 σ p)) from uq_same _ _ _ _]; rfl) ?_
    refine g_gsE (pc' := 43) (i := 8) hC hK (by decide) rfl wF_X5_119 dX5_parseStep_40 rfl ?_
    refine e_acmp_ne (pc' := 46) (a := kdH (cq0 σ p)) (b := 8) (tgt := 52) hC hK ((cq0_PS σ p).2.2.2 hV).lt (by decide) dX5_parseStep_43 (by decide) rfl (fun c43 => ?_) (fun c43 => ?_)
    · skip
      refine g_gsE (pc' := 55) (i := 7) hC hK (by decide) rfl wF_X5_122 dX5_parseStep_52 rfl ?_
      refine f_Vv (pc' := 58) (k := 1) (st := []) hC (c_takeKind x.2.1 g z0 (cqk (cq0 σ p) p) 7 (hK) ((cqk_ok ((cq0_PS σ p).2.2.2 hV) p).1) (by omega)) k_X5_takeKind wM_X5_55 (by decide) (by decide) (ct_1 g (cqk (cq0 σ p) p)) rfl rfl rfl rfl (Nat.le_of_ble_eq_true rfl) dX5_parseStep_55 rfl (Nat.zero_le _) (Nat.zero_le _) ?_
      refine gg_st (σ' := cq1 σ p) (by unfold cq1; rw [cI_f c43]) ?_
      refine g_aload_n (pc' := 59) (j := 0) hC dX5_parseStep_58 rfl rfl rfl ?_
      refine g_aload_n (pc' := 60) (j := 1) hC dX5_parseStep_59 rfl rfl rfl ?_
      refine g_iconst (pc' := 61) (v := nI 1) hC dX5_parseStep_60 rfl rfl ?_
      refine f_Vv (pc' := 64) (k := 1) (st := []) hC (c_takeOperands x.2.1 g z0 (cq1 σ p) p 1 (hK) ((cq1_PS σ p).2.2.2 hV) (by omega) ((cq1_sk hV p).1) (by omega)) k_X5_takeOperands wM_X5_125 (by decide) (by decide) (ct_1 g (cq1 σ p)) rfl rfl rfl rfl (Nat.le_of_ble_eq_true rfl) dX5_parseStep_61 rfl (Nat.zero_le _) (Nat.zero_le _) ?_
      refine g_goto (tgt := 85) hC dX5_parseStep_64 (by decide) ?_
      refine gg_st (σ' := cq3 σ p) ((cI_t c7).symm) ?_
      refine g_aload_n (pc' := 86) (j := 1) hC dX5_parseStep_85 rfl rfl rfl ?_
      refine gf_X7_1 (pc' := 89) (b := p) hC (by omega : p < 60) wF_X5_116 dX5_parseStep_86 rfl ?_
      refine gg_top (b := .ref (g.2.2.1 (skd (cq3 σ p) p))) (by rw [(cq3_sk hV p).1]; rfl) ?_
      refine g_gsE (pc' := 92) (i := 9) hC hK (by decide) rfl wF_X5_132 dX5_parseStep_89 rfl ?_
      refine e_acmp_ne (pc' := 95) (a := skd (cq3 σ p) p) (b := 9) (tgt := 113) hC hK (cq3_sk hV p).2 (by decide) dX5_parseStep_92 (by decide) rfl (fun c92 => ?_) (fun c92 => ?_)
      · skip
        refine gg_st (σ' := cqf (cq3 σ p) p) ((cI_f c92).symm) ?_
        refine g_aload_n (pc' := 114) (j := 0) hC dX5_parseStep_113 rfl rfl rfl ?_
        refine g_gsE (pc' := 117) (i := 2) hC hK (by decide) rfl wF_X5_78 dX5_parseStep_114 rfl ?_
        refine f_Vv (pc' := 120) (k := 1) (st := []) hC (c_takeKind x.2.1 g z0 (cqf (cq3 σ p) p) 2 (hK) (((cq3_PS σ p).tr (cqf_PS _ p)).2.2.2 hV) (by omega)) k_X5_takeKind wM_X5_55 (by decide) (by decide) (ct_1 g (cqf (cq3 σ p) p)) rfl rfl rfl rfl (Nat.le_of_ble_eq_true rfl) dX5_parseStep_117 rfl (Nat.zero_le _) (Nat.zero_le _) ?_
        refine g_retv hC dX5_parseStep_120 ?_
        exact rfl
      · skip
        refine g_aload_n (pc' := 96) (j := 1) hC dX5_parseStep_95 rfl rfl rfl ?_
        refine gf_X7_0 (pc' := 99) (b := p) hC (by omega : p < 60) wF_X5_113 dX5_parseStep_96 rfl ?_
        refine g_iconst (pc' := 100) (v := nI 0) hC dX5_parseStep_99 rfl rfl ?_
        refine g_aload_n (pc' := 101) (j := 0) hC dX5_parseStep_100 rfl rfl rfl ?_
        refine g_iconst (pc' := 102) (v := nI 1) hC dX5_parseStep_101 rfl rfl ?_
        refine g_aload_n (pc' := 103) (j := 1) hC dX5_parseStep_102 rfl rfl rfl ?_
        refine gf_X7_0 (pc' := 106) (b := p) hC (by omega : p < 60) wF_X5_113 dX5_parseStep_103 rfl ?_
        refine g_iconst (pc' := 107) (v := nI 0) hC dX5_parseStep_106 rfl rfl ?_
        refine a_ld (pc' := 108) (k := 108 + 2 * p + 1) (i := 0) hC (by have := (by omega : p < 60); show _ < 228; omega) (ct_sn g (cq3 σ p) (by omega : p < 60)) (by omega) (by decide) dX5_parseStep_107 rfl ?_
        refine g_ishl (pc' := 109) hC dX5_parseStep_108 rfl ?_
        refine f_Vi (pc' := 112) (k := 1) (st := [.int (nI 0), .ref (g.2.1 (108 + 2 * p + 1))]) hC (c_takeRest x.2.1 g z0 (cq3 σ p) (((nI 1) <<< (((cq3 σ p).1 (108 + 2 * p + 1) 0) &&& 31))) (hK) ((cq3_PS σ p).2.2.2 hV)) k_X5_takeRestOfSet wM_X5_135 (by decide) (by decide) (ct_1 g (cq3 σ p)) rfl rfl rfl rfl (Nat.le_of_ble_eq_true rfl) dX5_parseStep_109 rfl (Nat.zero_le _) (Nat.zero_le _) ?_
        refine a_st (pc' := 113) (k := 108 + 2 * p + 1) (i := 0) hC (by have := (by omega : p < 60); show _ < 228; omega) (fun σ9 => (ct_sn g σ9 (by omega : p < 60))) (by omega) (by decide) dX5_parseStep_112 rfl ?_
        refine gg_st (σ' := cqf (cq3 σ p) p) ((cI_t c92).symm) ?_
        refine g_aload_n (pc' := 114) (j := 0) hC dX5_parseStep_113 rfl rfl rfl ?_
        refine g_gsE (pc' := 117) (i := 2) hC hK (by decide) rfl wF_X5_78 dX5_parseStep_114 rfl ?_
        refine f_Vv (pc' := 120) (k := 1) (st := []) hC (c_takeKind x.2.1 g z0 (cqf (cq3 σ p) p) 2 (hK) (((cq3_PS σ p).tr (cqf_PS _ p)).2.2.2 hV) (by omega)) k_X5_takeKind wM_X5_55 (by decide) (by decide) (ct_1 g (cqf (cq3 σ p) p)) rfl rfl rfl rfl (Nat.le_of_ble_eq_true rfl) dX5_parseStep_117 rfl (Nat.zero_le _) (Nat.zero_le _) ?_
        refine g_retv hC dX5_parseStep_120 ?_
        exact rfl
    · skip
      refine g_gsE (pc' := 49) (i := 8) hC hK (by decide) rfl wF_X5_119 dX5_parseStep_46 rfl ?_
      refine g_goto (tgt := 55) hC dX5_parseStep_49 (by decide) ?_
      refine f_Vv (pc' := 58) (k := 1) (st := []) hC (c_takeKind x.2.1 g z0 (cqk (cq0 σ p) p) 8 (hK) ((cqk_ok ((cq0_PS σ p).2.2.2 hV) p).1) (by omega)) k_X5_takeKind wM_X5_55 (by decide) (by decide) (ct_1 g (cqk (cq0 σ p) p)) rfl rfl rfl rfl (Nat.le_of_ble_eq_true rfl) dX5_parseStep_55 rfl (Nat.zero_le _) (Nat.zero_le _) ?_
      refine gg_st (σ' := cq1 σ p) (by unfold cq1; rw [cI_t c43]) ?_
      refine g_aload_n (pc' := 59) (j := 0) hC dX5_parseStep_58 rfl rfl rfl ?_
      refine g_aload_n (pc' := 60) (j := 1) hC dX5_parseStep_59 rfl rfl rfl ?_
      refine g_iconst (pc' := 61) (v := nI 1) hC dX5_parseStep_60 rfl rfl ?_
      refine f_Vv (pc' := 64) (k := 1) (st := []) hC (c_takeOperands x.2.1 g z0 (cq1 σ p) p 1 (hK) ((cq1_PS σ p).2.2.2 hV) (by omega) ((cq1_sk hV p).1) (by omega)) k_X5_takeOperands wM_X5_125 (by decide) (by decide) (ct_1 g (cq1 σ p)) rfl rfl rfl rfl (Nat.le_of_ble_eq_true rfl) dX5_parseStep_61 rfl (Nat.zero_le _) (Nat.zero_le _) ?_
      refine g_goto (tgt := 85) hC dX5_parseStep_64 (by decide) ?_
      refine gg_st (σ' := cq3 σ p) ((cI_t c7).symm) ?_
      refine g_aload_n (pc' := 86) (j := 1) hC dX5_parseStep_85 rfl rfl rfl ?_
      refine gf_X7_1 (pc' := 89) (b := p) hC (by omega : p < 60) wF_X5_116 dX5_parseStep_86 rfl ?_
      refine gg_top (b := .ref (g.2.2.1 (skd (cq3 σ p) p))) (by rw [(cq3_sk hV p).1]; rfl) ?_
      refine g_gsE (pc' := 92) (i := 9) hC hK (by decide) rfl wF_X5_132 dX5_parseStep_89 rfl ?_
      refine e_acmp_ne (pc' := 95) (a := skd (cq3 σ p) p) (b := 9) (tgt := 113) hC hK (cq3_sk hV p).2 (by decide) dX5_parseStep_92 (by decide) rfl (fun c92 => ?_) (fun c92 => ?_)
      · skip
        refine gg_st (σ' := cqf (cq3 σ p) p) ((cI_f c92).symm) ?_
        refine g_aload_n (pc' := 114) (j := 0) hC dX5_parseStep_113 rfl rfl rfl ?_
        refine g_gsE (pc' := 117) (i := 2) hC hK (by decide) rfl wF_X5_78 dX5_parseStep_114 rfl ?_
        refine f_Vv (pc' := 120) (k := 1) (st := []) hC (c_takeKind x.2.1 g z0 (cqf (cq3 σ p) p) 2 (hK) (((cq3_PS σ p).tr (cqf_PS _ p)).2.2.2 hV) (by omega)) k_X5_takeKind wM_X5_55 (by decide) (by decide) (ct_1 g (cqf (cq3 σ p) p)) rfl rfl rfl rfl (Nat.le_of_ble_eq_true rfl) dX5_parseStep_117 rfl (Nat.zero_le _) (Nat.zero_le _) ?_
        refine g_retv hC dX5_parseStep_120 ?_
        exact rfl
      · skip
        refine g_aload_n (pc' := 96) (j := 1) hC dX5_parseStep_95 rfl rfl rfl ?_
        refine gf_X7_0 (pc' := 99) (b := p) hC (by omega : p < 60) wF_X5_113 dX5_parseStep_96 rfl ?_
        refine g_iconst (pc' := 100) (v := nI 0) hC dX5_parseStep_99 rfl rfl ?_
        refine g_aload_n (pc' := 101) (j := 0) hC dX5_parseStep_100 rfl rfl rfl ?_
        refine g_iconst (pc' := 102) (v := nI 1) hC dX5_parseStep_101 rfl rfl ?_
        refine g_aload_n (pc' := 103) (j := 1) hC dX5_parseStep_102 rfl rfl rfl ?_
        refine gf_X7_0 (pc' := 106) (b := p) hC (by omega : p < 60) wF_X5_113 dX5_parseStep_103 rfl ?_
        refine g_iconst (pc' := 107) (v := nI 0) hC dX5_parseStep_106 rfl rfl ?_
        refine a_ld (pc' := 108) (k := 108 + 2 * p + 1) (i := 0) hC (by have := (by omega : p < 60); show _ < 228; omega) (ct_sn g (cq3 σ p) (by omega : p < 60)) (by omega) (by decide) dX5_parseStep_107 rfl ?_
        refine g_ishl (pc' := 109) hC dX5_parseStep_108 rfl ?_
        refine f_Vi (pc' := 112) (k := 1) (st := [.int (nI 0), .ref (g.2.1 (108 + 2 * p + 1))]) hC (c_takeRest x.2.1 g z0 (cq3 σ p) (((nI 1) <<< (((cq3 σ p).1 (108 + 2 * p + 1) 0) &&& 31))) (hK) ((cq3_PS σ p).2.2.2 hV)) k_X5_takeRestOfSet wM_X5_135 (by decide) (by decide) (ct_1 g (cq3 σ p)) rfl rfl rfl rfl (Nat.le_of_ble_eq_true rfl) dX5_parseStep_109 rfl (Nat.zero_le _) (Nat.zero_le _) ?_
        refine a_st (pc' := 113) (k := 108 + 2 * p + 1) (i := 0) hC (by have := (by omega : p < 60); show _ < 228; omega) (fun σ9 => (ct_sn g σ9 (by omega : p < 60))) (by omega) (by decide) dX5_parseStep_112 rfl ?_
        refine gg_st (σ' := cqf (cq3 σ p) p) ((cI_t c92).symm) ?_
        refine g_aload_n (pc' := 114) (j := 0) hC dX5_parseStep_113 rfl rfl rfl ?_
        refine g_gsE (pc' := 117) (i := 2) hC hK (by decide) rfl wF_X5_78 dX5_parseStep_114 rfl ?_
        refine f_Vv (pc' := 120) (k := 1) (st := []) hC (c_takeKind x.2.1 g z0 (cqf (cq3 σ p) p) 2 (hK) (((cq3_PS σ p).tr (cqf_PS _ p)).2.2.2 hV) (by omega)) k_X5_takeKind wM_X5_55 (by decide) (by decide) (ct_1 g (cqf (cq3 σ p) p)) rfl rfl rfl rfl (Nat.le_of_ble_eq_true rfl) dX5_parseStep_117 rfl (Nat.zero_le _) (Nat.zero_le _) ?_
        refine g_retv hC dX5_parseStep_120 ?_
        exact rfl
set_option maxHeartbeats 4000000 in
set_option maxRecDepth 20000 in
theorem c_checkFirst (l : Launch) (g : Lay) (z0 : Nat) {KA : KAd} (σ : St)  (hK : GK g z0 KA) (hV : PV σ)  : CTv l yX5_checkFirstToken cX5_checkFirstToken 1 2 g z0 [.ref (g.2.1 1)] σ (FV (ccF σ)) := by
  refine CTv.of (by decide) (Nat.le_of_ble_eq_true rfl) ?_
  intro x hxl hxa hC
  have hC : Cx x RX5 cX5_checkFirstToken 1 none 2 g z0 := hC
  show GG x g z0 1 0 0 (Qv x g z0 (FV (ccF σ))) σ 0 [(0, .ref (g.2.1 1))] []
  refine g_aload_n (pc' := 1) (j := 0) hC dX5_checkFirstToken_0 rfl rfl rfl ?_
  refine f_Ve (pc' := 4) (k := 1) (st := []) hC (c_kindHere x.2.1 g z0 σ (by first | exact hV | (simp (disch := decide) only [nb, rd_uv, rd_ur, uv_cell, ur_cell]; exact hV) | omega)) k_X5_kindHere wM_X5_88 (by decide) (by decide) (ct_1 g σ) rfl rfl rfl rfl (Nat.le_of_ble_eq_true rfl) dX5_checkFirstToken_1 rfl (Nat.zero_le _) (Nat.zero_le _) ?_
  refine g_gsE (pc' := 7) (i := 3) hC hK (by decide) rfl wF_X5_102 dX5_checkFirstToken_4 rfl ?_
  refine e_acmp_ne (pc' := 10) (a := kdH σ) (b := 3) (tgt := 24) hC hK hV.lt (by decide) dX5_checkFirstToken_7 (by decide) rfl (fun c7 => ?_) (fun c7 => ?_)
  · skip
    refine g_aload_n (pc' := 25) (j := 0) hC dX5_checkFirstToken_24 rfl rfl rfl ?_
    refine f_Ve (pc' := 28) (k := 1) (st := []) hC (c_kindHere x.2.1 g z0 σ (by first | exact hV | (simp (disch := decide) only [nb, rd_uv, rd_ur, uv_cell, ur_cell]; exact hV) | omega)) k_X5_kindHere wM_X5_88 (by decide) (by decide) (ct_1 g σ) rfl rfl rfl rfl (Nat.le_of_ble_eq_true rfl) dX5_checkFirstToken_25 rfl (Nat.zero_le _) (Nat.zero_le _) ?_
    refine g_gOS (pc' := 31) (i := kdH σ) hC hK hV.lt wF_X5_109 dX5_checkFirstToken_28 rfl ?_
    refine g_if_ne (pc' := 34) (tgt := 39) hC dX5_checkFirstToken_31 (by decide) rfl (fun c31 => ?_) (fun c31 => ?_)
    · skip
      refine g_retv hC dX5_checkFirstToken_39 ?_
      exact (show _ = _ from by unfold ccF; rw [cI_f c7, cI_f c31])
    · skip
      refine g_aload_n (pc' := 35) (j := 0) hC dX5_checkFirstToken_34 rfl rfl rfl ?_
      refine g_iconst (pc' := 36) (v := nI 1) hC dX5_checkFirstToken_35 rfl rfl ?_
      refine f_Vv (pc' := 39) (k := 1) (st := []) hC (c_fail x.2.1 g z0 σ ((nI 1)) (by first | exact hV | (simp (disch := decide) only [nb, rd_uv, rd_ur, uv_cell, ur_cell]; exact hV) | omega)) k_X5_fail wM_X5_95 (by decide) (by decide) (ct_1 g σ) rfl rfl rfl rfl (Nat.le_of_ble_eq_true rfl) dX5_checkFirstToken_36 rfl (Nat.zero_le _) (Nat.zero_le _) ?_
      refine g_retv hC dX5_checkFirstToken_39 ?_
      exact (show _ = _ from by unfold ccF; rw [cI_f c7, cI_t c31])
  · skip
    refine g_aload_n (pc' := 11) (j := 0) hC dX5_checkFirstToken_10 rfl rfl rfl ?_
    refine g_iconst (pc' := 12) (v := nI 0) hC dX5_checkFirstToken_11 rfl rfl ?_
    refine g_aload_n (pc' := 13) (j := 0) hC dX5_checkFirstToken_12 rfl rfl rfl ?_
    refine gf_X5_4 (pc' := 16) hC wF_X5_63 dX5_checkFirstToken_13 rfl ?_
    refine g_iconst (pc' := 17) (v := nI 1) hC dX5_checkFirstToken_16 rfl rfl ?_
    refine g_isub (pc' := 18) hC dX5_checkFirstToken_17 rfl ?_
    refine f_Vv (pc' := 21) (k := 1) (st := []) hC (c_checkNumber x.2.1 g z0 σ ((nI 0)) (((σ.1 1 4) - (nI 1))) (hK) (by first | exact hV | (simp (disch := decide) only [nb, rd_uv, rd_ur, uv_cell, ur_cell]; exact hV) | omega)) k_X5_checkNumber wM_X5_105 (by decide) (by decide) (ct_1 g σ) rfl rfl rfl rfl (Nat.le_of_ble_eq_true rfl) dX5_checkFirstToken_18 rfl (Nat.zero_le _) (Nat.zero_le _) ?_
    refine g_goto (tgt := 39) hC dX5_checkFirstToken_21 (by decide) ?_
    refine g_retv hC dX5_checkFirstToken_39 ?_
    exact (show _ = _ from by unfold ccF; rw [cI_t c7])
set_option maxHeartbeats 4000000 in
set_option maxRecDepth 20000 in
theorem c_beginP (l : Launch) (g : Lay) (z0 : Nat) {KA : KAd} (σ : St) (e : Nat) (hK : GK g z0 KA) (he : e ≤ 900)  : CTv l yX5_begin cX5_begin 2 7 g z0 [.ref (g.2.1 1), .int (nI e)] σ (FV (cbe σ e)) := by
  refine CTv.of (by decide) (Nat.le_of_ble_eq_true rfl) ?_
  intro x hxl hxa hC
  have hC : Cx x RX5 cX5_begin 2 none 7 g z0 := hC
  show GG x g z0 2 0 0 (Qv x g z0 (FV (cbe σ e))) σ 0 [(0, .ref (g.2.1 1)), (1, .int (nI e))] []
  refine g_aload_n (pc' := 1) (j := 0) hC dX5_begin_0 rfl rfl rfl ?_
  refine g_iconst (pc' := 2) (v := nI 0) hC dX5_begin_1 rfl rfl ?_
  refine pf_X5_7 (pc' := 5) hC wF_X5_29 dX5_begin_2 rfl ?_
  refine g_aload_n (pc' := 6) (j := 0) hC dX5_begin_5 rfl rfl rfl ?_
  refine g_iconst (pc' := 7) (v := (-1)) hC dX5_begin_6 rfl rfl ?_
  refine pf_X5_8 (pc' := 10) hC wF_X5_24 dX5_begin_7 rfl ?_
  refine g_aload_n (pc' := 11) (j := 0) hC dX5_begin_10 rfl rfl rfl ?_
  refine g_iconst (pc' := 12) (v := nI 0) hC dX5_begin_11 rfl rfl ?_
  refine pf_X5_3 (pc' := 15) hC wF_X5_32 dX5_begin_12 rfl ?_
  refine g_aload_n (pc' := 16) (j := 0) hC dX5_begin_15 rfl rfl rfl ?_
  refine g_iconst (pc' := 17) (v := nI 0) hC dX5_begin_16 rfl rfl ?_
  refine pf_X5_2 (pc' := 20) hC wF_X5_35 dX5_begin_17 rfl ?_
  refine g_aload_n (pc' := 21) (j := 0) hC dX5_begin_20 rfl rfl rfl ?_
  refine gf_X5_0 (pc' := 24) hC wF_X5_12 dX5_begin_21 rfl ?_
  refine g_iload_n (pc' := 25) (j := 1) hC dX5_begin_24 rfl rfl rfl ?_
  refine f_Vv (pc' := 28) (k := 2) (st := []) hC (c_scan x.2.1 g z0 (uv (uv (uv (uv σ 1 7 (nI 0)) 1 8 ((-1))) 1 3 (nI 0)) 1 2 (nI 0)) e (hK) (by omega)) k_X8_scan wM_X5_38 (by decide) (by decide) (ct_2 g (uv (uv (uv (uv σ 1 7 (nI 0)) 1 8 ((-1))) 1 3 (nI 0)) 1 2 (nI 0))) rfl rfl rfl rfl (Nat.le_of_ble_eq_true rfl) dX5_begin_25 rfl (Nat.zero_le _) (Nat.zero_le _) ?_
  refine g_retv hC dX5_begin_28 ?_
  exact rfl
set_option maxHeartbeats 4000000 in
set_option maxRecDepth 20000 in
theorem c_parseService (l : Launch) (g : Lay) (z0 : Nat) {KA : KAd} (σ : St) (e : Nat) (hK : GK g z0 KA) (he : e ≤ 900)  : CTv l yX5_parseService cX5_parseService 2 8 g z0 [.ref (g.2.1 1), .int (nI e)] σ (FV (cpv σ e)) := by
  refine CTv.of (by decide) (Nat.le_of_ble_eq_true rfl) ?_
  intro x hxl hxa hC
  have hC : Cx x RX5 cX5_parseService 2 none 8 g z0 := hC
  have hV := PV_cbe σ he
  have hVa := (PX_ctK (cbe σ e) 4).2.2 hV
  have hVb : PV (cv2 σ e) := PV_cv1 hVa _ _ (by decide)
  have hVc := (PX_ctK (cv2 σ e) 5).2.2 hVb
  have hVd : PV (cv3 σ e) := PV_cv1 hVc _ _ (by decide)
  have hVe := (PX_ctK (cv3 σ e) 6).2.2 hVd
  have hVf : PV (cv4 σ e) := PV_cv1 hVe _ _ (by decide)
  have hVg := (PX_ctK (cv4 σ e) 2).2.2 hVf
  show GG x g z0 2 0 0 (Qv x g z0 (FV (cpv σ e))) σ 0 [(0, .ref (g.2.1 1)), (1, .int (nI e))] []
  refine g_aload_n (pc' := 1) (j := 0) hC dX5_parseService_0 rfl rfl rfl ?_
  refine g_iload_n (pc' := 2) (j := 1) hC dX5_parseService_1 rfl rfl rfl ?_
  refine f_Vv (pc' := 5) (k := 1) (st := []) hC (c_beginP x.2.1 g z0 σ e (hK) (by omega)) k_X5_begin wM_X5_46 (by decide) (by decide) (ct_1 g σ) rfl rfl rfl rfl (Nat.le_of_ble_eq_true rfl) dX5_parseService_2 rfl (Nat.zero_le _) (Nat.zero_le _) ?_
  refine g_aload_n (pc' := 6) (j := 0) hC dX5_parseService_5 rfl rfl rfl ?_
  refine g_gsE (pc' := 9) (i := 4) hC hK (by decide) rfl wF_X5_49 dX5_parseService_6 rfl ?_
  refine f_Vv (pc' := 12) (k := 1) (st := []) hC (c_takeKind x.2.1 g z0 (cbe σ e) 4 (hK) (hV) (by omega)) k_X5_takeKind wM_X5_55 (by decide) (by decide) (ct_1 g (cbe σ e)) rfl rfl rfl rfl (Nat.le_of_ble_eq_true rfl) dX5_parseService_9 rfl (Nat.zero_le _) (Nat.zero_le _) ?_
  refine g_aload_n (pc' := 13) (j := 0) hC dX5_parseService_12 rfl rfl rfl ?_
  refine g_aload_n (pc' := 14) (j := 0) hC dX5_parseService_13 rfl rfl rfl ?_
  refine g_iconst (pc' := 15) (v := nI 2) hC dX5_parseService_14 rfl rfl ?_
  refine g_bipush (pc' := 17) (v := nI 6) hC dX5_parseService_15 rfl rfl ?_
  refine f_Vi (pc' := 20) (k := 1) (st := [.ref (g.2.1 1)]) hC (c_takeNumber x.2.1 g z0 (ctK (cbe σ e) 4) ((nI 2)) ((nI 6)) (hK) (hVa)) k_X5_takeNumber wM_X5_59 (by decide) (by decide) (ct_1 g (ctK (cbe σ e) 4)) rfl rfl rfl rfl (Nat.le_of_ble_eq_true rfl) dX5_parseService_17 rfl (Nat.zero_le _) (Nat.zero_le _) ?_
  refine pf_X5_4 (pc' := 23) hC wF_X5_63 dX5_parseService_20 rfl ?_
  refine gg_st (σ' := cv2 σ e) (rfl) ?_
  refine g_aload_n (pc' := 24) (j := 0) hC dX5_parseService_23 rfl rfl rfl ?_
  refine g_gsE (pc' := 27) (i := 5) hC hK (by decide) rfl wF_X5_66 dX5_parseService_24 rfl ?_
  refine f_Vv (pc' := 30) (k := 1) (st := []) hC (c_takeKind x.2.1 g z0 (cv2 σ e) 5 (hK) (hVb) (by omega)) k_X5_takeKind wM_X5_55 (by decide) (by decide) (ct_1 g (cv2 σ e)) rfl rfl rfl rfl (Nat.le_of_ble_eq_true rfl) dX5_parseService_27 rfl (Nat.zero_le _) (Nat.zero_le _) ?_
  refine g_aload_n (pc' := 31) (j := 0) hC dX5_parseService_30 rfl rfl rfl ?_
  refine g_aload_n (pc' := 32) (j := 0) hC dX5_parseService_31 rfl rfl rfl ?_
  refine g_iconst (pc' := 33) (v := nI 1) hC dX5_parseService_32 rfl rfl ?_
  refine g_bipush (pc' := 35) (v := nI 16) hC dX5_parseService_33 rfl rfl ?_
  refine f_Vi (pc' := 38) (k := 1) (st := [.ref (g.2.1 1)]) hC (c_takeNumber x.2.1 g z0 (ctK (cv2 σ e) 5) ((nI 1)) ((nI 16)) (hK) (hVc)) k_X5_takeNumber wM_X5_59 (by decide) (by decide) (ct_1 g (ctK (cv2 σ e) 5)) rfl rfl rfl rfl (Nat.le_of_ble_eq_true rfl) dX5_parseService_35 rfl (Nat.zero_le _) (Nat.zero_le _) ?_
  refine pf_X5_5 (pc' := 41) hC wF_X5_69 dX5_parseService_38 rfl ?_
  refine gg_st (σ' := cv3 σ e) (rfl) ?_
  refine g_aload_n (pc' := 42) (j := 0) hC dX5_parseService_41 rfl rfl rfl ?_
  refine g_gsE (pc' := 45) (i := 6) hC hK (by decide) rfl wF_X5_72 dX5_parseService_42 rfl ?_
  refine f_Vv (pc' := 48) (k := 1) (st := []) hC (c_takeKind x.2.1 g z0 (cv3 σ e) 6 (hK) (hVd) (by omega)) k_X5_takeKind wM_X5_55 (by decide) (by decide) (ct_1 g (cv3 σ e)) rfl rfl rfl rfl (Nat.le_of_ble_eq_true rfl) dX5_parseService_45 rfl (Nat.zero_le _) (Nat.zero_le _) ?_
  refine g_aload_n (pc' := 49) (j := 0) hC dX5_parseService_48 rfl rfl rfl ?_
  refine g_aload_n (pc' := 50) (j := 0) hC dX5_parseService_49 rfl rfl rfl ?_
  refine g_iconst (pc' := 51) (v := nI 1) hC dX5_parseService_50 rfl rfl ?_
  refine g_bipush (pc' := 53) (v := nI 50) hC dX5_parseService_51 rfl rfl ?_
  refine f_Vi (pc' := 56) (k := 1) (st := [.ref (g.2.1 1)]) hC (c_takeNumber x.2.1 g z0 (ctK (cv3 σ e) 6) ((nI 1)) ((nI 50)) (hK) (hVe)) k_X5_takeNumber wM_X5_59 (by decide) (by decide) (ct_1 g (ctK (cv3 σ e) 6)) rfl rfl rfl rfl (Nat.le_of_ble_eq_true rfl) dX5_parseService_53 rfl (Nat.zero_le _) (Nat.zero_le _) ?_
  refine pf_X5_6 (pc' := 59) hC wF_X5_75 dX5_parseService_56 rfl ?_
  refine gg_st (σ' := cv4 σ e) (rfl) ?_
  refine g_aload_n (pc' := 60) (j := 0) hC dX5_parseService_59 rfl rfl rfl ?_
  refine g_gsE (pc' := 63) (i := 2) hC hK (by decide) rfl wF_X5_78 dX5_parseService_60 rfl ?_
  refine f_Vv (pc' := 66) (k := 1) (st := []) hC (c_takeKind x.2.1 g z0 (cv4 σ e) 2 (hK) (hVf) (by omega)) k_X5_takeKind wM_X5_55 (by decide) (by decide) (ct_1 g (cv4 σ e)) rfl rfl rfl rfl (Nat.le_of_ble_eq_true rfl) dX5_parseService_63 rfl (Nat.zero_le _) (Nat.zero_le _) ?_
  refine g_aload_n (pc' := 67) (j := 0) hC dX5_parseService_66 rfl rfl rfl ?_
  refine g_gsE (pc' := 70) (i := 0) hC hK (by decide) rfl wF_X5_81 dX5_parseService_67 rfl ?_
  refine f_Vv (pc' := 73) (k := 1) (st := []) hC (c_takeKind x.2.1 g z0 (ctK (cv4 σ e) 2) 0 (hK) (hVg) (by omega)) k_X5_takeKind wM_X5_55 (by decide) (by decide) (ct_1 g (ctK (cv4 σ e) 2)) rfl rfl rfl rfl (Nat.le_of_ble_eq_true rfl) dX5_parseService_70 rfl (Nat.zero_le _) (Nat.zero_le _) ?_
  refine g_retv hC dX5_parseService_73 ?_
  exact rfl
set_option maxHeartbeats 4000000 in
set_option maxRecDepth 20000 in
theorem c_parseScript (l : Launch) (g : Lay) (z0 : Nat) {KA : KAd} (σ : St) (e : Nat) (a : Int32) (b : Int32) (hK : GK g z0 KA) (he : e ≤ 900)  : CTv l yX5_parseScript cX5_parseScript 5 8 g z0 [.ref (g.2.1 1), .int (nI e), .int a, .int b] σ (FV (cpR σ e a b)) := by
  refine CTv.of (by decide) (Nat.le_of_ble_eq_true rfl) ?_
  intro x hxl hxa hC
  have hC : Cx x RX5 cX5_parseScript 5 none 8 g z0 := hC
  have hV0 : PV (uv (uv (cbe σ e) 1 4 a) 1 5 b) := PV_14 (PV_14 (PV_cbe σ he) _ (by decide)) _ (by decide)
  show GG x g z0 5 0 0 (Qv x g z0 (FV (cpR σ e a b))) σ 0 [(0, .ref (g.2.1 1)), (1, .int (nI e)), (2, .int a), (3, .int b)] []
  refine g_aload_n (pc' := 1) (j := 0) hC dX5_parseScript_0 rfl rfl rfl ?_
  refine g_iload_n (pc' := 2) (j := 1) hC dX5_parseScript_1 rfl rfl rfl ?_
  refine f_Vv (pc' := 5) (k := 1) (st := []) hC (c_beginP x.2.1 g z0 σ e (hK) (by omega)) k_X5_begin wM_X5_46 (by decide) (by decide) (ct_1 g σ) rfl rfl rfl rfl (Nat.le_of_ble_eq_true rfl) dX5_parseScript_2 rfl (Nat.zero_le _) (Nat.zero_le _) ?_
  refine g_aload_n (pc' := 6) (j := 0) hC dX5_parseScript_5 rfl rfl rfl ?_
  refine g_iload_n (pc' := 7) (j := 2) hC dX5_parseScript_6 rfl rfl rfl ?_
  refine pf_X5_4 (pc' := 10) hC wF_X5_63 dX5_parseScript_7 rfl ?_
  refine g_aload_n (pc' := 11) (j := 0) hC dX5_parseScript_10 rfl rfl rfl ?_
  refine g_iload_n (pc' := 12) (j := 3) hC dX5_parseScript_11 rfl rfl rfl ?_
  refine pf_X5_5 (pc' := 15) hC wF_X5_69 dX5_parseScript_12 rfl ?_
  refine g_iconst (pc' := 16) (v := nI 0) hC dX5_parseScript_15 rfl rfl ?_
  refine g_istore (pc' := 18) (lv' := [(4, .int (nI 0)), (0, .ref (g.2.1 1)), (1, .int (nI e)), (2, .int a), (3, .int b)]) hC dX5_parseScript_16 rfl (by decide) rfl ?_
  have L18 : ∀ (fu : Nat) (t : Nat) (τ : St), (t ≤ 61) → (PV τ) → (cpS (61 - t) t τ = cpR σ e a b) → (61 - t) < fu → GG x g z0 5 0 0 (Qv x g z0 (FV (cpR σ e a b))) τ 18 [(4, .int (nI t)), (0, .ref (g.2.1 1)), (1, .int (nI e)), (2, .int a), (3, .int b)] [] := by
    intro fu
    induction fu with
    | zero => intro t τ h1 hV hE hz; exact absurd hz (Nat.not_lt_zero _)
    | succ fu ih18 =>
      intro t τ h1 hV hE hf
      refine g_iload (pc' := 20) (j := 0) hC dX5_parseScript_18 rfl rfl ?_
      refine g_bipush (pc' := 22) (v := nI 60) hC dX5_parseScript_20 rfl rfl ?_
      refine n_icmp_gt (pc' := 25) (tgt := 86) hC dX5_parseScript_22 (by decide) rfl (by omega) (by omega) (fun c22 => ?_) (fun c22 => ?_)
      · skip
        refine g_retv hC dX5_parseScript_86 ?_
        exact (show _ = _ from by rw [← hE, cpS_e (Or.inl (by omega))])
      · skip
        refine g_aload_n (pc' := 26) (j := 1) hC dX5_parseScript_25 rfl rfl rfl ?_
        refine f_Vi (pc' := 29) (k := 1) (st := []) hC (c_hasFailed x.2.1 g z0 τ) k_X5_hasFailed wM_X5_84 (by decide) (by decide) (ct_1 g τ) rfl rfl rfl rfl (Nat.le_of_ble_eq_true rfl) dX5_parseScript_26 rfl (Nat.zero_le _) (Nat.zero_le _) ?_
        refine b_if_ne (pc' := 32) (tgt := 86) hC dX5_parseScript_29 (by decide) rfl (fun c29 => ?_) (fun c29 => ?_)
        · skip
          refine g_retv hC dX5_parseScript_86 ?_
          exact (show _ = _ from by rw [← hE, cpS_e (Or.inr (fun z => c29 z.1))])
        · skip
          refine g_aload_n (pc' := 33) (j := 1) hC dX5_parseScript_32 rfl rfl rfl ?_
          refine f_Ve (pc' := 36) (k := 1) (st := []) hC (c_kindHere x.2.1 g z0 τ (by first | exact hV | (simp (disch := decide) only [nb, rd_uv, rd_ur, uv_cell, ur_cell]; exact hV) | omega)) k_X5_kindHere wM_X5_88 (by decide) (by decide) (ct_1 g τ) rfl rfl rfl rfl (Nat.le_of_ble_eq_true rfl) dX5_parseScript_33 rfl (Nat.zero_le _) (Nat.zero_le _) ?_
          refine g_gsE (pc' := 39) (i := 0) hC hK (by decide) rfl wF_X5_81 dX5_parseScript_36 rfl ?_
          refine e_acmp_eq (pc' := 42) (a := kdH τ) (b := 0) (tgt := 86) hC hK hV.lt (by decide) dX5_parseScript_39 (by decide) rfl (fun c39 => ?_) (fun c39 => ?_)
          · skip
            refine g_retv hC dX5_parseScript_86 ?_
            exact (show _ = _ from by rw [← hE, cpS_e (Or.inr (fun z => z.2 c39))])
          · skip
            refine g_aload_n (pc' := 43) (j := 1) hC dX5_parseScript_42 rfl rfl rfl ?_
            refine f_Vv (pc' := 46) (k := 1) (st := []) hC (c_checkFirst x.2.1 g z0 τ (hK) (by first | exact hV | (simp (disch := decide) only [nb, rd_uv, rd_ur, uv_cell, ur_cell]; exact hV) | omega)) k_X5_checkFirstToken wM_X5_92 (by decide) (by decide) (ct_1 g τ) rfl rfl rfl rfl (Nat.le_of_ble_eq_true rfl) dX5_parseScript_43 rfl (Nat.zero_le _) (Nat.zero_le _) ?_
            refine g_iload (pc' := 48) (j := 0) hC dX5_parseScript_46 rfl rfl ?_
            refine g_bipush (pc' := 50) (v := nI 60) hC dX5_parseScript_48 rfl rfl ?_
            refine n_icmp_lt (pc' := 53) (tgt := 61) hC dX5_parseScript_50 (by decide) rfl (by omega) (by omega) (fun c50 => ?_) (fun c50 => ?_)
            · skip
              refine g_aload_n (pc' := 62) (j := 1) hC dX5_parseScript_61 rfl rfl rfl ?_
              refine g_aload_n (pc' := 63) (j := 1) hC dX5_parseScript_62 rfl rfl rfl ?_
              refine gf_X5_1 (pc' := 66) hC wF_X5_20 dX5_parseScript_63 rfl ?_
              refine g_iload (pc' := 68) (j := 0) hC dX5_parseScript_66 rfl rfl ?_
              refine a_ldr (pc' := 69) (k := 7) (t := 7) (i := t) hC (by decide) (ct_7 g (ccF τ)) rfl (by omega) (by decide) dX5_parseScript_68 rfl ?_
              refine f_Vv (pc' := 72) (k := 1) (st := []) hC (c_parseStep x.2.1 g z0 (ccF τ) t (hK) ((PX_ccF _).2.2 hV) (by omega)) k_X5_parseStep wM_X5_98 (by decide) (by decide) (ct_1 g (ccF τ)) rfl rfl rfl rfl (Nat.le_of_ble_eq_true rfl) dX5_parseScript_69 rfl (Nat.zero_le _) (Nat.zero_le _) ?_
              refine g_aload_n (pc' := 73) (j := 1) hC dX5_parseScript_72 rfl rfl rfl ?_
              refine g_iload (pc' := 75) (j := 0) hC dX5_parseScript_73 rfl rfl ?_
              refine g_iconst (pc' := 76) (v := nI 1) hC dX5_parseScript_75 rfl rfl ?_
              refine n_iadd (pc' := 77) hC dX5_parseScript_76 rfl ?_
              refine pf_X5_3 (pc' := 80) hC wF_X5_32 dX5_parseScript_77 rfl ?_
              refine g_iinc (pc' := 83) (j := 0) (u := nI (t + 1)) (lv' := [(4, .int (nI (t + 1))), (0, .ref (g.2.1 1)), (1, .int (nI e)), (2, .int a), (3, .int b)]) hC dX5_parseScript_80 rfl rfl (nI_add t 1) (by decide) rfl ?_
              refine g_goto (tgt := 18) hC dX5_parseScript_83 (by decide) ?_
              refine gg_st (σ' := ((cp1 τ t))) ((cI_t c50).symm) ?_
              refine gg_lv (lv' := [(4, .int (nI (t + 1))), (0, .ref (g.2.1 1)), (1, .int (nI e)), (2, .int a), (3, .int b)]) ?_ [0, 1, 2, 3, 4] rfl
              exact ih18 ((t + 1)) ((cp1 τ t)) (by omega) (PV_cp1 hV t) ((cpS_s (by omega) ⟨Classical.not_not.mp c29, c39⟩).symm.trans hE) (by omega)
            · skip
              refine g_aload_n (pc' := 54) (j := 1) hC dX5_parseScript_53 rfl rfl rfl ?_
              refine g_iconst (pc' := 55) (v := nI 3) hC dX5_parseScript_54 rfl rfl ?_
              refine f_Vv (pc' := 58) (k := 1) (st := []) hC (c_fail x.2.1 g z0 (ccF τ) ((nI 3)) ((PX_ccF _).2.2 hV)) k_X5_fail wM_X5_95 (by decide) (by decide) (ct_1 g (ccF τ)) rfl rfl rfl rfl (Nat.le_of_ble_eq_true rfl) dX5_parseScript_55 rfl (Nat.zero_le _) (Nat.zero_le _) ?_
              refine g_goto (tgt := 80) hC dX5_parseScript_58 (by decide) ?_
              refine g_iinc (pc' := 83) (j := 0) (u := nI (t + 1)) (lv' := [(4, .int (nI (t + 1))), (0, .ref (g.2.1 1)), (1, .int (nI e)), (2, .int a), (3, .int b)]) hC dX5_parseScript_80 rfl rfl (nI_add t 1) (by decide) rfl ?_
              refine g_goto (tgt := 18) hC dX5_parseScript_83 (by decide) ?_
              refine gg_st (σ' := ((cp1 τ t))) ((cI_f (by omega)).symm) ?_
              refine gg_lv (lv' := [(4, .int (nI (t + 1))), (0, .ref (g.2.1 1)), (1, .int (nI e)), (2, .int a), (3, .int b)]) ?_ [0, 1, 2, 3, 4] rfl
              exact ih18 ((t + 1)) ((cp1 τ t)) (by omega) (PV_cp1 hV t) ((cpS_s (by omega) ⟨Classical.not_not.mp c29, c39⟩).symm.trans hE) (by omega)
  refine gg_st (σ' := ((uv (uv (cbe σ e) 1 4 a) 1 5 b))) (rfl) ?_
  refine gg_lv (lv' := [(4, .int (nI 0)), (0, .ref (g.2.1 1)), (1, .int (nI e)), (2, .int a), (3, .int b)]) ?_ [0, 1, 2, 3, 4] rfl
  exact L18 (61 - 0 + 1) 0 ((uv (uv (cbe σ e) 1 4 a) 1 5 b)) (by omega) (hV0) (rfl) (by omega)
