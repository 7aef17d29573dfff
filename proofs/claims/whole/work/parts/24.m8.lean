set_option maxHeartbeats 4000000 in
set_option maxRecDepth 20000 in
theorem m_length (l : Launch) (g : Lay) (z0 : Nat) (σ : St) (b : Int32) (hM : MI σ)  : CTi l yX10_length cX10_length 2 (some .int) 2 g z0 [.ref (g.2.1 15), .int b] σ (FI ((mln σ b).1) ((mln σ b).2)) := by
  refine CTi.of (by decide) (Nat.le_of_ble_eq_true rfl) ?_
  intro x hxl hxa hC
  have hC : Cx x RX10 cX10_length 2 (some .int) 2 g z0 := hC
  show GG x g z0 2 0 0 (Qi x g z0 (FI ((mln σ b).1) ((mln σ b).2))) σ 0 [(0, .ref (g.2.1 15)), (1, .int b)] []
  refine g_aload_n (pc' := 1) (j := 0) hC dX10_length_0 rfl rfl rfl ?_
  refine g_iconst (pc' := 2) (v := nI 0) hC dX10_length_1 rfl rfl ?_
  refine pf_X10_0 (pc' := 5) hC wF_X10_66 dX10_length_2 rfl ?_
  refine g_aload_n (pc' := 6) (j := 0) hC dX10_length_5 rfl rfl rfl ?_
  refine g_iload_n (pc' := 7) (j := 1) hC dX10_length_6 rfl rfl rfl ?_
  refine f_Vi (pc' := 10) (k := 15) (st := []) hC (m_isBranch x.2.1 g z0 (uv σ 15 0 (nI 0)) b) k_X10_isBranch wM_X10_82 (by decide) (by decide) (ct_15 g (uv σ 15 0 (nI 0))) rfl rfl rfl rfl (Nat.le_of_ble_eq_true rfl) dX10_length_7 rfl (Nat.zero_le _) (Nat.zero_le _) ?_
  refine gg_topi (b := bI (vlt (σ.1 15 4) b)) (by simp (disch := decide) only [mh_uv, mh_ur, mcomp_uv, rd_uv, rd_ur, uv_cell, ur_cell, uv_idx, uv_fun, rd_idx, ne_eq, not_false_eq_true]) ?_
  refine b_if_ne (pc' := 13) (tgt := 19) hC dX10_length_10 (by decide) rfl (fun c10 => ?_) (fun c10 => ?_)
  · skip
    obtain ⟨hbN, hbL, hbM⟩ := hM.br c10
    refine gg_lve (lv' := [(0, .ref (g.2.1 15)), (1, .int (nI (cn b)))]) (by rw [← hbN]) ?_
    refine g_aload_n (pc' := 20) (j := 0) hC dX10_length_19 rfl rfl rfl ?_
    refine gf_X10_6 (pc' := 23) hC wF_X10_7 dX10_length_20 rfl ?_
    refine g_iload_n (pc' := 24) (j := 1) hC dX10_length_23 rfl rfl rfl ?_
    refine a_ld (pc' := 25) (k := 16) (i := cn b) hC (by decide) (ct_16 g (uv σ 15 0 (nI 0))) (by omega) (by decide) dX10_length_24 rfl ?_
    refine gg_topi (b := σ.1 16 (cn b)) (uv_cell _ _ _ _ (by decide)) ?_
    refine g_ret hC dX10_length_25 rfl ?_
    exact ⟨by unfold mln; rw [cI_t (c10)], by unfold mln; rw [cI_t (c10)]⟩
  · skip
    refine g_aload_n (pc' := 14) (j := 0) hC dX10_length_13 rfl rfl rfl ?_
    refine g_iconst (pc' := 15) (v := nI 1) hC dX10_length_14 rfl rfl ?_
    refine f_Vi (pc' := 18) (k := 15) (st := []) hC (m_refuse x.2.1 g z0 (uv σ 15 0 (nI 0)) ((nI 1))) k_X10_refuse wM_X10_171 (by decide) (by decide) (ct_15 g (uv σ 15 0 (nI 0))) rfl rfl rfl rfl (Nat.le_of_ble_eq_true rfl) dX10_length_15 rfl (Nat.zero_le _) (Nat.zero_le _) ?_
    refine g_ret hC dX10_length_18 rfl ?_
    exact ⟨by unfold mln; rw [cI_f (c10)], by unfold mln; rw [cI_f (c10)]⟩
set_option maxHeartbeats 4000000 in
set_option maxRecDepth 20000 in
theorem m_branchOf (l : Launch) (g : Lay) (z0 : Nat) (σ : St) (c : Int32) (hM : MI σ)  : CTi l yX10_branchOf cX10_branchOf 2 (some .int) 2 g z0 [.ref (g.2.1 15), .int c] σ (FI ((mbo σ c).1) ((mbo σ c).2)) := by
  refine CTi.of (by decide) (Nat.le_of_ble_eq_true rfl) ?_
  intro x hxl hxa hC
  have hC : Cx x RX10 cX10_branchOf 2 (some .int) 2 g z0 := hC
  show GG x g z0 2 0 0 (Qi x g z0 (FI ((mbo σ c).1) ((mbo σ c).2))) σ 0 [(0, .ref (g.2.1 15)), (1, .int c)] []
  refine g_aload_n (pc' := 1) (j := 0) hC dX10_branchOf_0 rfl rfl rfl ?_
  refine g_iconst (pc' := 2) (v := nI 0) hC dX10_branchOf_1 rfl rfl ?_
  refine pf_X10_0 (pc' := 5) hC wF_X10_66 dX10_branchOf_2 rfl ?_
  refine g_aload_n (pc' := 6) (j := 0) hC dX10_branchOf_5 rfl rfl rfl ?_
  refine g_iload_n (pc' := 7) (j := 1) hC dX10_branchOf_6 rfl rfl rfl ?_
  refine f_Vi (pc' := 10) (k := 15) (st := []) hC (m_isClient x.2.1 g z0 (uv σ 15 0 (nI 0)) c) k_X10_isClient wM_X10_165 (by decide) (by decide) (ct_15 g (uv σ 15 0 (nI 0))) rfl rfl rfl rfl (Nat.le_of_ble_eq_true rfl) dX10_branchOf_7 rfl (Nat.zero_le _) (Nat.zero_le _) ?_
  refine gg_topi (b := bI (vlt (σ.1 15 1) c)) (by simp (disch := decide) only [mh_uv, mh_ur, mcomp_uv, rd_uv, rd_ur, uv_cell, ur_cell, uv_idx, uv_fun, rd_idx, ne_eq, not_false_eq_true]) ?_
  refine b_if_ne (pc' := 13) (tgt := 19) hC dX10_branchOf_10 (by decide) rfl (fun c10 => ?_) (fun c10 => ?_)
  · skip
    obtain ⟨hcN, hcL, hcM⟩ := hM.cl c10
    refine gg_lve (lv' := [(0, .ref (g.2.1 15)), (1, .int (nI (cn c)))]) (by rw [← hcN]) ?_
    refine g_aload_n (pc' := 20) (j := 0) hC dX10_branchOf_19 rfl rfl rfl ?_
    refine gf_X10_13 (pc' := 23) hC wF_X10_31 dX10_branchOf_20 rfl ?_
    refine g_iload_n (pc' := 24) (j := 1) hC dX10_branchOf_23 rfl rfl rfl ?_
    refine a_ld (pc' := 25) (k := 23) (i := cn c) hC (by decide) (ct_23 g (uv σ 15 0 (nI 0))) (by omega) (by decide) dX10_branchOf_24 rfl ?_
    refine gg_topi (b := σ.1 23 (cn c)) (uv_cell _ _ _ _ (by decide)) ?_
    refine g_ret hC dX10_branchOf_25 rfl ?_
    exact ⟨by unfold mbo; rw [cI_t (c10)], by unfold mbo; rw [cI_t (c10)]⟩
  · skip
    refine g_aload_n (pc' := 14) (j := 0) hC dX10_branchOf_13 rfl rfl rfl ?_
    refine g_iconst (pc' := 15) (v := nI 1) hC dX10_branchOf_14 rfl rfl ?_
    refine f_Vi (pc' := 18) (k := 15) (st := []) hC (m_refuse x.2.1 g z0 (uv σ 15 0 (nI 0)) ((nI 1))) k_X10_refuse wM_X10_171 (by decide) (by decide) (ct_15 g (uv σ 15 0 (nI 0))) rfl rfl rfl rfl (Nat.le_of_ble_eq_true rfl) dX10_branchOf_15 rfl (Nat.zero_le _) (Nat.zero_le _) ?_
    refine g_ret hC dX10_branchOf_18 rfl ?_
    exact ⟨by unfold mbo; rw [cI_f (c10)], by unfold mbo; rw [cI_f (c10)]⟩
set_option maxHeartbeats 4000000 in
set_option maxRecDepth 20000 in
theorem m_value (l : Launch) (g : Lay) (z0 : Nat) (σ : St) (b : Int32) (w : Int32) (hM : MI σ)  : CTi l yX10_value cX10_value 3 (some .int) 3 g z0 [.ref (g.2.1 15), .int b, .int w] σ (FI ((mvl σ b w).1) ((mvl σ b w).2)) := by
  refine CTi.of (by decide) (Nat.le_of_ble_eq_true rfl) ?_
  intro x hxl hxa hC
  have hC : Cx x RX10 cX10_value 3 (some .int) 3 g z0 := hC
  have hM0 := MI_m0 hM
  show GG x g z0 3 0 0 (Qi x g z0 (FI ((mvl σ b w).1) ((mvl σ b w).2))) σ 0 [(0, .ref (g.2.1 15)), (1, .int b), (2, .int w)] []
  refine g_aload_n (pc' := 1) (j := 0) hC dX10_value_0 rfl rfl rfl ?_
  refine g_iconst (pc' := 2) (v := nI 0) hC dX10_value_1 rfl rfl ?_
  refine pf_X10_0 (pc' := 5) hC wF_X10_66 dX10_value_2 rfl ?_
  refine g_aload_n (pc' := 6) (j := 0) hC dX10_value_5 rfl rfl rfl ?_
  refine g_iload_n (pc' := 7) (j := 1) hC dX10_value_6 rfl rfl rfl ?_
  refine f_Vi (pc' := 10) (k := 15) (st := []) hC (m_isBranch x.2.1 g z0 (uv σ 15 0 (nI 0)) b) k_X10_isBranch wM_X10_82 (by decide) (by decide) (ct_15 g (uv σ 15 0 (nI 0))) rfl rfl rfl rfl (Nat.le_of_ble_eq_true rfl) dX10_value_7 rfl (Nat.zero_le _) (Nat.zero_le _) ?_
  refine gg_topi (b := bI (vlt (σ.1 15 4) b)) (by simp (disch := decide) only [mh_uv, mh_ur, mcomp_uv, rd_uv, rd_ur, uv_cell, ur_cell, uv_idx, uv_fun, rd_idx, ne_eq, not_false_eq_true]) ?_
  refine b_if_eq (pc' := 13) (tgt := 21) hC dX10_value_10 (by decide) rfl (fun c10 => ?_) (fun c10 => ?_)
  · skip
    refine g_aload_n (pc' := 22) (j := 0) hC dX10_value_21 rfl rfl rfl ?_
    refine g_iconst (pc' := 23) (v := nI 1) hC dX10_value_22 rfl rfl ?_
    refine f_Vi (pc' := 26) (k := 15) (st := []) hC (m_refuse x.2.1 g z0 (uv σ 15 0 (nI 0)) ((nI 1))) k_X10_refuse wM_X10_171 (by decide) (by decide) (ct_15 g (uv σ 15 0 (nI 0))) rfl rfl rfl rfl (Nat.le_of_ble_eq_true rfl) dX10_value_23 rfl (Nat.zero_le _) (Nat.zero_le _) ?_
    refine g_ret hC dX10_value_26 rfl ?_
    first | exact ⟨by unfold mvl; rw [cI_f (fun z => c10 z.1)], by unfold mvl; rw [cI_f (fun z => c10 z.1)]⟩ | exact ⟨by unfold mvl; rw [cI_f (fun z => c18 z.2)], by unfold mvl; rw [cI_f (fun z => c18 z.2)]⟩
  · skip
    refine g_aload_n (pc' := 14) (j := 0) hC dX10_value_13 rfl rfl rfl ?_
    refine g_iload_n (pc' := 15) (j := 2) hC dX10_value_14 rfl rfl rfl ?_
    refine f_Vi (pc' := 18) (k := 15) (st := []) hC (m_isBlock x.2.1 g z0 (uv σ 15 0 (nI 0)) w) k_X10_isBlock wM_X10_168 (by decide) (by decide) (ct_15 g (uv σ 15 0 (nI 0))) rfl rfl rfl rfl (Nat.le_of_ble_eq_true rfl) dX10_value_15 rfl (Nat.zero_le _) (Nat.zero_le _) ?_
    refine gg_topi (b := bI (vlt (σ.1 15 2) w)) (by simp (disch := decide) only [mh_uv, mh_ur, mcomp_uv, rd_uv, rd_ur, uv_cell, ur_cell, uv_idx, uv_fun, rd_idx, ne_eq, not_false_eq_true]) ?_
    refine b_if_ne (pc' := 21) (tgt := 27) hC dX10_value_18 (by decide) rfl (fun c18 => ?_) (fun c18 => ?_)
    · skip
      obtain ⟨hbN, hbL, hbM⟩ := hM.br c10
      refine gg_lve (lv' := [(0, .ref (g.2.1 15)), (1, .int (nI (cn b))), (2, .int w)]) (by rw [← hbN]) ?_
      refine g_aload_n (pc' := 28) (j := 0) hC dX10_value_27 rfl rfl rfl ?_
      refine g_iload_n (pc' := 29) (j := 1) hC dX10_value_28 rfl rfl rfl ?_
      refine g_iload_n (pc' := 30) (j := 2) hC dX10_value_29 rfl rfl rfl ?_
      refine f_Vi (pc' := 33) (k := 15) (st := []) hC (m_valueIn x.2.1 g z0 (uv σ 15 0 (nI 0)) ((cn b)) w (by omega) (hM0.len (by omega))) k_X10_valueIn wM_X10_179 (by decide) (by decide) (ct_15 g (uv σ 15 0 (nI 0))) rfl rfl rfl rfl (Nat.le_of_ble_eq_true rfl) dX10_value_30 rfl (Nat.zero_le _) (Nat.zero_le _) ?_
      refine g_ret hC dX10_value_33 rfl ?_
      exact ⟨by unfold mvl; rw [cI_t ⟨c10, c18⟩, mval_m0, rd_uv (by decide)], by unfold mvl; rw [cI_t ⟨c10, c18⟩]⟩
    · skip
      refine g_aload_n (pc' := 22) (j := 0) hC dX10_value_21 rfl rfl rfl ?_
      refine g_iconst (pc' := 23) (v := nI 1) hC dX10_value_22 rfl rfl ?_
      refine f_Vi (pc' := 26) (k := 15) (st := []) hC (m_refuse x.2.1 g z0 (uv σ 15 0 (nI 0)) ((nI 1))) k_X10_refuse wM_X10_171 (by decide) (by decide) (ct_15 g (uv σ 15 0 (nI 0))) rfl rfl rfl rfl (Nat.le_of_ble_eq_true rfl) dX10_value_23 rfl (Nat.zero_le _) (Nat.zero_le _) ?_
      refine g_ret hC dX10_value_26 rfl ?_
      first | exact ⟨by unfold mvl; rw [cI_f (fun z => c10 z.1)], by unfold mvl; rw [cI_f (fun z => c10 z.1)]⟩ | exact ⟨by unfold mvl; rw [cI_f (fun z => c18 z.2)], by unfold mvl; rw [cI_f (fun z => c18 z.2)]⟩
set_option maxHeartbeats 4000000 in
set_option maxRecDepth 20000 in
theorem m_commonLength (l : Launch) (g : Lay) (z0 : Nat) (σ : St) (ua : Int32) (ub : Int32) (hM : MI σ)  : CTi l yX10_commonLength cX10_commonLength 3 (some .int) 3 g z0 [.ref (g.2.1 15), .int ua, .int ub] σ (FI ((mcl σ ua ub).1) ((mcl σ ua ub).2)) := by
  refine CTi.of (by decide) (Nat.le_of_ble_eq_true rfl) ?_
  intro x hxl hxa hC
  have hC : Cx x RX10 cX10_commonLength 3 (some .int) 3 g z0 := hC
  have hM0 := MI_m0 hM
  show GG x g z0 3 0 0 (Qi x g z0 (FI ((mcl σ ua ub).1) ((mcl σ ua ub).2))) σ 0 [(0, .ref (g.2.1 15)), (1, .int ua), (2, .int ub)] []
  refine g_aload_n (pc' := 1) (j := 0) hC dX10_commonLength_0 rfl rfl rfl ?_
  refine g_iconst (pc' := 2) (v := nI 0) hC dX10_commonLength_1 rfl rfl ?_
  refine pf_X10_0 (pc' := 5) hC wF_X10_66 dX10_commonLength_2 rfl ?_
  refine g_aload_n (pc' := 6) (j := 0) hC dX10_commonLength_5 rfl rfl rfl ?_
  refine g_iload_n (pc' := 7) (j := 1) hC dX10_commonLength_6 rfl rfl rfl ?_
  refine f_Vi (pc' := 10) (k := 15) (st := []) hC (m_isBranch x.2.1 g z0 (uv σ 15 0 (nI 0)) ua) k_X10_isBranch wM_X10_82 (by decide) (by decide) (ct_15 g (uv σ 15 0 (nI 0))) rfl rfl rfl rfl (Nat.le_of_ble_eq_true rfl) dX10_commonLength_7 rfl (Nat.zero_le _) (Nat.zero_le _) ?_
  refine gg_topi (b := bI (vlt (σ.1 15 4) ua)) (by simp (disch := decide) only [mh_uv, mh_ur, mcomp_uv, rd_uv, rd_ur, uv_cell, ur_cell, uv_idx, uv_fun, rd_idx, ne_eq, not_false_eq_true]) ?_
  refine b_if_eq (pc' := 13) (tgt := 21) hC dX10_commonLength_10 (by decide) rfl (fun c10 => ?_) (fun c10 => ?_)
  · skip
    refine g_aload_n (pc' := 22) (j := 0) hC dX10_commonLength_21 rfl rfl rfl ?_
    refine g_iconst (pc' := 23) (v := nI 1) hC dX10_commonLength_22 rfl rfl ?_
    refine f_Vi (pc' := 26) (k := 15) (st := []) hC (m_refuse x.2.1 g z0 (uv σ 15 0 (nI 0)) ((nI 1))) k_X10_refuse wM_X10_171 (by decide) (by decide) (ct_15 g (uv σ 15 0 (nI 0))) rfl rfl rfl rfl (Nat.le_of_ble_eq_true rfl) dX10_commonLength_23 rfl (Nat.zero_le _) (Nat.zero_le _) ?_
    refine g_ret hC dX10_commonLength_26 rfl ?_
    first | exact ⟨by unfold mcl; rw [cI_f (fun z => c10 z.1)], by unfold mcl; rw [cI_f (fun z => c10 z.1)]⟩ | exact ⟨by unfold mcl; rw [cI_f (fun z => c18 z.2)], by unfold mcl; rw [cI_f (fun z => c18 z.2)]⟩
  · skip
    refine g_aload_n (pc' := 14) (j := 0) hC dX10_commonLength_13 rfl rfl rfl ?_
    refine g_iload_n (pc' := 15) (j := 2) hC dX10_commonLength_14 rfl rfl rfl ?_
    refine f_Vi (pc' := 18) (k := 15) (st := []) hC (m_isBranch x.2.1 g z0 (uv σ 15 0 (nI 0)) ub) k_X10_isBranch wM_X10_82 (by decide) (by decide) (ct_15 g (uv σ 15 0 (nI 0))) rfl rfl rfl rfl (Nat.le_of_ble_eq_true rfl) dX10_commonLength_15 rfl (Nat.zero_le _) (Nat.zero_le _) ?_
    refine gg_topi (b := bI (vlt (σ.1 15 4) ub)) (by simp (disch := decide) only [mh_uv, mh_ur, mcomp_uv, rd_uv, rd_ur, uv_cell, ur_cell, uv_idx, uv_fun, rd_idx, ne_eq, not_false_eq_true]) ?_
    refine b_if_ne (pc' := 21) (tgt := 27) hC dX10_commonLength_18 (by decide) rfl (fun c18 => ?_) (fun c18 => ?_)
    · skip
      obtain ⟨hcN, hcL, hcM⟩ := hM.br c10
      refine gg_lve (lv' := [(0, .ref (g.2.1 15)), (1, .int (nI (cn ua))), (2, .int ub)]) (by rw [← hcN]) ?_
      obtain ⟨hdN, hdL, hdM⟩ := hM.br c18
      refine gg_lve (lv' := [(0, .ref (g.2.1 15)), (1, .int (nI (cn ua))), (2, .int (nI (cn ub)))]) (by rw [← hdN]) ?_
      refine g_aload_n (pc' := 28) (j := 0) hC dX10_commonLength_27 rfl rfl rfl ?_
      refine g_iload_n (pc' := 29) (j := 1) hC dX10_commonLength_28 rfl rfl rfl ?_
      refine g_iload_n (pc' := 30) (j := 2) hC dX10_commonLength_29 rfl rfl rfl ?_
      refine f_Vi (pc' := 33) (k := 15) (st := []) hC (m_common x.2.1 g z0 (uv σ 15 0 (nI 0)) ((cn ua)) ((cn ub)) (by omega) (by omega) (hM0.len (by omega)) (hM0.len (by omega))) k_X10_common wM_X10_202 (by decide) (by decide) (ct_15 g (uv σ 15 0 (nI 0))) rfl rfl rfl rfl (Nat.le_of_ble_eq_true rfl) dX10_commonLength_30 rfl (Nat.zero_le _) (Nat.zero_le _) ?_
      refine gg_topi (b := nI (mcom σ (cn ua) (cn ub))) (by simp (disch := decide) only [mh_uv, mh_ur, mcomp_uv, rd_uv, rd_ur, uv_cell, ur_cell, uv_idx, uv_fun, rd_idx, ne_eq, not_false_eq_true, mcom]) ?_
      refine g_ret hC dX10_commonLength_33 rfl ?_
      exact ⟨by unfold mcl; rw [cI_t (⟨c10, c18⟩)], by unfold mcl; rw [cI_t (⟨c10, c18⟩)]⟩
    · skip
      refine g_aload_n (pc' := 22) (j := 0) hC dX10_commonLength_21 rfl rfl rfl ?_
      refine g_iconst (pc' := 23) (v := nI 1) hC dX10_commonLength_22 rfl rfl ?_
      refine f_Vi (pc' := 26) (k := 15) (st := []) hC (m_refuse x.2.1 g z0 (uv σ 15 0 (nI 0)) ((nI 1))) k_X10_refuse wM_X10_171 (by decide) (by decide) (ct_15 g (uv σ 15 0 (nI 0))) rfl rfl rfl rfl (Nat.le_of_ble_eq_true rfl) dX10_commonLength_23 rfl (Nat.zero_le _) (Nat.zero_le _) ?_
      refine g_ret hC dX10_commonLength_26 rfl ?_
      first | exact ⟨by unfold mcl; rw [cI_f (fun z => c10 z.1)], by unfold mcl; rw [cI_f (fun z => c10 z.1)]⟩ | exact ⟨by unfold mcl; rw [cI_f (fun z => c18 z.2)], by unfold mcl; rw [cI_f (fun z => c18 z.2)]⟩
set_option maxHeartbeats 4000000 in
set_option maxRecDepth 20000 in
theorem m_conflicts (l : Launch) (g : Lay) (z0 : Nat) (σ : St) (ua : Int32) (ub : Int32) (hM : MI σ)  : CTi l yX10_conflicts cX10_conflicts 3 (some .int) 4 g z0 [.ref (g.2.1 15), .int ua, .int ub] σ (FI ((mcn σ ua ub).1) ((mcn σ ua ub).2)) := by
  refine CTi.of (by decide) (Nat.le_of_ble_eq_true rfl) ?_
  intro x hxl hxa hC
  have hC : Cx x RX10 cX10_conflicts 3 (some .int) 4 g z0 := hC
  have hM0 := MI_m0 hM
  show GG x g z0 3 0 0 (Qi x g z0 (FI ((mcn σ ua ub).1) ((mcn σ ua ub).2))) σ 0 [(0, .ref (g.2.1 15)), (1, .int ua), (2, .int ub)] []
  refine g_aload_n (pc' := 1) (j := 0) hC dX10_conflicts_0 rfl rfl rfl ?_
  refine g_iconst (pc' := 2) (v := nI 0) hC dX10_conflicts_1 rfl rfl ?_
  refine pf_X10_0 (pc' := 5) hC wF_X10_66 dX10_conflicts_2 rfl ?_
  refine g_aload_n (pc' := 6) (j := 0) hC dX10_conflicts_5 rfl rfl rfl ?_
  refine g_iload_n (pc' := 7) (j := 1) hC dX10_conflicts_6 rfl rfl rfl ?_
  refine f_Vi (pc' := 10) (k := 15) (st := []) hC (m_isBranch x.2.1 g z0 (uv σ 15 0 (nI 0)) ua) k_X10_isBranch wM_X10_82 (by decide) (by decide) (ct_15 g (uv σ 15 0 (nI 0))) rfl rfl rfl rfl (Nat.le_of_ble_eq_true rfl) dX10_conflicts_7 rfl (Nat.zero_le _) (Nat.zero_le _) ?_
  refine gg_topi (b := bI (vlt (σ.1 15 4) ua)) (by simp (disch := decide) only [mh_uv, mh_ur, mcomp_uv, rd_uv, rd_ur, uv_cell, ur_cell, uv_idx, uv_fun, rd_idx, ne_eq, not_false_eq_true]) ?_
  refine b_if_eq (pc' := 13) (tgt := 21) hC dX10_conflicts_10 (by decide) rfl (fun c10 => ?_) (fun c10 => ?_)
  · skip
    refine g_aload_n (pc' := 22) (j := 0) hC dX10_conflicts_21 rfl rfl rfl ?_
    refine g_iconst (pc' := 23) (v := nI 1) hC dX10_conflicts_22 rfl rfl ?_
    refine f_Vi (pc' := 26) (k := 15) (st := []) hC (m_refuse x.2.1 g z0 (uv σ 15 0 (nI 0)) ((nI 1))) k_X10_refuse wM_X10_171 (by decide) (by decide) (ct_15 g (uv σ 15 0 (nI 0))) rfl rfl rfl rfl (Nat.le_of_ble_eq_true rfl) dX10_conflicts_23 rfl (Nat.zero_le _) (Nat.zero_le _) ?_
    refine g_ret hC dX10_conflicts_26 rfl ?_
    first | exact ⟨by unfold mcn; rw [cI_f (fun z => c10 z.1)], by unfold mcn; rw [cI_f (fun z => c10 z.1)]⟩ | exact ⟨by unfold mcn; rw [cI_f (fun z => c18 z.2)], by unfold mcn; rw [cI_f (fun z => c18 z.2)]⟩
  · skip
    refine g_aload_n (pc' := 14) (j := 0) hC dX10_conflicts_13 rfl rfl rfl ?_
    refine g_iload_n (pc' := 15) (j := 2) hC dX10_conflicts_14 rfl rfl rfl ?_
    refine f_Vi (pc' := 18) (k := 15) (st := []) hC (m_isBranch x.2.1 g z0 (uv σ 15 0 (nI 0)) ub) k_X10_isBranch wM_X10_82 (by decide) (by decide) (ct_15 g (uv σ 15 0 (nI 0))) rfl rfl rfl rfl (Nat.le_of_ble_eq_true rfl) dX10_conflicts_15 rfl (Nat.zero_le _) (Nat.zero_le _) ?_
    refine gg_topi (b := bI (vlt (σ.1 15 4) ub)) (by simp (disch := decide) only [mh_uv, mh_ur, mcomp_uv, rd_uv, rd_ur, uv_cell, ur_cell, uv_idx, uv_fun, rd_idx, ne_eq, not_false_eq_true]) ?_
    refine b_if_ne (pc' := 21) (tgt := 27) hC dX10_conflicts_18 (by decide) rfl (fun c18 => ?_) (fun c18 => ?_)
    · skip
      obtain ⟨hcN, hcL, hcM⟩ := hM.br c10
      refine gg_lve (lv' := [(0, .ref (g.2.1 15)), (1, .int (nI (cn ua))), (2, .int ub)]) (by rw [← hcN]) ?_
      obtain ⟨hdN, hdL, hdM⟩ := hM.br c18
      refine gg_lve (lv' := [(0, .ref (g.2.1 15)), (1, .int (nI (cn ua))), (2, .int (nI (cn ub)))]) (by rw [← hdN]) ?_
      refine g_aload_n (pc' := 28) (j := 0) hC dX10_conflicts_27 rfl rfl rfl ?_
      refine g_iload_n (pc' := 29) (j := 1) hC dX10_conflicts_28 rfl rfl rfl ?_
      refine g_iload_n (pc' := 30) (j := 2) hC dX10_conflicts_29 rfl rfl rfl ?_
      refine f_Vi (pc' := 33) (k := 15) (st := []) hC (m_conflictsOf x.2.1 g z0 (uv σ 15 0 (nI 0)) ((cn ua)) ((cn ub)) (by omega) (by omega) (hM0.len (by omega)) (hM0.len (by omega))) k_X10_conflictsOf wM_X10_209 (by decide) (by decide) (ct_15 g (uv σ 15 0 (nI 0))) rfl rfl rfl rfl (Nat.le_of_ble_eq_true rfl) dX10_conflicts_30 rfl (Nat.zero_le _) (Nat.zero_le _) ?_
      refine gg_topi (b := mcf σ (cn ua) (cn ub)) (by simp (disch := decide) only [mh_uv, mh_ur, mcomp_uv, rd_uv, rd_ur, uv_cell, ur_cell, uv_idx, uv_fun, rd_idx, ne_eq, not_false_eq_true, mcf, mts, mcom]) ?_
      refine g_ret hC dX10_conflicts_33 rfl ?_
      exact ⟨by unfold mcn; rw [cI_t (⟨c10, c18⟩)], by unfold mcn; rw [cI_t (⟨c10, c18⟩)]⟩
    · skip
      refine g_aload_n (pc' := 22) (j := 0) hC dX10_conflicts_21 rfl rfl rfl ?_
      refine g_iconst (pc' := 23) (v := nI 1) hC dX10_conflicts_22 rfl rfl ?_
      refine f_Vi (pc' := 26) (k := 15) (st := []) hC (m_refuse x.2.1 g z0 (uv σ 15 0 (nI 0)) ((nI 1))) k_X10_refuse wM_X10_171 (by decide) (by decide) (ct_15 g (uv σ 15 0 (nI 0))) rfl rfl rfl rfl (Nat.le_of_ble_eq_true rfl) dX10_conflicts_23 rfl (Nat.zero_le _) (Nat.zero_le _) ?_
      refine g_ret hC dX10_conflicts_26 rfl ?_
      first | exact ⟨by unfold mcn; rw [cI_f (fun z => c10 z.1)], by unfold mcn; rw [cI_f (fun z => c10 z.1)]⟩ | exact ⟨by unfold mcn; rw [cI_f (fun z => c18 z.2)], by unfold mcn; rw [cI_f (fun z => c18 z.2)]⟩
set_option maxHeartbeats 4000000 in
set_option maxRecDepth 20000 in
theorem m_number (l : Launch) (g : Lay) (z0 : Nat) (σ : St) (a : Nat) (b : Nat) (ha : a < 6) (hb : b < 6)  : CTi l yX10_number cX10_number 3 (some .int) 0 g z0 [.ref (g.2.1 15), .int (nI a), .int (nI b)] σ (FI (σ.1 26 (6 * a + b)) σ) := by
  refine CTi.of (by decide) (Nat.le_of_ble_eq_true rfl) ?_
  intro x hxl hxa hC
  have hC : Cx x RX10 cX10_number 3 (some .int) 0 g z0 := hC
  show GG x g z0 3 0 0 (Qi x g z0 (FI (σ.1 26 (6 * a + b)) σ)) σ 0 [(0, .ref (g.2.1 15)), (1, .int (nI a)), (2, .int (nI b))] []
  refine g_aload_n (pc' := 1) (j := 0) hC dX10_number_0 rfl rfl rfl ?_
  refine gf_X10_16 (pc' := 4) hC wF_X10_40 dX10_number_1 rfl ?_
  refine g_bipush (pc' := 6) (v := nI 6) hC dX10_number_4 rfl rfl ?_
  refine g_iload_n (pc' := 7) (j := 1) hC dX10_number_6 rfl rfl rfl ?_
  refine n_imul (pc' := 8) hC dX10_number_7 rfl ?_
  refine g_iload_n (pc' := 9) (j := 2) hC dX10_number_8 rfl rfl rfl ?_
  refine n_iadd (pc' := 10) hC dX10_number_9 rfl ?_
  refine a_ld (pc' := 11) (k := 26) (i := (6 * a) + b) hC (by decide) (ct_26 g σ) (by omega) (by decide) dX10_number_10 rfl ?_
  refine g_ret hC dX10_number_11 rfl ?_
  exact ⟨rfl, rfl⟩
set_option maxHeartbeats 4000000 in
set_option maxRecDepth 20000 in
theorem m_vector (l : Launch) (g : Lay) (z0 : Nat) (σ : St) (ua : Int32) (ub : Int32) (hM : MI σ)  : CTi l yX10_vector cX10_vector 3 (some .int) 2 g z0 [.ref (g.2.1 15), .int ua, .int ub] σ (FI ((mvc σ ua ub).1) ((mvc σ ua ub).2)) := by
  refine CTi.of (by decide) (Nat.le_of_ble_eq_true rfl) ?_
  intro x hxl hxa hC
  have hC : Cx x RX10 cX10_vector 3 (some .int) 2 g z0 := hC
  show GG x g z0 3 0 0 (Qi x g z0 (FI ((mvc σ ua ub).1) ((mvc σ ua ub).2))) σ 0 [(0, .ref (g.2.1 15)), (1, .int ua), (2, .int ub)] []
  refine g_aload_n (pc' := 1) (j := 0) hC dX10_vector_0 rfl rfl rfl ?_
  refine g_iconst (pc' := 2) (v := nI 0) hC dX10_vector_1 rfl rfl ?_
  refine pf_X10_0 (pc' := 5) hC wF_X10_66 dX10_vector_2 rfl ?_
  refine g_aload_n (pc' := 6) (j := 0) hC dX10_vector_5 rfl rfl rfl ?_
  refine g_iload_n (pc' := 7) (j := 1) hC dX10_vector_6 rfl rfl rfl ?_
  refine f_Vi (pc' := 10) (k := 15) (st := []) hC (m_isClient x.2.1 g z0 (uv σ 15 0 (nI 0)) ua) k_X10_isClient wM_X10_165 (by decide) (by decide) (ct_15 g (uv σ 15 0 (nI 0))) rfl rfl rfl rfl (Nat.le_of_ble_eq_true rfl) dX10_vector_7 rfl (Nat.zero_le _) (Nat.zero_le _) ?_
  refine gg_topi (b := bI (vlt (σ.1 15 1) ua)) (by simp (disch := decide) only [mh_uv, mh_ur, mcomp_uv, rd_uv, rd_ur, uv_cell, ur_cell, uv_idx, uv_fun, rd_idx, ne_eq, not_false_eq_true]) ?_
  refine b_if_eq (pc' := 13) (tgt := 21) hC dX10_vector_10 (by decide) rfl (fun c10 => ?_) (fun c10 => ?_)
  · skip
    refine g_aload_n (pc' := 22) (j := 0) hC dX10_vector_21 rfl rfl rfl ?_
    refine g_iconst (pc' := 23) (v := nI 1) hC dX10_vector_22 rfl rfl ?_
    refine f_Vi (pc' := 26) (k := 15) (st := []) hC (m_refuse x.2.1 g z0 (uv σ 15 0 (nI 0)) ((nI 1))) k_X10_refuse wM_X10_171 (by decide) (by decide) (ct_15 g (uv σ 15 0 (nI 0))) rfl rfl rfl rfl (Nat.le_of_ble_eq_true rfl) dX10_vector_23 rfl (Nat.zero_le _) (Nat.zero_le _) ?_
    refine g_ret hC dX10_vector_26 rfl ?_
    first | exact ⟨by unfold mvc; rw [cI_f (fun z => c10 z.1)], by unfold mvc; rw [cI_f (fun z => c10 z.1)]⟩ | exact ⟨by unfold mvc; rw [cI_f (fun z => c18 z.2)], by unfold mvc; rw [cI_f (fun z => c18 z.2)]⟩
  · skip
    refine g_aload_n (pc' := 14) (j := 0) hC dX10_vector_13 rfl rfl rfl ?_
    refine g_iload_n (pc' := 15) (j := 2) hC dX10_vector_14 rfl rfl rfl ?_
    refine f_Vi (pc' := 18) (k := 15) (st := []) hC (m_isClient x.2.1 g z0 (uv σ 15 0 (nI 0)) ub) k_X10_isClient wM_X10_165 (by decide) (by decide) (ct_15 g (uv σ 15 0 (nI 0))) rfl rfl rfl rfl (Nat.le_of_ble_eq_true rfl) dX10_vector_15 rfl (Nat.zero_le _) (Nat.zero_le _) ?_
    refine gg_topi (b := bI (vlt (σ.1 15 1) ub)) (by simp (disch := decide) only [mh_uv, mh_ur, mcomp_uv, rd_uv, rd_ur, uv_cell, ur_cell, uv_idx, uv_fun, rd_idx, ne_eq, not_false_eq_true]) ?_
    refine b_if_ne (pc' := 21) (tgt := 27) hC dX10_vector_18 (by decide) rfl (fun c18 => ?_) (fun c18 => ?_)
    · skip
      obtain ⟨hcN, hcL, hcM⟩ := hM.cl c10
      refine gg_lve (lv' := [(0, .ref (g.2.1 15)), (1, .int (nI (cn ua))), (2, .int ub)]) (by rw [← hcN]) ?_
      obtain ⟨hdN, hdL, hdM⟩ := hM.cl c18
      refine gg_lve (lv' := [(0, .ref (g.2.1 15)), (1, .int (nI (cn ua))), (2, .int (nI (cn ub)))]) (by rw [← hdN]) ?_
      refine g_aload_n (pc' := 28) (j := 0) hC dX10_vector_27 rfl rfl rfl ?_
      refine g_iload_n (pc' := 29) (j := 1) hC dX10_vector_28 rfl rfl rfl ?_
      refine g_iload_n (pc' := 30) (j := 2) hC dX10_vector_29 rfl rfl rfl ?_
      refine f_Vi (pc' := 33) (k := 15) (st := []) hC (m_number x.2.1 g z0 (uv σ 15 0 (nI 0)) ((cn ua)) ((cn ub)) (by omega) (by omega)) k_X10_number wM_X10_393 (by decide) (by decide) (ct_15 g (uv σ 15 0 (nI 0))) rfl rfl rfl rfl (Nat.le_of_ble_eq_true rfl) dX10_vector_30 rfl (Nat.zero_le _) (Nat.zero_le _) ?_
      refine gg_topi (b := σ.1 26 (6 * (cn ua) + (cn ub))) (by simp (disch := decide) only [mh_uv, mh_ur, mcomp_uv, rd_uv, rd_ur, uv_cell, ur_cell, uv_idx, uv_fun, rd_idx, ne_eq, not_false_eq_true]) ?_
      refine g_ret hC dX10_vector_33 rfl ?_
      exact ⟨by unfold mvc; rw [cI_t (⟨c10, c18⟩)], by unfold mvc; rw [cI_t (⟨c10, c18⟩)]⟩
    · skip
      refine g_aload_n (pc' := 22) (j := 0) hC dX10_vector_21 rfl rfl rfl ?_
      refine g_iconst (pc' := 23) (v := nI 1) hC dX10_vector_22 rfl rfl ?_
      refine f_Vi (pc' := 26) (k := 15) (st := []) hC (m_refuse x.2.1 g z0 (uv σ 15 0 (nI 0)) ((nI 1))) k_X10_refuse wM_X10_171 (by decide) (by decide) (ct_15 g (uv σ 15 0 (nI 0))) rfl rfl rfl rfl (Nat.le_of_ble_eq_true rfl) dX10_vector_23 rfl (Nat.zero_le _) (Nat.zero_le _) ?_
      refine g_ret hC dX10_vector_26 rfl ?_
      first | exact ⟨by unfold mvc; rw [cI_f (fun z => c10 z.1)], by unfold mvc; rw [cI_f (fun z => c10 z.1)]⟩ | exact ⟨by unfold mvc; rw [cI_f (fun z => c18 z.2)], by unfold mvc; rw [cI_f (fun z => c18 z.2)]⟩
set_option maxHeartbeats 4000000 in
set_option maxRecDepth 20000 in
theorem m_wouldFind (l : Launch) (g : Lay) (z0 : Nat) (σ : St) (c : Int32) (hM : MI σ)  : CTi l yX10_wouldFind cX10_wouldFind 2 (some .int) 4 g z0 [.ref (g.2.1 15), .int c] σ (FI ((mwf σ c).1) ((mwf σ c).2)) := by
  refine CTi.of (by decide) (Nat.le_of_ble_eq_true rfl) ?_
  intro x hxl hxa hC
  have hC : Cx x RX10 cX10_wouldFind 2 (some .int) 4 g z0 := hC
  have hM0 := MI_m0 hM
  show GG x g z0 2 0 0 (Qi x g z0 (FI ((mwf σ c).1) ((mwf σ c).2))) σ 0 [(0, .ref (g.2.1 15)), (1, .int c)] []
  refine g_aload_n (pc' := 1) (j := 0) hC dX10_wouldFind_0 rfl rfl rfl ?_
  refine g_iconst (pc' := 2) (v := nI 0) hC dX10_wouldFind_1 rfl rfl ?_
  refine pf_X10_0 (pc' := 5) hC wF_X10_66 dX10_wouldFind_2 rfl ?_
  refine g_aload_n (pc' := 6) (j := 0) hC dX10_wouldFind_5 rfl rfl rfl ?_
  refine g_iload_n (pc' := 7) (j := 1) hC dX10_wouldFind_6 rfl rfl rfl ?_
  refine f_Vi (pc' := 10) (k := 15) (st := []) hC (m_isClient x.2.1 g z0 (uv σ 15 0 (nI 0)) c) k_X10_isClient wM_X10_165 (by decide) (by decide) (ct_15 g (uv σ 15 0 (nI 0))) rfl rfl rfl rfl (Nat.le_of_ble_eq_true rfl) dX10_wouldFind_7 rfl (Nat.zero_le _) (Nat.zero_le _) ?_
  refine gg_topi (b := bI (vlt (σ.1 15 1) c)) (by simp (disch := decide) only [mh_uv, mh_ur, mcomp_uv, rd_uv, rd_ur, uv_cell, ur_cell, uv_idx, uv_fun, rd_idx, ne_eq, not_false_eq_true]) ?_
  refine b_if_ne (pc' := 13) (tgt := 19) hC dX10_wouldFind_10 (by decide) rfl (fun c10 => ?_) (fun c10 => ?_)
  · skip
    obtain ⟨hcN, hcL, hcM⟩ := hM.cl c10
    refine gg_lve (lv' := [(0, .ref (g.2.1 15)), (1, .int (nI (cn c)))]) (by rw [← hcN]) ?_
    refine g_aload_n (pc' := 20) (j := 0) hC dX10_wouldFind_19 rfl rfl rfl ?_
    refine g_iload_n (pc' := 21) (j := 1) hC dX10_wouldFind_20 rfl rfl rfl ?_
    refine f_Vi (pc' := 24) (k := 15) (st := []) hC (m_finds x.2.1 g z0 (uv σ 15 0 (nI 0)) ((cn c)) (by omega) (hM0)) k_X10_finds wM_X10_149 (by decide) (by decide) (ct_15 g (uv σ 15 0 (nI 0))) rfl rfl rfl rfl (Nat.le_of_ble_eq_true rfl) dX10_wouldFind_21 rfl (Nat.zero_le _) (Nat.zero_le _) ?_
    refine g_ret hC dX10_wouldFind_24 rfl ?_
    exact ⟨by unfold mwf; rw [cI_t (c10)], by unfold mwf; rw [cI_t (c10)]⟩
  · skip
    refine g_aload_n (pc' := 14) (j := 0) hC dX10_wouldFind_13 rfl rfl rfl ?_
    refine g_iconst (pc' := 15) (v := nI 1) hC dX10_wouldFind_14 rfl rfl ?_
    refine f_Vi (pc' := 18) (k := 15) (st := []) hC (m_refuse x.2.1 g z0 (uv σ 15 0 (nI 0)) ((nI 1))) k_X10_refuse wM_X10_171 (by decide) (by decide) (ct_15 g (uv σ 15 0 (nI 0))) rfl rfl rfl rfl (Nat.le_of_ble_eq_true rfl) dX10_wouldFind_15 rfl (Nat.zero_le _) (Nat.zero_le _) ?_
    refine g_ret hC dX10_wouldFind_18 rfl ?_
    exact ⟨by unfold mwf; rw [cI_f (c10)], by unfold mwf; rw [cI_f (c10)]⟩
set_option maxHeartbeats 4000000 in
set_option maxRecDepth 20000 in
theorem m_isSuspicious (l : Launch) (g : Lay) (z0 : Nat) (σ : St) (c : Int32) (hM : MI σ)  : CTi l yX10_isSuspicious cX10_isSuspicious 2 (some .boolean) 2 g z0 [.ref (g.2.1 15), .int c] σ (FI ((mis σ c).1) ((mis σ c).2)) := by
  refine CTi.of (by decide) (Nat.le_of_ble_eq_true rfl) ?_
  intro x hxl hxa hC
  have hC : Cx x RX10 cX10_isSuspicious 2 (some .boolean) 2 g z0 := hC
  show GG x g z0 2 0 0 (Qi x g z0 (FI ((mis σ c).1) ((mis σ c).2))) σ 0 [(0, .ref (g.2.1 15)), (1, .int c)] []
  refine g_aload_n (pc' := 1) (j := 0) hC dX10_isSuspicious_0 rfl rfl rfl ?_
  refine g_aload_n (pc' := 2) (j := 0) hC dX10_isSuspicious_1 rfl rfl rfl ?_
  refine g_iload_n (pc' := 3) (j := 1) hC dX10_isSuspicious_2 rfl rfl rfl ?_
  refine f_Vi (pc' := 6) (k := 15) (st := [.ref (g.2.1 15)]) hC (m_isClient x.2.1 g z0 σ c) k_X10_isClient wM_X10_165 (by decide) (by decide) (ct_15 g σ) rfl rfl rfl rfl (Nat.le_of_ble_eq_true rfl) dX10_isSuspicious_3 rfl (Nat.zero_le _) (Nat.zero_le _) ?_
  refine b_if_eq (pc' := 9) (tgt := 13) hC dX10_isSuspicious_6 (by decide) rfl (fun c6 => ?_) (fun c6 => ?_)
  · skip
    refine g_iconst (pc' := 14) (v := nI 1) hC dX10_isSuspicious_13 rfl rfl ?_
    refine pf_X10_0 (pc' := 17) hC wF_X10_66 dX10_isSuspicious_14 rfl ?_
    refine g_aload_n (pc' := 18) (j := 0) hC dX10_isSuspicious_17 rfl rfl rfl ?_
    refine gf_X10_0 (pc' := 21) hC wF_X10_66 dX10_isSuspicious_18 rfl ?_
    refine gg_topi (b := nI 1) (uv_same _ _ _ _) ?_
    refine n_if_ne (pc' := 24) (tgt := 37) hC dX10_isSuspicious_21 (by decide) rfl (by omega) (fun c21 => ?_) (fun c21 => ?_)
    · skip
      refine g_iconst (pc' := 38) (v := nI 0) hC dX10_isSuspicious_37 rfl rfl ?_
      refine g_ret hC dX10_isSuspicious_38 rfl ?_
      first | exact ⟨by unfold mis; rw [cI_f (c6)], by unfold mis; rw [cI_f (c6)]⟩ | exact ⟨by unfold mis; rw [cI_t c6]; exact (bI_t c30).symm, by unfold mis; rw [cI_t c6]⟩ | exact ⟨by unfold mis; rw [cI_t c6]; exact (bI_f (fun z => z c30)).symm, by unfold mis; rw [cI_t c6]⟩
    · skip
      first | exact absurd c21 (by decide) | exact c21.elim
  · skip
    refine g_iconst (pc' := 10) (v := nI 0) hC dX10_isSuspicious_9 rfl rfl ?_
    refine g_goto (tgt := 14) hC dX10_isSuspicious_10 (by decide) ?_
    refine pf_X10_0 (pc' := 17) hC wF_X10_66 dX10_isSuspicious_14 rfl ?_
    refine g_aload_n (pc' := 18) (j := 0) hC dX10_isSuspicious_17 rfl rfl rfl ?_
    refine gf_X10_0 (pc' := 21) hC wF_X10_66 dX10_isSuspicious_18 rfl ?_
    refine gg_topi (b := nI 0) (uv_same _ _ _ _) ?_
    refine n_if_ne (pc' := 24) (tgt := 37) hC dX10_isSuspicious_21 (by decide) rfl (by omega) (fun c21 => ?_) (fun c21 => ?_)
    · skip
      first | exact absurd c21 (by decide) | exact c21.elim
    · skip
      obtain ⟨hcN, hcL, hcM⟩ := hM.cl c6
      refine gg_lve (lv' := [(0, .ref (g.2.1 15)), (1, .int (nI (cn c)))]) (by rw [← hcN]) ?_
      refine g_aload_n (pc' := 25) (j := 0) hC dX10_isSuspicious_24 rfl rfl rfl ?_
      refine gf_X10_18 (pc' := 28) hC wF_X10_46 dX10_isSuspicious_25 rfl ?_
      refine g_iload_n (pc' := 29) (j := 1) hC dX10_isSuspicious_28 rfl rfl rfl ?_
      refine a_ldz (pc' := 30) (k := 28) (i := cn c) hC (by decide) (ct_28 g (uv σ 15 0 (nI 0))) (by omega) (by decide) dX10_isSuspicious_29 rfl ?_
      refine gg_topi (b := σ.1 28 (cn c)) (uv_cell _ _ _ _ (by decide)) ?_
      refine g_if_eq (pc' := 33) (tgt := 37) hC dX10_isSuspicious_30 (by decide) rfl (fun c30 => ?_) (fun c30 => ?_)
      · skip
        refine g_iconst (pc' := 38) (v := nI 0) hC dX10_isSuspicious_37 rfl rfl ?_
        refine g_ret hC dX10_isSuspicious_38 rfl ?_
        first | exact ⟨by unfold mis; rw [cI_f (c6)], by unfold mis; rw [cI_f (c6)]⟩ | exact ⟨by unfold mis; rw [cI_t c6]; exact (bI_t c30).symm, by unfold mis; rw [cI_t c6]⟩ | exact ⟨by unfold mis; rw [cI_t c6]; exact (bI_f (fun z => z c30)).symm, by unfold mis; rw [cI_t c6]⟩
      · skip
        refine g_iconst (pc' := 34) (v := nI 1) hC dX10_isSuspicious_33 rfl rfl ?_
        refine g_goto (tgt := 38) hC dX10_isSuspicious_34 (by decide) ?_
        refine g_ret hC dX10_isSuspicious_38 rfl ?_
        first | exact ⟨by unfold mis; rw [cI_f (c6)], by unfold mis; rw [cI_f (c6)]⟩ | exact ⟨by unfold mis; rw [cI_t c6]; exact (bI_t c30).symm, by unfold mis; rw [cI_t c6]⟩ | exact ⟨by unfold mis; rw [cI_t c6]; exact (bI_f (fun z => z c30)).symm, by unfold mis; rw [cI_t c6]⟩
set_option maxHeartbeats 4000000 in
set_option maxRecDepth 20000 in
theorem m_hashAt (l : Launch) (g : Lay) (z0 : Nat) (σ : St) (c : Int32) (n : Int32) (hM : MI σ)  : CTi l yX10_hashAt cX10_hashAt 3 (some .int) 2 g z0 [.ref (g.2.1 15), .int c, .int n] σ (FI ((mha σ c n).1) ((mha σ c n).2)) := by
  refine CTi.of (by decide) (Nat.le_of_ble_eq_true rfl) ?_
  intro x hxl hxa hC
  have hC : Cx x RX10 cX10_hashAt 3 (some .int) 2 g z0 := hC
  show GG x g z0 3 0 0 (Qi x g z0 (FI ((mha σ c n).1) ((mha σ c n).2))) σ 0 [(0, .ref (g.2.1 15)), (1, .int c), (2, .int n)] []
  refine g_aload_n (pc' := 1) (j := 0) hC dX10_hashAt_0 rfl rfl rfl ?_
  refine g_iconst (pc' := 2) (v := nI 0) hC dX10_hashAt_1 rfl rfl ?_
  refine pf_X10_0 (pc' := 5) hC wF_X10_66 dX10_hashAt_2 rfl ?_
  refine g_aload_n (pc' := 6) (j := 0) hC dX10_hashAt_5 rfl rfl rfl ?_
  refine g_iload_n (pc' := 7) (j := 1) hC dX10_hashAt_6 rfl rfl rfl ?_
  refine f_Vi (pc' := 10) (k := 15) (st := []) hC (m_isClient x.2.1 g z0 (uv σ 15 0 (nI 0)) c) k_X10_isClient wM_X10_165 (by decide) (by decide) (ct_15 g (uv σ 15 0 (nI 0))) rfl rfl rfl rfl (Nat.le_of_ble_eq_true rfl) dX10_hashAt_7 rfl (Nat.zero_le _) (Nat.zero_le _) ?_
  refine gg_topi (b := bI (vlt (σ.1 15 1) c)) (by simp (disch := decide) only [mh_uv, mh_ur, mcomp_uv, rd_uv, rd_ur, uv_cell, ur_cell, uv_idx, uv_fun, rd_idx, ne_eq, not_false_eq_true]) ?_
  refine b_if_eq (pc' := 13) (tgt := 27) hC dX10_hashAt_10 (by decide) rfl (fun c10 => ?_) (fun c10 => ?_)
  · skip
    refine g_aload_n (pc' := 28) (j := 0) hC dX10_hashAt_27 rfl rfl rfl ?_
    refine g_iconst (pc' := 29) (v := nI 1) hC dX10_hashAt_28 rfl rfl ?_
    refine f_Vi (pc' := 32) (k := 15) (st := []) hC (m_refuse x.2.1 g z0 (uv σ 15 0 (nI 0)) ((nI 1))) k_X10_refuse wM_X10_171 (by decide) (by decide) (ct_15 g (uv σ 15 0 (nI 0))) rfl rfl rfl rfl (Nat.le_of_ble_eq_true rfl) dX10_hashAt_29 rfl (Nat.zero_le _) (Nat.zero_le _) ?_
    refine g_ret hC dX10_hashAt_32 rfl ?_
    first | exact ⟨by unfold mha; rw [cI_f (fun z => c10 z.1)], by unfold mha; rw [cI_f (fun z => c10 z.1)]⟩ | exact ⟨by unfold mha; rw [cI_f (fun z => c24 z.2)], by unfold mha; rw [cI_f (fun z => c24 z.2)]⟩
  · skip
    obtain ⟨hcN, hcL, hcM⟩ := hM.cl c10
    refine gg_lve (lv' := [(0, .ref (g.2.1 15)), (1, .int (nI (cn c))), (2, .int n)]) (by rw [← hcN]) ?_
    refine g_iload_n (pc' := 14) (j := 2) hC dX10_hashAt_13 rfl rfl rfl ?_
    refine g_iconst (pc' := 15) (v := nI 0) hC dX10_hashAt_14 rfl rfl ?_
    refine g_aload_n (pc' := 16) (j := 0) hC dX10_hashAt_15 rfl rfl rfl ?_
    refine gf_X10_14 (pc' := 19) hC wF_X10_34 dX10_hashAt_16 rfl ?_
    refine g_iload_n (pc' := 20) (j := 1) hC dX10_hashAt_19 rfl rfl rfl ?_
    refine a_ld (pc' := 21) (k := 24) (i := cn c) hC (by decide) (ct_24 g (uv σ 15 0 (nI 0))) (by omega) (by decide) dX10_hashAt_20 rfl ?_
    refine gg_topi (b := σ.1 24 (cn c)) (uv_cell _ _ _ _ (by decide)) ?_
    refine f_Si (pc' := 24) (st := []) hC (m_in x.2.1 g z0 (uv σ 15 0 (nI 0)) n ((nI 0)) ((σ.1 24 (cn c)))) k_X10_in wM_X10_72 (by decide) rfl rfl (Nat.le_of_ble_eq_true rfl) dX10_hashAt_21 rfl (Nat.zero_le _) (Nat.zero_le _) ?_
    refine b_if_ne (pc' := 27) (tgt := 33) hC dX10_hashAt_24 (by decide) rfl (fun c24 => ?_) (fun c24 => ?_)
    · skip
      have hp9 := hM.pos (c := cn c) (by omega)
      have hp92 := hp9.2
      obtain ⟨hnN, hn1, hn2⟩ := in_n (by decide) (by omega) c24.1 (hp9.1 ▸ c24.2)
      refine gg_lve (lv' := [(0, .ref (g.2.1 15)), (1, .int (nI (cn c))), (2, .int (nI (cn n)))]) (by rw [← hnN]) ?_
      refine g_aload_n (pc' := 34) (j := 0) hC dX10_hashAt_33 rfl rfl rfl ?_
      refine g_iload_n (pc' := 35) (j := 1) hC dX10_hashAt_34 rfl rfl rfl ?_
      refine g_iload_n (pc' := 36) (j := 2) hC dX10_hashAt_35 rfl rfl rfl ?_
      refine f_Vi (pc' := 39) (k := 15) (st := []) hC (m_hashIn x.2.1 g z0 (uv σ 15 0 (nI 0)) ((cn c)) ((cn n)) (by omega) (by omega)) k_X10_hashIn wM_X10_90 (by decide) (by decide) (ct_15 g (uv σ 15 0 (nI 0))) rfl rfl rfl rfl (Nat.le_of_ble_eq_true rfl) dX10_hashAt_36 rfl (Nat.zero_le _) (Nat.zero_le _) ?_
      refine gg_topi (b := σ.1 27 (201 * (cn c) + (cn n))) (by simp (disch := decide) only [mh_uv, mh_ur, mcomp_uv, rd_uv, rd_ur, uv_cell, ur_cell, uv_idx, uv_fun, rd_idx, ne_eq, not_false_eq_true]) ?_
      refine g_ret hC dX10_hashAt_39 rfl ?_
      exact ⟨by unfold mha; rw [cI_t (⟨c10, c24⟩)], by unfold mha; rw [cI_t (⟨c10, c24⟩)]⟩
    · skip
      refine g_aload_n (pc' := 28) (j := 0) hC dX10_hashAt_27 rfl rfl rfl ?_
      refine g_iconst (pc' := 29) (v := nI 1) hC dX10_hashAt_28 rfl rfl ?_
      refine f_Vi (pc' := 32) (k := 15) (st := []) hC (m_refuse x.2.1 g z0 (uv σ 15 0 (nI 0)) ((nI 1))) k_X10_refuse wM_X10_171 (by decide) (by decide) (ct_15 g (uv σ 15 0 (nI 0))) rfl rfl rfl rfl (Nat.le_of_ble_eq_true rfl) dX10_hashAt_29 rfl (Nat.zero_le _) (Nat.zero_le _) ?_
      refine g_ret hC dX10_hashAt_32 rfl ?_
      first | exact ⟨by unfold mha; rw [cI_f (fun z => c10 z.1)], by unfold mha; rw [cI_f (fun z => c10 z.1)]⟩ | exact ⟨by unfold mha; rw [cI_f (fun z => c24 z.2)], by unfold mha; rw [cI_f (fun z => c24 z.2)]⟩
