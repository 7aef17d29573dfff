set_option maxHeartbeats 4000000 in
set_option maxRecDepth 20000 in
theorem m_entry (l : Launch) (g : Lay) (z0 : Nat) (σ : St) (b : Int32) (n : Int32) (w : Int32) (hM : MI σ)  : CTi l yX10_entry cX10_entry 5 (some .int) 3 g z0 [.ref (g.2.1 15), .int b, .int n, .int w] σ (FI ((men σ b n w).1) ((men σ b n w).2)) := by
  refine CTi.of (by decide) (Nat.le_of_ble_eq_true rfl) ?_
  intro x hxl hxa hC
  have hC : Cx x RX10 cX10_entry 5 (some .int) 3 g z0 := hC
  have hM0 := MI_m0 hM
  show GG x g z0 5 0 0 (Qi x g z0 (FI ((men σ b n w).1) ((men σ b n w).2))) σ 0 [(0, .ref (g.2.1 15)), (1, .int b), (2, .int n), (3, .int w)] []
  refine g_aload_n (pc' := 1) (j := 0) hC dX10_entry_0 rfl rfl rfl ?_
  refine g_iconst (pc' := 2) (v := nI 0) hC dX10_entry_1 rfl rfl ?_
  refine pf_X10_0 (pc' := 5) hC wF_X10_66 dX10_entry_2 rfl ?_
  refine g_aload_n (pc' := 6) (j := 0) hC dX10_entry_5 rfl rfl rfl ?_
  refine g_iload_n (pc' := 7) (j := 1) hC dX10_entry_6 rfl rfl rfl ?_
  refine g_iload_n (pc' := 8) (j := 2) hC dX10_entry_7 rfl rfl rfl ?_
  refine f_Vi (pc' := 11) (k := 15) (st := []) hC (m_isEntry x.2.1 g z0 (uv σ 15 0 (nI 0)) b n (hM0)) k_X10_isEntry wM_X10_199 (by decide) (by decide) (ct_15 g (uv σ 15 0 (nI 0))) rfl rfl rfl rfl (Nat.le_of_ble_eq_true rfl) dX10_entry_8 rfl (Nat.zero_le _) (Nat.zero_le _) ?_
  refine gg_topi (b := bI (mex σ b n)) (by simp (disch := decide) only [mh_uv, mh_ur, mcomp_uv, rd_uv, rd_ur, uv_cell, ur_cell, uv_idx, uv_fun, rd_idx, ne_eq, not_false_eq_true, mex]) ?_
  refine b_if_ne (pc' := 14) (tgt := 20) hC dX10_entry_11 (by decide) rfl (fun c11 => ?_) (fun c11 => ?_)
  · skip
    obtain ⟨hbN, hbL, hbM, hnN, hn1, hn2, hn3⟩ := hM.en c11
    refine gg_lve (lv' := [(0, .ref (g.2.1 15)), (1, .int (nI (cn b))), (2, .int n), (3, .int w)]) (by rw [← hbN]) ?_
    refine gg_lve (lv' := [(0, .ref (g.2.1 15)), (1, .int (nI (cn b))), (2, .int (nI (cn n))), (3, .int w)]) (by rw [← hnN]) ?_
    refine g_iload_n (pc' := 21) (j := 1) hC dX10_entry_20 rfl rfl rfl ?_
    refine g_iload_n (pc' := 22) (j := 2) hC dX10_entry_21 rfl rfl rfl ?_
    refine f_Si (pc' := 25) (st := []) hC (m_at x.2.1 g z0 (uv σ 15 0 (nI 0)) ((cn b)) ((cn n)) (by omega)) k_X10_at wM_X10_86 (by decide) rfl rfl (Nat.le_of_ble_eq_true rfl) dX10_entry_22 rfl (Nat.zero_le _) (Nat.zero_le _) ?_
    refine g_istore (pc' := 27) (lv' := [(4, .int (nI (200 * (cn b) + (cn n) - 1))), (0, .ref (g.2.1 15)), (1, .int (nI (cn b))), (2, .int (nI (cn n))), (3, .int w)]) hC dX10_entry_25 rfl (by decide) rfl ?_
    refine g_iload_n (pc' := 28) (j := 4) hC dX10_entry_27 rfl rfl rfl ?_
    by_cases t28_0 : w = nI 0
    · skip
      refine gg_topi t28_0 ?_
      refine n_tswIn (tgt := 72) hC dX10_entry_28 rfl (by decide) (by decide) (by decide) rfl (by decide) ?_
      refine g_aload_n (pc' := 73) (j := 1) hC dX10_entry_72 rfl rfl rfl ?_
      refine gf_X10_7 (pc' := 76) hC wF_X10_13 dX10_entry_73 rfl ?_
      refine g_iload (pc' := 78) (j := 0) hC dX10_entry_76 rfl rfl ?_
      refine a_ld (pc' := 79) (k := 17) (i := 200 * (cn b) + (cn n) - 1) hC (by decide) (ct_17 g (uv σ 15 0 (nI 0))) (by omega) (by decide) dX10_entry_78 rfl ?_
      refine gg_topi (b := σ.1 17 (200 * (cn b) + (cn n) - 1)) (uv_cell _ _ _ _ (by decide)) ?_
      refine g_ret hC dX10_entry_79 rfl ?_
      exact ⟨by unfold men; rw [cI_t (c11), cI_t (t28_0)], by unfold men; rw [cI_t (c11), cI_t (t28_0)]⟩
    by_cases t28_1 : w = nI 1
    · skip
      refine gg_topi t28_1 ?_
      refine n_tswIn (tgt := 80) hC dX10_entry_28 rfl (by decide) (by decide) (by decide) rfl (by decide) ?_
      refine g_aload_n (pc' := 81) (j := 1) hC dX10_entry_80 rfl rfl rfl ?_
      refine gf_X10_8 (pc' := 84) hC wF_X10_16 dX10_entry_81 rfl ?_
      refine g_iload (pc' := 86) (j := 0) hC dX10_entry_84 rfl rfl ?_
      refine a_ld (pc' := 87) (k := 18) (i := 200 * (cn b) + (cn n) - 1) hC (by decide) (ct_18 g (uv σ 15 0 (nI 0))) (by omega) (by decide) dX10_entry_86 rfl ?_
      refine gg_topi (b := σ.1 18 (200 * (cn b) + (cn n) - 1)) (uv_cell _ _ _ _ (by decide)) ?_
      refine g_ret hC dX10_entry_87 rfl ?_
      exact ⟨by unfold men; rw [cI_t (c11), cI_f (t28_0), cI_t (t28_1)], by unfold men; rw [cI_t (c11), cI_f (t28_0), cI_t (t28_1)]⟩
    by_cases t28_2 : w = nI 2
    · skip
      refine gg_topi t28_2 ?_
      refine n_tswIn (tgt := 88) hC dX10_entry_28 rfl (by decide) (by decide) (by decide) rfl (by decide) ?_
      refine g_aload_n (pc' := 89) (j := 1) hC dX10_entry_88 rfl rfl rfl ?_
      refine gf_X10_9 (pc' := 92) hC wF_X10_19 dX10_entry_89 rfl ?_
      refine g_iload (pc' := 94) (j := 0) hC dX10_entry_92 rfl rfl ?_
      refine a_ld (pc' := 95) (k := 19) (i := 200 * (cn b) + (cn n) - 1) hC (by decide) (ct_19 g (uv σ 15 0 (nI 0))) (by omega) (by decide) dX10_entry_94 rfl ?_
      refine gg_topi (b := σ.1 19 (200 * (cn b) + (cn n) - 1)) (uv_cell _ _ _ _ (by decide)) ?_
      refine g_ret hC dX10_entry_95 rfl ?_
      exact ⟨by unfold men; rw [cI_t (c11), cI_f (t28_0), cI_f (t28_1), cI_t (t28_2)], by unfold men; rw [cI_t (c11), cI_f (t28_0), cI_f (t28_1), cI_t (t28_2)]⟩
    by_cases t28_3 : w = nI 3
    · skip
      refine gg_topi t28_3 ?_
      refine n_tswIn (tgt := 96) hC dX10_entry_28 rfl (by decide) (by decide) (by decide) rfl (by decide) ?_
      refine g_aload_n (pc' := 97) (j := 1) hC dX10_entry_96 rfl rfl rfl ?_
      refine gf_X10_10 (pc' := 100) hC wF_X10_22 dX10_entry_97 rfl ?_
      refine g_iload (pc' := 102) (j := 0) hC dX10_entry_100 rfl rfl ?_
      refine a_ld (pc' := 103) (k := 20) (i := 200 * (cn b) + (cn n) - 1) hC (by decide) (ct_20 g (uv σ 15 0 (nI 0))) (by omega) (by decide) dX10_entry_102 rfl ?_
      refine gg_topi (b := σ.1 20 (200 * (cn b) + (cn n) - 1)) (uv_cell _ _ _ _ (by decide)) ?_
      refine g_ret hC dX10_entry_103 rfl ?_
      exact ⟨by unfold men; rw [cI_t (c11), cI_f (t28_0), cI_f (t28_1), cI_f (t28_2), cI_t (t28_3)], by unfold men; rw [cI_t (c11), cI_f (t28_0), cI_f (t28_1), cI_f (t28_2), cI_t (t28_3)]⟩
    by_cases t28_4 : w = nI 4
    · skip
      refine gg_topi t28_4 ?_
      refine n_tswIn (tgt := 104) hC dX10_entry_28 rfl (by decide) (by decide) (by decide) rfl (by decide) ?_
      refine g_aload_n (pc' := 105) (j := 1) hC dX10_entry_104 rfl rfl rfl ?_
      refine gf_X10_12 (pc' := 108) hC wF_X10_28 dX10_entry_105 rfl ?_
      refine g_iload (pc' := 110) (j := 0) hC dX10_entry_108 rfl rfl ?_
      refine a_ld (pc' := 111) (k := 22) (i := 200 * (cn b) + (cn n) - 1) hC (by decide) (ct_22 g (uv σ 15 0 (nI 0))) (by omega) (by decide) dX10_entry_110 rfl ?_
      refine gg_topi (b := σ.1 22 (200 * (cn b) + (cn n) - 1)) (uv_cell _ _ _ _ (by decide)) ?_
      refine g_ret hC dX10_entry_111 rfl ?_
      exact ⟨by unfold men; rw [cI_t (c11), cI_f (t28_0), cI_f (t28_1), cI_f (t28_2), cI_f (t28_3), cI_t (t28_4)], by unfold men; rw [cI_t (c11), cI_f (t28_0), cI_f (t28_1), cI_f (t28_2), cI_f (t28_3), cI_t (t28_4)]⟩
    by_cases t28_5 : w = nI 5
    · skip
      refine gg_topi t28_5 ?_
      refine n_tswIn (tgt := 112) hC dX10_entry_28 rfl (by decide) (by decide) (by decide) rfl (by decide) ?_
      refine g_aload_n (pc' := 113) (j := 1) hC dX10_entry_112 rfl rfl rfl ?_
      refine gf_X10_11 (pc' := 116) hC wF_X10_25 dX10_entry_113 rfl ?_
      refine g_iload (pc' := 118) (j := 0) hC dX10_entry_116 rfl rfl ?_
      refine a_ld (pc' := 119) (k := 21) (i := 200 * (cn b) + (cn n) - 1) hC (by decide) (ct_21 g (uv σ 15 0 (nI 0))) (by omega) (by decide) dX10_entry_118 rfl ?_
      refine gg_topi (b := σ.1 21 (200 * (cn b) + (cn n) - 1)) (uv_cell _ _ _ _ (by decide)) ?_
      refine g_ret hC dX10_entry_119 rfl ?_
      exact ⟨by unfold men; rw [cI_t (c11), cI_f (t28_0), cI_f (t28_1), cI_f (t28_2), cI_f (t28_3), cI_f (t28_4), cI_t (t28_5)], by unfold men; rw [cI_t (c11), cI_f (t28_0), cI_f (t28_1), cI_f (t28_2), cI_f (t28_3), cI_f (t28_4), cI_t (t28_5)]⟩
    by_cases t28_6 : w = nI 6
    · skip
      refine gg_topi t28_6 ?_
      refine n_tswIn (tgt := 120) hC dX10_entry_28 rfl (by decide) (by decide) (by decide) rfl (by decide) ?_
      refine g_aload_n (pc' := 121) (j := 1) hC dX10_entry_120 rfl rfl rfl ?_
      refine g_iload_n (pc' := 122) (j := 2) hC dX10_entry_121 rfl rfl rfl ?_
      refine g_iload_n (pc' := 123) (j := 3) hC dX10_entry_122 rfl rfl rfl ?_
      refine f_Vi (pc' := 126) (k := 15) (st := []) hC (m_computed x.2.1 g z0 (uv σ 15 0 (nI 0)) ((cn b)) ((cn n)) (by omega) (by omega) (by omega)) k_X10_computed wM_X10_120 (by decide) (by decide) (ct_15 g (uv σ 15 0 (nI 0))) rfl rfl rfl rfl (Nat.le_of_ble_eq_true rfl) dX10_entry_123 rfl (Nat.zero_le _) (Nat.zero_le _) ?_
      refine gg_topi (b := mcomp σ (cn b) (cn n)) (by simp (disch := decide) only [mh_uv, mh_ur, mcomp_uv, rd_uv, rd_ur, uv_cell, ur_cell, uv_idx, uv_fun, rd_idx, ne_eq, not_false_eq_true]) ?_
      refine g_aload_n (pc' := 127) (j := 1) hC dX10_entry_126 rfl rfl rfl ?_
      refine gf_X10_12 (pc' := 130) hC wF_X10_28 dX10_entry_127 rfl ?_
      refine g_iload (pc' := 132) (j := 0) hC dX10_entry_130 rfl rfl ?_
      refine a_ld (pc' := 133) (k := 22) (i := 200 * (cn b) + (cn n) - 1) hC (by decide) (ct_22 g (uv σ 15 0 (nI 0))) (by omega) (by decide) dX10_entry_132 rfl ?_
      refine gg_topi (b := σ.1 22 (200 * (cn b) + (cn n) - 1)) (uv_cell _ _ _ _ (by decide)) ?_
      refine g_icmp_ne (pc' := 136) (tgt := 140) hC dX10_entry_133 (by decide) rfl (fun c133 => ?_) (fun c133 => ?_)
      · skip
        refine g_iconst (pc' := 141) (v := nI 0) hC dX10_entry_140 rfl rfl ?_
        refine g_ret hC dX10_entry_141 rfl ?_
        first | exact ⟨by unfold men; rw [cI_t (c11), cI_f (t28_0), cI_f (t28_1), cI_f (t28_2), cI_f (t28_3), cI_f (t28_4), cI_f (t28_5), cI_t (t28_6)]; exact (cI_t c133).symm, by unfold men; rw [cI_t (c11), cI_f (t28_0), cI_f (t28_1), cI_f (t28_2), cI_f (t28_3), cI_f (t28_4), cI_f (t28_5), cI_t (t28_6)]⟩ | exact ⟨by unfold men; rw [cI_t (c11), cI_f (t28_0), cI_f (t28_1), cI_f (t28_2), cI_f (t28_3), cI_f (t28_4), cI_f (t28_5), cI_t (t28_6)]; exact (cI_f c133).symm, by unfold men; rw [cI_t (c11), cI_f (t28_0), cI_f (t28_1), cI_f (t28_2), cI_f (t28_3), cI_f (t28_4), cI_f (t28_5), cI_t (t28_6)]⟩
      · skip
        refine g_iconst (pc' := 137) (v := nI 1) hC dX10_entry_136 rfl rfl ?_
        refine g_goto (tgt := 141) hC dX10_entry_137 (by decide) ?_
        refine g_ret hC dX10_entry_141 rfl ?_
        first | exact ⟨by unfold men; rw [cI_t (c11), cI_f (t28_0), cI_f (t28_1), cI_f (t28_2), cI_f (t28_3), cI_f (t28_4), cI_f (t28_5), cI_t (t28_6)]; exact (cI_t c133).symm, by unfold men; rw [cI_t (c11), cI_f (t28_0), cI_f (t28_1), cI_f (t28_2), cI_f (t28_3), cI_f (t28_4), cI_f (t28_5), cI_t (t28_6)]⟩ | exact ⟨by unfold men; rw [cI_t (c11), cI_f (t28_0), cI_f (t28_1), cI_f (t28_2), cI_f (t28_3), cI_f (t28_4), cI_f (t28_5), cI_t (t28_6)]; exact (cI_f c133).symm, by unfold men; rw [cI_t (c11), cI_f (t28_0), cI_f (t28_1), cI_f (t28_2), cI_f (t28_3), cI_f (t28_4), cI_f (t28_5), cI_t (t28_6)]⟩
    refine g_tswOut (tgt := 142) hC dX10_entry_28 (tsw_out 6 (by decide) (by intro j hj; rcases (show j = 0 ∨ j = 1 ∨ j = 2 ∨ j = 3 ∨ j = 4 ∨ j = 5 ∨ j = 6 by omega) with rfl | rfl | rfl | rfl | rfl | rfl | rfl <;> assumption)) (by decide) ?_
    refine g_aload_n (pc' := 143) (j := 1) hC dX10_entry_142 rfl rfl rfl ?_
    refine g_iconst (pc' := 144) (v := nI 2) hC dX10_entry_143 rfl rfl ?_
    refine f_Vi (pc' := 147) (k := 15) (st := []) hC (m_refuse x.2.1 g z0 (uv σ 15 0 (nI 0)) ((nI 2))) k_X10_refuse wM_X10_171 (by decide) (by decide) (ct_15 g (uv σ 15 0 (nI 0))) rfl rfl rfl rfl (Nat.le_of_ble_eq_true rfl) dX10_entry_144 rfl (Nat.zero_le _) (Nat.zero_le _) ?_
    refine g_ret hC dX10_entry_147 rfl ?_
    exact ⟨by unfold men; rw [cI_t (c11), cI_f (t28_0), cI_f (t28_1), cI_f (t28_2), cI_f (t28_3), cI_f (t28_4), cI_f (t28_5), cI_f (t28_6)], by unfold men; rw [cI_t (c11), cI_f (t28_0), cI_f (t28_1), cI_f (t28_2), cI_f (t28_3), cI_f (t28_4), cI_f (t28_5), cI_f (t28_6)]⟩
  · skip
    refine g_aload_n (pc' := 15) (j := 0) hC dX10_entry_14 rfl rfl rfl ?_
    refine g_iconst (pc' := 16) (v := nI 1) hC dX10_entry_15 rfl rfl ?_
    refine f_Vi (pc' := 19) (k := 15) (st := []) hC (m_refuse x.2.1 g z0 (uv σ 15 0 (nI 0)) ((nI 1))) k_X10_refuse wM_X10_171 (by decide) (by decide) (ct_15 g (uv σ 15 0 (nI 0))) rfl rfl rfl rfl (Nat.le_of_ble_eq_true rfl) dX10_entry_16 rfl (Nat.zero_le _) (Nat.zero_le _) ?_
    refine g_ret hC dX10_entry_19 rfl ?_
    exact ⟨by unfold men; rw [cI_f (c11)], by unfold men; rw [cI_f (c11)]⟩
set_option maxHeartbeats 4000000 in
set_option maxRecDepth 20000 in
theorem m_receipt (l : Launch) (g : Lay) (z0 : Nat) (σ : St) (c : Int32) (w : Int32) (hM : MI σ)  : CTi l yX10_receipt cX10_receipt 3 (some .int) 2 g z0 [.ref (g.2.1 15), .int c, .int w] σ (FI ((mrc σ c w).1) ((mrc σ c w).2)) := by
  refine CTi.of (by decide) (Nat.le_of_ble_eq_true rfl) ?_
  intro x hxl hxa hC
  have hC : Cx x RX10 cX10_receipt 3 (some .int) 2 g z0 := hC
  have hM0 := MI_m0 hM
  show GG x g z0 3 0 0 (Qi x g z0 (FI ((mrc σ c w).1) ((mrc σ c w).2))) σ 0 [(0, .ref (g.2.1 15)), (1, .int c), (2, .int w)] []
  refine g_aload_n (pc' := 1) (j := 0) hC dX10_receipt_0 rfl rfl rfl ?_
  refine g_iconst (pc' := 2) (v := nI 0) hC dX10_receipt_1 rfl rfl ?_
  refine pf_X10_0 (pc' := 5) hC wF_X10_66 dX10_receipt_2 rfl ?_
  refine g_aload_n (pc' := 6) (j := 0) hC dX10_receipt_5 rfl rfl rfl ?_
  refine g_iload_n (pc' := 7) (j := 1) hC dX10_receipt_6 rfl rfl rfl ?_
  refine f_Vi (pc' := 10) (k := 15) (st := []) hC (m_isClient x.2.1 g z0 (uv σ 15 0 (nI 0)) c) k_X10_isClient wM_X10_165 (by decide) (by decide) (ct_15 g (uv σ 15 0 (nI 0))) rfl rfl rfl rfl (Nat.le_of_ble_eq_true rfl) dX10_receipt_7 rfl (Nat.zero_le _) (Nat.zero_le _) ?_
  refine gg_topi (b := bI (vlt (σ.1 15 1) c)) (by simp (disch := decide) only [mh_uv, mh_ur, mcomp_uv, rd_uv, rd_ur, uv_cell, ur_cell, uv_idx, uv_fun, rd_idx, ne_eq, not_false_eq_true]) ?_
  refine b_if_ne (pc' := 13) (tgt := 19) hC dX10_receipt_10 (by decide) rfl (fun c10 => ?_) (fun c10 => ?_)
  · skip
    obtain ⟨hcN, hcL, hcM⟩ := hM.cl c10
    refine gg_lve (lv' := [(0, .ref (g.2.1 15)), (1, .int (nI (cn c))), (2, .int w)]) (by rw [← hcN]) ?_
    refine g_iload_n (pc' := 20) (j := 2) hC dX10_receipt_19 rfl rfl rfl ?_
    by_cases t20_0 : w = nI 0
    · skip
      refine gg_topi t20_0 ?_
      refine n_tswIn (tgt := 48) hC dX10_receipt_20 rfl (by decide) (by decide) (by decide) rfl (by decide) ?_
      refine g_aload_n (pc' := 49) (j := 0) hC dX10_receipt_48 rfl rfl rfl ?_
      refine gf_X10_14 (pc' := 52) hC wF_X10_34 dX10_receipt_49 rfl ?_
      refine g_iload_n (pc' := 53) (j := 1) hC dX10_receipt_52 rfl rfl rfl ?_
      refine a_ld (pc' := 54) (k := 24) (i := cn c) hC (by decide) (ct_24 g (uv σ 15 0 (nI 0))) (by omega) (by decide) dX10_receipt_53 rfl ?_
      refine gg_topi (b := σ.1 24 (cn c)) (uv_cell _ _ _ _ (by decide)) ?_
      refine g_ret hC dX10_receipt_54 rfl ?_
      exact ⟨by unfold mrc; rw [cI_t (c10), cI_t (t20_0)], by unfold mrc; rw [cI_t (c10), cI_t (t20_0)]⟩
    by_cases t20_1 : w = nI 1
    · skip
      refine gg_topi t20_1 ?_
      refine n_tswIn (tgt := 55) hC dX10_receipt_20 rfl (by decide) (by decide) (by decide) rfl (by decide) ?_
      refine g_aload_n (pc' := 56) (j := 0) hC dX10_receipt_55 rfl rfl rfl ?_
      refine g_iload_n (pc' := 57) (j := 1) hC dX10_receipt_56 rfl rfl rfl ?_
      refine f_Vi (pc' := 60) (k := 15) (st := []) hC (m_ownHash x.2.1 g z0 (uv σ 15 0 (nI 0)) ((cn c)) (by omega) (hM0.pos (by omega))) k_X10_ownHash wM_X10_139 (by decide) (by decide) (ct_15 g (uv σ 15 0 (nI 0))) rfl rfl rfl rfl (Nat.le_of_ble_eq_true rfl) dX10_receipt_57 rfl (Nat.zero_le _) (Nat.zero_le _) ?_
      refine gg_topi (b := σ.1 27 (201 * (cn c) + rd σ 24 (cn c))) (by simp (disch := decide) only [mh_uv, mh_ur, mcomp_uv, rd_uv, rd_ur, uv_cell, ur_cell, uv_idx, uv_fun, rd_idx, ne_eq, not_false_eq_true]) ?_
      refine g_ret hC dX10_receipt_60 rfl ?_
      exact ⟨by unfold mrc; rw [cI_t (c10), cI_f (t20_0), cI_t (t20_1)], by unfold mrc; rw [cI_t (c10), cI_f (t20_0), cI_t (t20_1)]⟩
    by_cases t20_2 : w = nI 2
    · skip
      refine gg_topi t20_2 ?_
      refine n_tswIn (tgt := 61) hC dX10_receipt_20 rfl (by decide) (by decide) (by decide) rfl (by decide) ?_
      refine g_iload_n (pc' := 62) (j := 1) hC dX10_receipt_61 rfl rfl rfl ?_
      refine g_aload_n (pc' := 63) (j := 0) hC dX10_receipt_62 rfl rfl rfl ?_
      refine gf_X10_14 (pc' := 66) hC wF_X10_34 dX10_receipt_63 rfl ?_
      refine g_iload_n (pc' := 67) (j := 1) hC dX10_receipt_66 rfl rfl rfl ?_
      refine a_ld (pc' := 68) (k := 24) (i := cn c) hC (by decide) (ct_24 g (uv σ 15 0 (nI 0))) (by omega) (by decide) dX10_receipt_67 rfl ?_
      refine gg_topi (b := σ.1 24 (cn c)) (uv_cell _ _ _ _ (by decide)) ?_
      refine g_aload_n (pc' := 69) (j := 0) hC dX10_receipt_68 rfl rfl rfl ?_
      refine g_iload_n (pc' := 70) (j := 1) hC dX10_receipt_69 rfl rfl rfl ?_
      refine f_Vi (pc' := 73) (k := 15) (st := [.int (σ.1 24 (cn c)), .int (nI (cn c))]) hC (m_ownHash x.2.1 g z0 (uv σ 15 0 (nI 0)) ((cn c)) (by omega) (hM0.pos (by omega))) k_X10_ownHash wM_X10_139 (by decide) (by decide) (ct_15 g (uv σ 15 0 (nI 0))) rfl rfl rfl rfl (Nat.le_of_ble_eq_true rfl) dX10_receipt_70 rfl (Nat.zero_le _) (Nat.zero_le _) ?_
      refine gg_topi (b := σ.1 27 (201 * (cn c) + rd σ 24 (cn c))) (by simp (disch := decide) only [mh_uv, mh_ur, mcomp_uv, rd_uv, rd_ur, uv_cell, ur_cell, uv_idx, uv_fun, rd_idx, ne_eq, not_false_eq_true]) ?_
      refine f_Si (pc' := 76) (st := []) hC (m_signature x.2.1 g z0 (uv σ 15 0 (nI 0)) ((nI (cn c))) ((σ.1 24 (cn c))) ((σ.1 27 (201 * (cn c) + rd σ 24 (cn c))))) k_X10_signature wM_X10_389 (by decide) rfl rfl (Nat.le_of_ble_eq_true rfl) dX10_receipt_73 rfl (Nat.zero_le _) (Nat.zero_le _) ?_
      refine g_ret hC dX10_receipt_76 rfl ?_
      exact ⟨by unfold mrc; rw [cI_t (c10), cI_f (t20_0), cI_f (t20_1), cI_t (t20_2), ← hcN], by unfold mrc; rw [cI_t (c10), cI_f (t20_0), cI_f (t20_1), cI_t (t20_2)]⟩
    refine g_tswOut (tgt := 77) hC dX10_receipt_20 (tsw_out 2 (by decide) (by intro j hj; rcases (show j = 0 ∨ j = 1 ∨ j = 2 by omega) with rfl | rfl | rfl <;> assumption)) (by decide) ?_
    refine g_aload_n (pc' := 78) (j := 0) hC dX10_receipt_77 rfl rfl rfl ?_
    refine g_iconst (pc' := 79) (v := nI 2) hC dX10_receipt_78 rfl rfl ?_
    refine f_Vi (pc' := 82) (k := 15) (st := []) hC (m_refuse x.2.1 g z0 (uv σ 15 0 (nI 0)) ((nI 2))) k_X10_refuse wM_X10_171 (by decide) (by decide) (ct_15 g (uv σ 15 0 (nI 0))) rfl rfl rfl rfl (Nat.le_of_ble_eq_true rfl) dX10_receipt_79 rfl (Nat.zero_le _) (Nat.zero_le _) ?_
    refine g_ret hC dX10_receipt_82 rfl ?_
    exact ⟨by unfold mrc; rw [cI_t (c10), cI_f (t20_0), cI_f (t20_1), cI_f (t20_2)], by unfold mrc; rw [cI_t (c10), cI_f (t20_0), cI_f (t20_1), cI_f (t20_2)]⟩
  · skip
    refine g_aload_n (pc' := 14) (j := 0) hC dX10_receipt_13 rfl rfl rfl ?_
    refine g_iconst (pc' := 15) (v := nI 1) hC dX10_receipt_14 rfl rfl ?_
    refine f_Vi (pc' := 18) (k := 15) (st := []) hC (m_refuse x.2.1 g z0 (uv σ 15 0 (nI 0)) ((nI 1))) k_X10_refuse wM_X10_171 (by decide) (by decide) (ct_15 g (uv σ 15 0 (nI 0))) rfl rfl rfl rfl (Nat.le_of_ble_eq_true rfl) dX10_receipt_15 rfl (Nat.zero_le _) (Nat.zero_le _) ?_
    refine g_ret hC dX10_receipt_18 rfl ?_
    exact ⟨by unfold mrc; rw [cI_f (c10)], by unfold mrc; rw [cI_f (c10)]⟩
set_option maxHeartbeats 4000000 in
set_option maxRecDepth 20000 in
theorem m_isSigned (l : Launch) (g : Lay) (z0 : Nat) (σ : St) (c : Int32) (n : Int32) (t : Int32) (s : Int32)   : CTi l yX10_isSigned cX10_isSigned 5 (some .boolean) 2 g z0 [.ref (g.2.1 15), .int c, .int n, .int t, .int s] σ (FI (bI (msg σ c n t s)) (m0 σ)) := by
  refine CTi.of (by decide) (Nat.le_of_ble_eq_true rfl) ?_
  intro x hxl hxa hC
  have hC : Cx x RX10 cX10_isSigned 5 (some .boolean) 2 g z0 := hC
  show GG x g z0 5 0 0 (Qi x g z0 (FI (bI (msg σ c n t s)) (m0 σ))) σ 0 [(0, .ref (g.2.1 15)), (1, .int c), (2, .int n), (3, .int t), (4, .int s)] []
  refine g_aload_n (pc' := 1) (j := 0) hC dX10_isSigned_0 rfl rfl rfl ?_
  refine g_iconst (pc' := 2) (v := nI 0) hC dX10_isSigned_1 rfl rfl ?_
  refine pf_X10_0 (pc' := 5) hC wF_X10_66 dX10_isSigned_2 rfl ?_
  refine g_aload_n (pc' := 6) (j := 0) hC dX10_isSigned_5 rfl rfl rfl ?_
  refine g_iload_n (pc' := 7) (j := 1) hC dX10_isSigned_6 rfl rfl rfl ?_
  refine f_Vi (pc' := 10) (k := 15) (st := []) hC (m_isClient x.2.1 g z0 (uv σ 15 0 (nI 0)) c) k_X10_isClient wM_X10_165 (by decide) (by decide) (ct_15 g (uv σ 15 0 (nI 0))) rfl rfl rfl rfl (Nat.le_of_ble_eq_true rfl) dX10_isSigned_7 rfl (Nat.zero_le _) (Nat.zero_le _) ?_
  refine gg_topi (b := bI (vlt (σ.1 15 1) c)) (by simp (disch := decide) only [mh_uv, mh_ur, mcomp_uv, rd_uv, rd_ur, uv_cell, ur_cell, uv_idx, uv_fun, rd_idx, ne_eq, not_false_eq_true]) ?_
  refine b_if_eq (pc' := 13) (tgt := 35) hC dX10_isSigned_10 (by decide) rfl (fun c10 => ?_) (fun c10 => ?_)
  · skip
    refine g_iconst (pc' := 36) (v := nI 0) hC dX10_isSigned_35 rfl rfl ?_
    refine g_ret hC dX10_isSigned_36 rfl ?_
    refine ⟨?_, rfl⟩; first | exact (bI_f (fun z => c10 z.1)).symm | exact (bI_f (fun z => c21 z.2.1)).symm | exact (bI_f (fun z => c32 z.2.2.1)).symm
  · skip
    refine g_iload_n (pc' := 14) (j := 2) hC dX10_isSigned_13 rfl rfl rfl ?_
    refine g_iconst (pc' := 15) (v := nI 0) hC dX10_isSigned_14 rfl rfl ?_
    refine g_sipush (pc' := 18) (v := nI 200) hC dX10_isSigned_15 rfl rfl ?_
    refine f_Si (pc' := 21) (st := []) hC (m_in x.2.1 g z0 (uv σ 15 0 (nI 0)) n ((nI 0)) ((nI 200))) k_X10_in wM_X10_72 (by decide) rfl rfl (Nat.le_of_ble_eq_true rfl) dX10_isSigned_18 rfl (Nat.zero_le _) (Nat.zero_le _) ?_
    refine b_if_eq (pc' := 24) (tgt := 35) hC dX10_isSigned_21 (by decide) rfl (fun c21 => ?_) (fun c21 => ?_)
    · skip
      refine g_iconst (pc' := 36) (v := nI 0) hC dX10_isSigned_35 rfl rfl ?_
      refine g_ret hC dX10_isSigned_36 rfl ?_
      refine ⟨?_, rfl⟩; first | exact (bI_f (fun z => c10 z.1)).symm | exact (bI_f (fun z => c21 z.2.1)).symm | exact (bI_f (fun z => c32 z.2.2.1)).symm
    · skip
      refine g_iload_n (pc' := 25) (j := 3) hC dX10_isSigned_24 rfl rfl rfl ?_
      refine g_iconst (pc' := 26) (v := nI 0) hC dX10_isSigned_25 rfl rfl ?_
      refine g_ldcw (pc' := 29) (v := 2147483646) hC wC_X10_392 dX10_isSigned_26 rfl ?_
      refine gg_topi (b := nI 2147483646) rfl ?_
      refine f_Si (pc' := 32) (st := []) hC (m_in x.2.1 g z0 (uv σ 15 0 (nI 0)) t ((nI 0)) ((nI 2147483646))) k_X10_in wM_X10_72 (by decide) rfl rfl (Nat.le_of_ble_eq_true rfl) dX10_isSigned_29 rfl (Nat.zero_le _) (Nat.zero_le _) ?_
      refine b_if_ne (pc' := 35) (tgt := 37) hC dX10_isSigned_32 (by decide) rfl (fun c32 => ?_) (fun c32 => ?_)
      · skip
        refine g_iload_n (pc' := 38) (j := 1) hC dX10_isSigned_37 rfl rfl rfl ?_
        refine g_iload_n (pc' := 39) (j := 2) hC dX10_isSigned_38 rfl rfl rfl ?_
        refine g_iload_n (pc' := 40) (j := 3) hC dX10_isSigned_39 rfl rfl rfl ?_
        refine f_Si (pc' := 43) (st := []) hC (m_signature x.2.1 g z0 (uv σ 15 0 (nI 0)) c n t) k_X10_signature wM_X10_389 (by decide) rfl rfl (Nat.le_of_ble_eq_true rfl) dX10_isSigned_40 rfl (Nat.zero_le _) (Nat.zero_le _) ?_
        refine g_iload (pc' := 45) (j := 4) hC dX10_isSigned_43 rfl rfl ?_
        refine g_icmp_ne (pc' := 48) (tgt := 52) hC dX10_isSigned_45 (by decide) rfl (fun c45 => ?_) (fun c45 => ?_)
        · skip
          refine g_iconst (pc' := 53) (v := nI 0) hC dX10_isSigned_52 rfl rfl ?_
          refine g_ret hC dX10_isSigned_53 rfl ?_
          refine ⟨?_, rfl⟩; first | exact (bI_t ⟨c10, c21, c32, c45⟩).symm | exact (bI_f (fun z => c45 z.2.2.2)).symm
        · skip
          refine g_iconst (pc' := 49) (v := nI 1) hC dX10_isSigned_48 rfl rfl ?_
          refine g_goto (tgt := 53) hC dX10_isSigned_49 (by decide) ?_
          refine g_ret hC dX10_isSigned_53 rfl ?_
          refine ⟨?_, rfl⟩; first | exact (bI_t ⟨c10, c21, c32, c45⟩).symm | exact (bI_f (fun z => c45 z.2.2.2)).symm
      · skip
        refine g_iconst (pc' := 36) (v := nI 0) hC dX10_isSigned_35 rfl rfl ?_
        refine g_ret hC dX10_isSigned_36 rfl ?_
        refine ⟨?_, rfl⟩; first | exact (bI_f (fun z => c10 z.1)).symm | exact (bI_f (fun z => c21 z.2.1)).symm | exact (bI_f (fun z => c32 z.2.2.1)).symm
set_option maxHeartbeats 4000000 in
set_option maxRecDepth 20000 in
theorem m_blame (l : Launch) (g : Lay) (z0 : Nat) (σ : St) (i : Int32) (w : Int32) (hM : MI σ)  : CTi l yX10_blame cX10_blame 3 (some .int) 1 g z0 [.ref (g.2.1 15), .int i, .int w] σ (FI ((mbm σ i w).1) ((mbm σ i w).2)) := by
  refine CTi.of (by decide) (Nat.le_of_ble_eq_true rfl) ?_
  intro x hxl hxa hC
  have hC : Cx x RX10 cX10_blame 3 (some .int) 1 g z0 := hC
  show GG x g z0 3 0 0 (Qi x g z0 (FI ((mbm σ i w).1) ((mbm σ i w).2))) σ 0 [(0, .ref (g.2.1 15)), (1, .int i), (2, .int w)] []
  refine g_aload_n (pc' := 1) (j := 0) hC dX10_blame_0 rfl rfl rfl ?_
  refine g_iconst (pc' := 2) (v := nI 0) hC dX10_blame_1 rfl rfl ?_
  refine pf_X10_0 (pc' := 5) hC wF_X10_66 dX10_blame_2 rfl ?_
  refine g_iload_n (pc' := 6) (j := 1) hC dX10_blame_5 rfl rfl rfl ?_
  refine g_iconst (pc' := 7) (v := nI 0) hC dX10_blame_6 rfl rfl ?_
  refine g_aload_n (pc' := 8) (j := 0) hC dX10_blame_7 rfl rfl rfl ?_
  refine gf_X10_22 (pc' := 11) hC wF_X10_129 dX10_blame_8 rfl ?_
  refine gg_topi (b := σ.1 15 22) (uv_idx _ _ _ _ (by decide)) ?_
  refine g_iconst (pc' := 12) (v := nI 1) hC dX10_blame_11 rfl rfl ?_
  refine g_isub (pc' := 13) hC dX10_blame_12 rfl ?_
  refine f_Si (pc' := 16) (st := []) hC (m_in x.2.1 g z0 (uv σ 15 0 (nI 0)) i ((nI 0)) (((σ.1 15 22) - (nI 1)))) k_X10_in wM_X10_72 (by decide) rfl rfl (Nat.le_of_ble_eq_true rfl) dX10_blame_13 rfl (Nat.zero_le _) (Nat.zero_le _) ?_
  refine b_if_ne (pc' := 19) (tgt := 25) hC dX10_blame_16 (by decide) rfl (fun c16 => ?_) (fun c16 => ?_)
  · skip
    have c16 : vlt (σ.1 15 22) i := c16
    refine g_iload_n (pc' := 26) (j := 2) hC dX10_blame_25 rfl rfl rfl ?_
    refine g_iconst (pc' := 27) (v := nI 0) hC dX10_blame_26 rfl rfl ?_
    refine g_iconst (pc' := 28) (v := nI 5) hC dX10_blame_27 rfl rfl ?_
    refine f_Si (pc' := 31) (st := []) hC (m_in x.2.1 g z0 (uv σ 15 0 (nI 0)) w ((nI 0)) ((nI 5))) k_X10_in wM_X10_72 (by decide) rfl rfl (Nat.le_of_ble_eq_true rfl) dX10_blame_28 rfl (Nat.zero_le _) (Nat.zero_le _) ?_
    refine b_if_ne (pc' := 34) (tgt := 40) hC dX10_blame_31 (by decide) rfl (fun c31 => ?_) (fun c31 => ?_)
    · skip
      obtain ⟨hcN, hcL, hcM⟩ := hM.bm c16
      refine gg_lve (lv' := [(0, .ref (g.2.1 15)), (1, .int (nI (cn i))), (2, .int w)]) (by rw [← hcN]) ?_
      obtain ⟨hwN, hw1, hw2⟩ := in_n (by decide) (by decide) c31.1 c31.2
      refine gg_lve (lv' := [(0, .ref (g.2.1 15)), (1, .int (nI (cn i))), (2, .int (nI (cn w)))]) (by rw [← hwN]) ?_
      refine g_aload_n (pc' := 41) (j := 0) hC dX10_blame_40 rfl rfl rfl ?_
      refine gf_X10_20 (pc' := 44) hC wF_X10_53 dX10_blame_41 rfl ?_
      refine g_bipush (pc' := 46) (v := nI 6) hC dX10_blame_44 rfl rfl ?_
      refine g_iload_n (pc' := 47) (j := 1) hC dX10_blame_46 rfl rfl rfl ?_
      refine n_imul (pc' := 48) hC dX10_blame_47 rfl ?_
      refine g_iload_n (pc' := 49) (j := 2) hC dX10_blame_48 rfl rfl rfl ?_
      refine n_iadd (pc' := 50) hC dX10_blame_49 rfl ?_
      refine a_ld (pc' := 51) (k := 30) (i := (6 * (cn i)) + (cn w)) hC (by decide) (ct_30 g (uv σ 15 0 (nI 0))) (by omega) (by decide) dX10_blame_50 rfl ?_
      refine gg_topi (b := σ.1 30 ((6 * (cn i)) + (cn w))) (uv_cell _ _ _ _ (by decide)) ?_
      refine g_ret hC dX10_blame_51 rfl ?_
      exact ⟨by unfold mbm; rw [cI_t (c16), cI_t (c31)], by unfold mbm; rw [cI_t (c16), cI_t (c31)]⟩
    · skip
      refine g_aload_n (pc' := 35) (j := 0) hC dX10_blame_34 rfl rfl rfl ?_
      refine g_iconst (pc' := 36) (v := nI 2) hC dX10_blame_35 rfl rfl ?_
      refine f_Vi (pc' := 39) (k := 15) (st := []) hC (m_refuse x.2.1 g z0 (uv σ 15 0 (nI 0)) ((nI 2))) k_X10_refuse wM_X10_171 (by decide) (by decide) (ct_15 g (uv σ 15 0 (nI 0))) rfl rfl rfl rfl (Nat.le_of_ble_eq_true rfl) dX10_blame_36 rfl (Nat.zero_le _) (Nat.zero_le _) ?_
      refine g_ret hC dX10_blame_39 rfl ?_
      exact ⟨by unfold mbm; rw [cI_t (c16), cI_f (c31)], by unfold mbm; rw [cI_t (c16), cI_f (c31)]⟩
  · skip
    have c16 : ¬ vlt (σ.1 15 22) i := c16
    refine g_aload_n (pc' := 20) (j := 0) hC dX10_blame_19 rfl rfl rfl ?_
    refine g_iconst (pc' := 21) (v := nI 1) hC dX10_blame_20 rfl rfl ?_
    refine f_Vi (pc' := 24) (k := 15) (st := []) hC (m_refuse x.2.1 g z0 (uv σ 15 0 (nI 0)) ((nI 1))) k_X10_refuse wM_X10_171 (by decide) (by decide) (ct_15 g (uv σ 15 0 (nI 0))) rfl rfl rfl rfl (Nat.le_of_ble_eq_true rfl) dX10_blame_21 rfl (Nat.zero_le _) (Nat.zero_le _) ?_
    refine g_ret hC dX10_blame_24 rfl ?_
    exact ⟨by unfold mbm; rw [cI_f (c16)], by unfold mbm; rw [cI_f (c16)]⟩
set_option maxHeartbeats 4000000 in
set_option maxRecDepth 20000 in
theorem m_boardPost (l : Launch) (g : Lay) (z0 : Nat) (σ : St) (i : Int32) (w : Int32) (hM : MI σ)  : CTi l yX10_boardPost cX10_boardPost 3 (some .int) 1 g z0 [.ref (g.2.1 15), .int i, .int w] σ (FI ((mbp σ i w).1) ((mbp σ i w).2)) := by
  refine CTi.of (by decide) (Nat.le_of_ble_eq_true rfl) ?_
  intro x hxl hxa hC
  have hC : Cx x RX10 cX10_boardPost 3 (some .int) 1 g z0 := hC
  show GG x g z0 3 0 0 (Qi x g z0 (FI ((mbp σ i w).1) ((mbp σ i w).2))) σ 0 [(0, .ref (g.2.1 15)), (1, .int i), (2, .int w)] []
  refine g_aload_n (pc' := 1) (j := 0) hC dX10_boardPost_0 rfl rfl rfl ?_
  refine g_iconst (pc' := 2) (v := nI 0) hC dX10_boardPost_1 rfl rfl ?_
  refine pf_X10_0 (pc' := 5) hC wF_X10_66 dX10_boardPost_2 rfl ?_
  refine g_iload_n (pc' := 6) (j := 1) hC dX10_boardPost_5 rfl rfl rfl ?_
  refine g_iconst (pc' := 7) (v := nI 0) hC dX10_boardPost_6 rfl rfl ?_
  refine g_aload_n (pc' := 8) (j := 0) hC dX10_boardPost_7 rfl rfl rfl ?_
  refine gf_X10_21 (pc' := 11) hC wF_X10_126 dX10_boardPost_8 rfl ?_
  refine gg_topi (b := σ.1 15 21) (uv_idx _ _ _ _ (by decide)) ?_
  refine g_iconst (pc' := 12) (v := nI 1) hC dX10_boardPost_11 rfl rfl ?_
  refine g_isub (pc' := 13) hC dX10_boardPost_12 rfl ?_
  refine f_Si (pc' := 16) (st := []) hC (m_in x.2.1 g z0 (uv σ 15 0 (nI 0)) i ((nI 0)) (((σ.1 15 21) - (nI 1)))) k_X10_in wM_X10_72 (by decide) rfl rfl (Nat.le_of_ble_eq_true rfl) dX10_boardPost_13 rfl (Nat.zero_le _) (Nat.zero_le _) ?_
  refine b_if_ne (pc' := 19) (tgt := 25) hC dX10_boardPost_16 (by decide) rfl (fun c16 => ?_) (fun c16 => ?_)
  · skip
    have c16 : vlt (σ.1 15 21) i := c16
    refine g_iload_n (pc' := 26) (j := 2) hC dX10_boardPost_25 rfl rfl rfl ?_
    refine g_iconst (pc' := 27) (v := nI 0) hC dX10_boardPost_26 rfl rfl ?_
    refine g_iconst (pc' := 28) (v := nI 3) hC dX10_boardPost_27 rfl rfl ?_
    refine f_Si (pc' := 31) (st := []) hC (m_in x.2.1 g z0 (uv σ 15 0 (nI 0)) w ((nI 0)) ((nI 3))) k_X10_in wM_X10_72 (by decide) rfl rfl (Nat.le_of_ble_eq_true rfl) dX10_boardPost_28 rfl (Nat.zero_le _) (Nat.zero_le _) ?_
    refine b_if_ne (pc' := 34) (tgt := 40) hC dX10_boardPost_31 (by decide) rfl (fun c31 => ?_) (fun c31 => ?_)
    · skip
      obtain ⟨hcN, hcL, hcM⟩ := hM.bp c16
      refine gg_lve (lv' := [(0, .ref (g.2.1 15)), (1, .int (nI (cn i))), (2, .int w)]) (by rw [← hcN]) ?_
      obtain ⟨hwN, hw1, hw2⟩ := in_n (by decide) (by decide) c31.1 c31.2
      refine gg_lve (lv' := [(0, .ref (g.2.1 15)), (1, .int (nI (cn i))), (2, .int (nI (cn w)))]) (by rw [← hwN]) ?_
      refine g_aload_n (pc' := 41) (j := 0) hC dX10_boardPost_40 rfl rfl rfl ?_
      refine gf_X10_19 (pc' := 44) hC wF_X10_50 dX10_boardPost_41 rfl ?_
      refine g_iconst (pc' := 45) (v := nI 4) hC dX10_boardPost_44 rfl rfl ?_
      refine g_iload_n (pc' := 46) (j := 1) hC dX10_boardPost_45 rfl rfl rfl ?_
      refine n_imul (pc' := 47) hC dX10_boardPost_46 rfl ?_
      refine g_iload_n (pc' := 48) (j := 2) hC dX10_boardPost_47 rfl rfl rfl ?_
      refine n_iadd (pc' := 49) hC dX10_boardPost_48 rfl ?_
      refine a_ld (pc' := 50) (k := 29) (i := (4 * (cn i)) + (cn w)) hC (by decide) (ct_29 g (uv σ 15 0 (nI 0))) (by omega) (by decide) dX10_boardPost_49 rfl ?_
      refine gg_topi (b := σ.1 29 ((4 * (cn i)) + (cn w))) (uv_cell _ _ _ _ (by decide)) ?_
      refine g_ret hC dX10_boardPost_50 rfl ?_
      exact ⟨by unfold mbp; rw [cI_t (c16), cI_t (c31)], by unfold mbp; rw [cI_t (c16), cI_t (c31)]⟩
    · skip
      refine g_aload_n (pc' := 35) (j := 0) hC dX10_boardPost_34 rfl rfl rfl ?_
      refine g_iconst (pc' := 36) (v := nI 2) hC dX10_boardPost_35 rfl rfl ?_
      refine f_Vi (pc' := 39) (k := 15) (st := []) hC (m_refuse x.2.1 g z0 (uv σ 15 0 (nI 0)) ((nI 2))) k_X10_refuse wM_X10_171 (by decide) (by decide) (ct_15 g (uv σ 15 0 (nI 0))) rfl rfl rfl rfl (Nat.le_of_ble_eq_true rfl) dX10_boardPost_36 rfl (Nat.zero_le _) (Nat.zero_le _) ?_
      refine g_ret hC dX10_boardPost_39 rfl ?_
      exact ⟨by unfold mbp; rw [cI_t (c16), cI_f (c31)], by unfold mbp; rw [cI_t (c16), cI_f (c31)]⟩
  · skip
    have c16 : ¬ vlt (σ.1 15 21) i := c16
    refine g_aload_n (pc' := 20) (j := 0) hC dX10_boardPost_19 rfl rfl rfl ?_
    refine g_iconst (pc' := 21) (v := nI 1) hC dX10_boardPost_20 rfl rfl ?_
    refine f_Vi (pc' := 24) (k := 15) (st := []) hC (m_refuse x.2.1 g z0 (uv σ 15 0 (nI 0)) ((nI 1))) k_X10_refuse wM_X10_171 (by decide) (by decide) (ct_15 g (uv σ 15 0 (nI 0))) rfl rfl rfl rfl (Nat.le_of_ble_eq_true rfl) dX10_boardPost_21 rfl (Nat.zero_le _) (Nat.zero_le _) ?_
    refine g_ret hC dX10_boardPost_24 rfl ?_
    exact ⟨by unfold mbp; rw [cI_f (c16)], by unfold mbp; rw [cI_f (c16)]⟩
set_option maxHeartbeats 4000000 in
set_option maxRecDepth 20000 in
theorem m_checkPost (l : Launch) (g : Lay) (z0 : Nat) (σ : St) (c : Int32) (i : Int32) (hM : MI σ)  : CTi l yX10_checkPost cX10_checkPost 4 (some .int) 2 g z0 [.ref (g.2.1 15), .int c, .int i] σ (FI ((mcp' σ c i).1) ((mcp' σ c i).2)) := by
  refine CTi.of (by decide) (Nat.le_of_ble_eq_true rfl) ?_
  intro x hxl hxa hC
  have hC : Cx x RX10 cX10_checkPost 4 (some .int) 2 g z0 := hC
  show GG x g z0 4 0 0 (Qi x g z0 (FI ((mcp' σ c i).1) ((mcp' σ c i).2))) σ 0 [(0, .ref (g.2.1 15)), (1, .int c), (2, .int i)] []
  refine g_aload_n (pc' := 1) (j := 0) hC dX10_checkPost_0 rfl rfl rfl ?_
  refine g_iconst (pc' := 2) (v := nI 0) hC dX10_checkPost_1 rfl rfl ?_
  refine pf_X10_0 (pc' := 5) hC wF_X10_66 dX10_checkPost_2 rfl ?_
  refine g_aload_n (pc' := 6) (j := 0) hC dX10_checkPost_5 rfl rfl rfl ?_
  refine g_iload_n (pc' := 7) (j := 1) hC dX10_checkPost_6 rfl rfl rfl ?_
  refine f_Vi (pc' := 10) (k := 15) (st := []) hC (m_isClient x.2.1 g z0 (uv σ 15 0 (nI 0)) c) k_X10_isClient wM_X10_165 (by decide) (by decide) (ct_15 g (uv σ 15 0 (nI 0))) rfl rfl rfl rfl (Nat.le_of_ble_eq_true rfl) dX10_checkPost_7 rfl (Nat.zero_le _) (Nat.zero_le _) ?_
  refine gg_topi (b := bI (vlt (σ.1 15 1) c)) (by simp (disch := decide) only [mh_uv, mh_ur, mcomp_uv, rd_uv, rd_ur, uv_cell, ur_cell, uv_idx, uv_fun, rd_idx, ne_eq, not_false_eq_true]) ?_
  refine b_if_eq (pc' := 13) (tgt := 27) hC dX10_checkPost_10 (by decide) rfl (fun c10 => ?_) (fun c10 => ?_)
  · skip
    refine g_aload_n (pc' := 28) (j := 0) hC dX10_checkPost_27 rfl rfl rfl ?_
    refine g_iconst (pc' := 29) (v := nI 1) hC dX10_checkPost_28 rfl rfl ?_
    refine f_Vi (pc' := 32) (k := 15) (st := []) hC (m_refuse x.2.1 g z0 (uv σ 15 0 (nI 0)) ((nI 1))) k_X10_refuse wM_X10_171 (by decide) (by decide) (ct_15 g (uv σ 15 0 (nI 0))) rfl rfl rfl rfl (Nat.le_of_ble_eq_true rfl) dX10_checkPost_29 rfl (Nat.zero_le _) (Nat.zero_le _) ?_
    refine g_ret hC dX10_checkPost_32 rfl ?_
    first | exact ⟨by unfold mcp'; rw [cI_f (fun z => c10 z.1)], by unfold mcp'; rw [cI_f (fun z => c10 z.1)]⟩ | exact ⟨by unfold mcp'; rw [cI_f (fun z => c24 z.2)], by unfold mcp'; rw [cI_f (fun z => c24 z.2)]⟩
  · skip
    refine g_iload_n (pc' := 14) (j := 2) hC dX10_checkPost_13 rfl rfl rfl ?_
    refine g_iconst (pc' := 15) (v := nI 0) hC dX10_checkPost_14 rfl rfl ?_
    refine g_aload_n (pc' := 16) (j := 0) hC dX10_checkPost_15 rfl rfl rfl ?_
    refine gf_X10_21 (pc' := 19) hC wF_X10_126 dX10_checkPost_16 rfl ?_
    refine gg_topi (b := σ.1 15 21) (uv_idx _ _ _ _ (by decide)) ?_
    refine g_iconst (pc' := 20) (v := nI 1) hC dX10_checkPost_19 rfl rfl ?_
    refine g_isub (pc' := 21) hC dX10_checkPost_20 rfl ?_
    refine f_Si (pc' := 24) (st := []) hC (m_in x.2.1 g z0 (uv σ 15 0 (nI 0)) i ((nI 0)) (((σ.1 15 21) - (nI 1)))) k_X10_in wM_X10_72 (by decide) rfl rfl (Nat.le_of_ble_eq_true rfl) dX10_checkPost_21 rfl (Nat.zero_le _) (Nat.zero_le _) ?_
    refine b_if_ne (pc' := 27) (tgt := 33) hC dX10_checkPost_24 (by decide) rfl (fun c24 => ?_) (fun c24 => ?_)
    · skip
      have c24 : vlt (σ.1 15 21) i := c24
      obtain ⟨hcN, hcL, hcM⟩ := hM.cl c10
      refine gg_lve (lv' := [(0, .ref (g.2.1 15)), (1, .int (nI (cn c))), (2, .int i)]) (by rw [← hcN]) ?_
      obtain ⟨hdN, hdL, hdM⟩ := hM.bp c24
      have hx1 := (hM.pps (k := cn i) (by omega)).2
      have hx2 := (hM.pos (c := cn c) (by omega)).2
      refine gg_lve (lv' := [(0, .ref (g.2.1 15)), (1, .int (nI (cn c))), (2, .int (nI (cn i)))]) (by rw [← hdN]) ?_
      refine g_aload_n (pc' := 34) (j := 0) hC dX10_checkPost_33 rfl rfl rfl ?_
      refine gf_X10_19 (pc' := 37) hC wF_X10_50 dX10_checkPost_34 rfl ?_
      refine g_iconst (pc' := 38) (v := nI 4) hC dX10_checkPost_37 rfl rfl ?_
      refine g_iload_n (pc' := 39) (j := 2) hC dX10_checkPost_38 rfl rfl rfl ?_
      refine n_imul (pc' := 40) hC dX10_checkPost_39 rfl ?_
      refine g_iconst (pc' := 41) (v := nI 1) hC dX10_checkPost_40 rfl rfl ?_
      refine n_iadd (pc' := 42) hC dX10_checkPost_41 rfl ?_
      refine a_ld (pc' := 43) (k := 29) (i := (4 * (cn i)) + 1) hC (by decide) (ct_29 g (uv σ 15 0 (nI 0))) (by omega) (by decide) dX10_checkPost_42 rfl ?_
      refine gg_topi (b := nI (rd σ 29 (4 * cn i + 1))) ((uv_cell _ _ _ _ (by decide)).trans ((hM.pps (by omega)).1)) ?_
      refine g_istore_n (pc' := 44) (lv' := [(3, .int (nI (rd σ 29 (4 * cn i + 1)))), (0, .ref (g.2.1 15)), (1, .int (nI (cn c))), (2, .int (nI (cn i)))]) hC dX10_checkPost_43 rfl rfl (by decide) rfl ?_
      refine g_aload_n (pc' := 45) (j := 1) hC dX10_checkPost_44 rfl rfl rfl ?_
      refine gf_X10_14 (pc' := 48) hC wF_X10_34 dX10_checkPost_45 rfl ?_
      refine g_iload_n (pc' := 49) (j := 2) hC dX10_checkPost_48 rfl rfl rfl ?_
      refine a_ld (pc' := 50) (k := 24) (i := cn c) hC (by decide) (ct_24 g (uv σ 15 0 (nI 0))) (by omega) (by decide) dX10_checkPost_49 rfl ?_
      refine gg_topi (b := nI (rd σ 24 (cn c))) ((uv_cell _ _ _ _ (by decide)).trans ((hM.pos (by omega)).1)) ?_
      refine g_iload_n (pc' := 51) (j := 0) hC dX10_checkPost_50 rfl rfl rfl ?_
      refine n_icmp_ge (pc' := 54) (tgt := 56) hC dX10_checkPost_51 (by decide) rfl (by omega) (by omega) (fun c51 => ?_) (fun c51 => ?_)
      · skip
        refine g_aload_n (pc' := 57) (j := 1) hC dX10_checkPost_56 rfl rfl rfl ?_
        refine g_iload_n (pc' := 58) (j := 2) hC dX10_checkPost_57 rfl rfl rfl ?_
        refine g_iload_n (pc' := 59) (j := 0) hC dX10_checkPost_58 rfl rfl rfl ?_
        refine f_Vi (pc' := 62) (k := 15) (st := []) hC (m_hashIn x.2.1 g z0 (uv σ 15 0 (nI 0)) ((cn c)) ((rd σ 29 (4 * cn i + 1))) (by omega) (by omega)) k_X10_hashIn wM_X10_90 (by decide) (by decide) (ct_15 g (uv σ 15 0 (nI 0))) rfl rfl rfl rfl (Nat.le_of_ble_eq_true rfl) dX10_checkPost_59 rfl (Nat.zero_le _) (Nat.zero_le _) ?_
        refine gg_topi (b := σ.1 27 (201 * (cn c) + (rd σ 29 (4 * cn i + 1)))) (by simp (disch := decide) only [mh_uv, mh_ur, mcomp_uv, rd_uv, rd_ur, uv_cell, ur_cell, uv_idx, uv_fun, rd_idx, ne_eq, not_false_eq_true]) ?_
        refine g_aload_n (pc' := 63) (j := 1) hC dX10_checkPost_62 rfl rfl rfl ?_
        refine gf_X10_19 (pc' := 66) hC wF_X10_50 dX10_checkPost_63 rfl ?_
        refine g_iconst (pc' := 67) (v := nI 4) hC dX10_checkPost_66 rfl rfl ?_
        refine g_iload_n (pc' := 68) (j := 3) hC dX10_checkPost_67 rfl rfl rfl ?_
        refine n_imul (pc' := 69) hC dX10_checkPost_68 rfl ?_
        refine g_iconst (pc' := 70) (v := nI 2) hC dX10_checkPost_69 rfl rfl ?_
        refine n_iadd (pc' := 71) hC dX10_checkPost_70 rfl ?_
        refine a_ld (pc' := 72) (k := 29) (i := (4 * (cn i)) + 2) hC (by decide) (ct_29 g (uv σ 15 0 (nI 0))) (by omega) (by decide) dX10_checkPost_71 rfl ?_
        refine gg_topi (b := σ.1 29 ((4 * (cn i)) + 2)) (uv_cell _ _ _ _ (by decide)) ?_
        refine g_icmp_ne (pc' := 75) (tgt := 79) hC dX10_checkPost_72 (by decide) rfl (fun c72 => ?_) (fun c72 => ?_)
        · skip
          refine g_iconst (pc' := 80) (v := nI 1) hC dX10_checkPost_79 rfl rfl ?_
          refine g_ret hC dX10_checkPost_80 rfl ?_
          first | exact ⟨by unfold mcp'; rw [cI_t (⟨c10, c24⟩), cI_f (Nat.not_lt.mpr c51), cI_t (c72)], by unfold mcp'; rw [cI_t (⟨c10, c24⟩), cI_f (Nat.not_lt.mpr c51), cI_t (c72)]⟩ | exact ⟨by unfold mcp'; rw [cI_t (⟨c10, c24⟩), cI_f (Nat.not_lt.mpr c51), cI_f (c72)], by unfold mcp'; rw [cI_t (⟨c10, c24⟩), cI_f (Nat.not_lt.mpr c51), cI_f (c72)]⟩
        · skip
          refine g_iconst (pc' := 76) (v := nI 0) hC dX10_checkPost_75 rfl rfl ?_
          refine g_goto (tgt := 80) hC dX10_checkPost_76 (by decide) ?_
          refine g_ret hC dX10_checkPost_80 rfl ?_
          first | exact ⟨by unfold mcp'; rw [cI_t (⟨c10, c24⟩), cI_f (Nat.not_lt.mpr c51), cI_t (c72)], by unfold mcp'; rw [cI_t (⟨c10, c24⟩), cI_f (Nat.not_lt.mpr c51), cI_t (c72)]⟩ | exact ⟨by unfold mcp'; rw [cI_t (⟨c10, c24⟩), cI_f (Nat.not_lt.mpr c51), cI_f (c72)], by unfold mcp'; rw [cI_t (⟨c10, c24⟩), cI_f (Nat.not_lt.mpr c51), cI_f (c72)]⟩
      · skip
        refine g_iconst (pc' := 55) (v := nI 2) hC dX10_checkPost_54 rfl rfl ?_
        refine g_ret hC dX10_checkPost_55 rfl ?_
        exact ⟨by unfold mcp'; rw [cI_t (⟨c10, c24⟩), cI_t (c51)], by unfold mcp'; rw [cI_t (⟨c10, c24⟩), cI_t (c51)]⟩
    · skip
      have c24 : ¬ vlt (σ.1 15 21) i := c24
      refine g_aload_n (pc' := 28) (j := 0) hC dX10_checkPost_27 rfl rfl rfl ?_
      refine g_iconst (pc' := 29) (v := nI 1) hC dX10_checkPost_28 rfl rfl ?_
      refine f_Vi (pc' := 32) (k := 15) (st := []) hC (m_refuse x.2.1 g z0 (uv σ 15 0 (nI 0)) ((nI 1))) k_X10_refuse wM_X10_171 (by decide) (by decide) (ct_15 g (uv σ 15 0 (nI 0))) rfl rfl rfl rfl (Nat.le_of_ble_eq_true rfl) dX10_checkPost_29 rfl (Nat.zero_le _) (Nat.zero_le _) ?_
      refine g_ret hC dX10_checkPost_32 rfl ?_
      first | exact ⟨by unfold mcp'; rw [cI_f (fun z => c10 z.1)], by unfold mcp'; rw [cI_f (fun z => c10 z.1)]⟩ | exact ⟨by unfold mcp'; rw [cI_f (fun z => c24 z.2)], by unfold mcp'; rw [cI_f (fun z => c24 z.2)]⟩
set_option maxHeartbeats 4000000 in
set_option maxRecDepth 20000 in
theorem m_clients (l : Launch) (g : Lay) (z0 : Nat) (σ : St)    : CTi l yX10_clients cX10_clients 1 (some .int) 1 g z0 [.ref (g.2.1 15)] σ (FI (σ.1 15 1) (m0 σ)) := by
  refine CTi.of (by decide) (Nat.le_of_ble_eq_true rfl) ?_
  intro x hxl hxa hC
  have hC : Cx x RX10 cX10_clients 1 (some .int) 1 g z0 := hC
  show GG x g z0 1 0 0 (Qi x g z0 (FI (σ.1 15 1) (m0 σ))) σ 0 [(0, .ref (g.2.1 15))] []
  refine g_aload_n (pc' := 1) (j := 0) hC dX10_clients_0 rfl rfl rfl ?_
  refine g_aload_n (pc' := 2) (j := 0) hC dX10_clients_1 rfl rfl rfl ?_
  refine gf_X10_1 (pc' := 5) hC wF_X10_69 dX10_clients_2 rfl ?_
  refine f_Vi (pc' := 8) (k := 15) (st := []) hC (m_told x.2.1 g z0 σ ((σ.1 15 1))) k_X10_told wM_X10_228 (by decide) (by decide) (ct_15 g σ) rfl rfl rfl rfl (Nat.le_of_ble_eq_true rfl) dX10_clients_5 rfl (Nat.zero_le _) (Nat.zero_le _) ?_
  refine g_ret hC dX10_clients_8 rfl ?_
  exact ⟨rfl, rfl⟩
set_option maxHeartbeats 4000000 in
set_option maxRecDepth 20000 in
theorem m_blocks (l : Launch) (g : Lay) (z0 : Nat) (σ : St)    : CTi l yX10_blocks cX10_blocks 1 (some .int) 1 g z0 [.ref (g.2.1 15)] σ (FI (σ.1 15 2) (m0 σ)) := by
  refine CTi.of (by decide) (Nat.le_of_ble_eq_true rfl) ?_
  intro x hxl hxa hC
  have hC : Cx x RX10 cX10_blocks 1 (some .int) 1 g z0 := hC
  show GG x g z0 1 0 0 (Qi x g z0 (FI (σ.1 15 2) (m0 σ))) σ 0 [(0, .ref (g.2.1 15))] []
  refine g_aload_n (pc' := 1) (j := 0) hC dX10_blocks_0 rfl rfl rfl ?_
  refine g_aload_n (pc' := 2) (j := 0) hC dX10_blocks_1 rfl rfl rfl ?_
  refine gf_X10_2 (pc' := 5) hC wF_X10_76 dX10_blocks_2 rfl ?_
  refine f_Vi (pc' := 8) (k := 15) (st := []) hC (m_told x.2.1 g z0 σ ((σ.1 15 2))) k_X10_told wM_X10_228 (by decide) (by decide) (ct_15 g σ) rfl rfl rfl rfl (Nat.le_of_ble_eq_true rfl) dX10_blocks_5 rfl (Nat.zero_le _) (Nat.zero_le _) ?_
  refine g_ret hC dX10_blocks_8 rfl ?_
  exact ⟨rfl, rfl⟩
set_option maxHeartbeats 4000000 in
set_option maxRecDepth 20000 in
theorem m_branches (l : Launch) (g : Lay) (z0 : Nat) (σ : St)    : CTi l yX10_branches cX10_branches 1 (some .int) 1 g z0 [.ref (g.2.1 15)] σ (FI (σ.1 15 4) (m0 σ)) := by
  refine CTi.of (by decide) (Nat.le_of_ble_eq_true rfl) ?_
  intro x hxl hxa hC
  have hC : Cx x RX10 cX10_branches 1 (some .int) 1 g z0 := hC
  show GG x g z0 1 0 0 (Qi x g z0 (FI (σ.1 15 4) (m0 σ))) σ 0 [(0, .ref (g.2.1 15))] []
  refine g_aload_n (pc' := 1) (j := 0) hC dX10_branches_0 rfl rfl rfl ?_
  refine g_aload_n (pc' := 2) (j := 0) hC dX10_branches_1 rfl rfl rfl ?_
  refine gf_X10_4 (pc' := 5) hC wF_X10_79 dX10_branches_2 rfl ?_
  refine f_Vi (pc' := 8) (k := 15) (st := []) hC (m_told x.2.1 g z0 σ ((σ.1 15 4))) k_X10_told wM_X10_228 (by decide) (by decide) (ct_15 g σ) rfl rfl rfl rfl (Nat.le_of_ble_eq_true rfl) dX10_branches_5 rfl (Nat.zero_le _) (Nat.zero_le _) ?_
  refine g_ret hC dX10_branches_8 rfl ?_
  exact ⟨rfl, rfl⟩
set_option maxHeartbeats 4000000 in
set_option maxRecDepth 20000 in
theorem m_blames_ (l : Launch) (g : Lay) (z0 : Nat) (σ : St)    : CTi l yX10_blames_ cX10_blames_ 1 (some .int) 1 g z0 [.ref (g.2.1 15)] σ (FI (σ.1 15 22) (m0 σ)) := by
  refine CTi.of (by decide) (Nat.le_of_ble_eq_true rfl) ?_
  intro x hxl hxa hC
  have hC : Cx x RX10 cX10_blames_ 1 (some .int) 1 g z0 := hC
  show GG x g z0 1 0 0 (Qi x g z0 (FI (σ.1 15 22) (m0 σ))) σ 0 [(0, .ref (g.2.1 15))] []
  refine g_aload_n (pc' := 1) (j := 0) hC dX10_blames__0 rfl rfl rfl ?_
  refine g_aload_n (pc' := 2) (j := 0) hC dX10_blames__1 rfl rfl rfl ?_
  refine gf_X10_22 (pc' := 5) hC wF_X10_129 dX10_blames__2 rfl ?_
  refine f_Vi (pc' := 8) (k := 15) (st := []) hC (m_told x.2.1 g z0 σ ((σ.1 15 22))) k_X10_told wM_X10_228 (by decide) (by decide) (ct_15 g σ) rfl rfl rfl rfl (Nat.le_of_ble_eq_true rfl) dX10_blames__5 rfl (Nat.zero_le _) (Nat.zero_le _) ?_
  refine g_ret hC dX10_blames__8 rfl ?_
  exact ⟨rfl, rfl⟩
set_option maxHeartbeats 4000000 in
set_option maxRecDepth 20000 in
theorem m_posts (l : Launch) (g : Lay) (z0 : Nat) (σ : St)    : CTi l yX10_posts cX10_posts 1 (some .int) 1 g z0 [.ref (g.2.1 15)] σ (FI (σ.1 15 21) (m0 σ)) := by
  refine CTi.of (by decide) (Nat.le_of_ble_eq_true rfl) ?_
  intro x hxl hxa hC
  have hC : Cx x RX10 cX10_posts 1 (some .int) 1 g z0 := hC
  show GG x g z0 1 0 0 (Qi x g z0 (FI (σ.1 15 21) (m0 σ))) σ 0 [(0, .ref (g.2.1 15))] []
  refine g_aload_n (pc' := 1) (j := 0) hC dX10_posts_0 rfl rfl rfl ?_
  refine g_aload_n (pc' := 2) (j := 0) hC dX10_posts_1 rfl rfl rfl ?_
  refine gf_X10_21 (pc' := 5) hC wF_X10_126 dX10_posts_2 rfl ?_
  refine f_Vi (pc' := 8) (k := 15) (st := []) hC (m_told x.2.1 g z0 σ ((σ.1 15 21))) k_X10_told wM_X10_228 (by decide) (by decide) (ct_15 g σ) rfl rfl rfl rfl (Nat.le_of_ble_eq_true rfl) dX10_posts_5 rfl (Nat.zero_le _) (Nat.zero_le _) ?_
  refine g_ret hC dX10_posts_8 rfl ?_
  exact ⟨rfl, rfl⟩
set_option maxHeartbeats 4000000 in
set_option maxRecDepth 20000 in
theorem m_errorCode (l : Launch) (g : Lay) (z0 : Nat) (σ : St)    : CTi l yX10_errorCode cX10_errorCode 1 (some .int) 1 g z0 [.ref (g.2.1 15)] σ (FI (σ.1 15 32) (m0 σ)) := by
  refine CTi.of (by decide) (Nat.le_of_ble_eq_true rfl) ?_
  intro x hxl hxa hC
  have hC : Cx x RX10 cX10_errorCode 1 (some .int) 1 g z0 := hC
  show GG x g z0 1 0 0 (Qi x g z0 (FI (σ.1 15 32) (m0 σ))) σ 0 [(0, .ref (g.2.1 15))] []
  refine g_aload_n (pc' := 1) (j := 0) hC dX10_errorCode_0 rfl rfl rfl ?_
  refine g_aload_n (pc' := 2) (j := 0) hC dX10_errorCode_1 rfl rfl rfl ?_
  refine gf_X10_32 (pc' := 5) hC wF_X10_225 dX10_errorCode_2 rfl ?_
  refine f_Vi (pc' := 8) (k := 15) (st := []) hC (m_told x.2.1 g z0 σ ((σ.1 15 32))) k_X10_told wM_X10_228 (by decide) (by decide) (ct_15 g σ) rfl rfl rfl rfl (Nat.le_of_ble_eq_true rfl) dX10_errorCode_5 rfl (Nat.zero_le _) (Nat.zero_le _) ?_
  refine g_ret hC dX10_errorCode_8 rfl ?_
  exact ⟨rfl, rfl⟩
set_option maxHeartbeats 4000000 in
set_option maxRecDepth 20000 in
theorem m_errorPosition (l : Launch) (g : Lay) (z0 : Nat) (σ : St)    : CTi l yX10_errorPosition cX10_errorPosition 1 (some .int) 1 g z0 [.ref (g.2.1 15)] σ (FI (σ.1 15 33) (m0 σ)) := by
  refine CTi.of (by decide) (Nat.le_of_ble_eq_true rfl) ?_
  intro x hxl hxa hC
  have hC : Cx x RX10 cX10_errorPosition 1 (some .int) 1 g z0 := hC
  show GG x g z0 1 0 0 (Qi x g z0 (FI (σ.1 15 33) (m0 σ))) σ 0 [(0, .ref (g.2.1 15))] []
  refine g_aload_n (pc' := 1) (j := 0) hC dX10_errorPosition_0 rfl rfl rfl ?_
  refine g_aload_n (pc' := 2) (j := 0) hC dX10_errorPosition_1 rfl rfl rfl ?_
  refine gf_X10_33 (pc' := 5) hC wF_X10_59 dX10_errorPosition_2 rfl ?_
  refine f_Vi (pc' := 8) (k := 15) (st := []) hC (m_told x.2.1 g z0 σ ((σ.1 15 33))) k_X10_told wM_X10_228 (by decide) (by decide) (ct_15 g σ) rfl rfl rfl rfl (Nat.le_of_ble_eq_true rfl) dX10_errorPosition_5 rfl (Nat.zero_le _) (Nat.zero_le _) ?_
  refine g_ret hC dX10_errorPosition_8 rfl ?_
  exact ⟨rfl, rfl⟩
set_option maxHeartbeats 4000000 in
set_option maxRecDepth 20000 in
theorem m_refused (l : Launch) (g : Lay) (z0 : Nat) (σ : St)    : CTi l yX10_refused cX10_refused 1 (some .int) 1 g z0 [.ref (g.2.1 15)] σ (FI (σ.1 15 5) (m0 σ)) := by
  refine CTi.of (by decide) (Nat.le_of_ble_eq_true rfl) ?_
  intro x hxl hxa hC
  have hC : Cx x RX10 cX10_refused 1 (some .int) 1 g z0 := hC
  show GG x g z0 1 0 0 (Qi x g z0 (FI (σ.1 15 5) (m0 σ))) σ 0 [(0, .ref (g.2.1 15))] []
  refine g_aload_n (pc' := 1) (j := 0) hC dX10_refused_0 rfl rfl rfl ?_
  refine g_aload_n (pc' := 2) (j := 0) hC dX10_refused_1 rfl rfl rfl ?_
  refine gf_X10_5 (pc' := 5) hC wF_X10_123 dX10_refused_2 rfl ?_
  refine f_Vi (pc' := 8) (k := 15) (st := []) hC (m_told x.2.1 g z0 σ ((σ.1 15 5))) k_X10_told wM_X10_228 (by decide) (by decide) (ct_15 g σ) rfl rfl rfl rfl (Nat.le_of_ble_eq_true rfl) dX10_refused_5 rfl (Nat.zero_le _) (Nat.zero_le _) ?_
  refine g_ret hC dX10_refused_8 rfl ?_
  exact ⟨rfl, rfl⟩
set_option maxHeartbeats 4000000 in
set_option maxRecDepth 20000 in
theorem m_order (l : Launch) (g : Lay) (z0 : Nat) (σ : St) (ua : Int32) (ub : Int32) (hM : MI σ)  : CTi l yX10_order cX10_order 6 (some .int) 2 g z0 [.ref (g.2.1 15), .int ua, .int ub] σ (FI ((mor σ ua ub).1) ((mor σ ua ub).2)) := by
  refine CTi.of (by decide) (Nat.le_of_ble_eq_true rfl) ?_
  intro x hxl hxa hC
  have hC : Cx x RX10 cX10_order 6 (some .int) 2 g z0 := hC
  show GG x g z0 6 0 0 (Qi x g z0 (FI ((mor σ ua ub).1) ((mor σ ua ub).2))) σ 0 [(0, .ref (g.2.1 15)), (1, .int ua), (2, .int ub)] []
  refine g_aload_n (pc' := 1) (j := 0) hC dX10_order_0 rfl rfl rfl ?_
  refine g_iconst (pc' := 2) (v := nI 0) hC dX10_order_1 rfl rfl ?_
  refine pf_X10_0 (pc' := 5) hC wF_X10_66 dX10_order_2 rfl ?_
  refine g_aload_n (pc' := 6) (j := 0) hC dX10_order_5 rfl rfl rfl ?_
  refine g_iload_n (pc' := 7) (j := 1) hC dX10_order_6 rfl rfl rfl ?_
  refine f_Vi (pc' := 10) (k := 15) (st := []) hC (m_isClient x.2.1 g z0 (uv σ 15 0 (nI 0)) ua) k_X10_isClient wM_X10_165 (by decide) (by decide) (ct_15 g (uv σ 15 0 (nI 0))) rfl rfl rfl rfl (Nat.le_of_ble_eq_true rfl) dX10_order_7 rfl (Nat.zero_le _) (Nat.zero_le _) ?_
  refine gg_topi (b := bI (vlt (σ.1 15 1) ua)) (by simp (disch := decide) only [mh_uv, mh_ur, mcomp_uv, rd_uv, rd_ur, uv_cell, ur_cell, uv_idx, uv_fun, rd_idx, ne_eq, not_false_eq_true]) ?_
  refine b_if_eq (pc' := 13) (tgt := 21) hC dX10_order_10 (by decide) rfl (fun c10 => ?_) (fun c10 => ?_)
  · skip
    refine g_aload_n (pc' := 22) (j := 0) hC dX10_order_21 rfl rfl rfl ?_
    refine g_iconst (pc' := 23) (v := nI 1) hC dX10_order_22 rfl rfl ?_
    refine f_Vi (pc' := 26) (k := 15) (st := []) hC (m_refuse x.2.1 g z0 (uv σ 15 0 (nI 0)) ((nI 1))) k_X10_refuse wM_X10_171 (by decide) (by decide) (ct_15 g (uv σ 15 0 (nI 0))) rfl rfl rfl rfl (Nat.le_of_ble_eq_true rfl) dX10_order_23 rfl (Nat.zero_le _) (Nat.zero_le _) ?_
    refine g_ret hC dX10_order_26 rfl ?_
    first | exact ⟨by unfold mor; rw [cI_f (fun z => c10 z.1)], by unfold mor; rw [cI_f (fun z => c10 z.1)]⟩ | exact ⟨by unfold mor; rw [cI_f (fun z => c18 z.2)], by unfold mor; rw [cI_f (fun z => c18 z.2)]⟩
  · skip
    refine g_aload_n (pc' := 14) (j := 0) hC dX10_order_13 rfl rfl rfl ?_
    refine g_iload_n (pc' := 15) (j := 2) hC dX10_order_14 rfl rfl rfl ?_
    refine f_Vi (pc' := 18) (k := 15) (st := []) hC (m_isClient x.2.1 g z0 (uv σ 15 0 (nI 0)) ub) k_X10_isClient wM_X10_165 (by decide) (by decide) (ct_15 g (uv σ 15 0 (nI 0))) rfl rfl rfl rfl (Nat.le_of_ble_eq_true rfl) dX10_order_15 rfl (Nat.zero_le _) (Nat.zero_le _) ?_
    refine gg_topi (b := bI (vlt (σ.1 15 1) ub)) (by simp (disch := decide) only [mh_uv, mh_ur, mcomp_uv, rd_uv, rd_ur, uv_cell, ur_cell, uv_idx, uv_fun, rd_idx, ne_eq, not_false_eq_true]) ?_
    refine b_if_ne (pc' := 21) (tgt := 27) hC dX10_order_18 (by decide) rfl (fun c18 => ?_) (fun c18 => ?_)
    · skip
      obtain ⟨hcN, hcL, hcM⟩ := hM.cl c10
      refine gg_lve (lv' := [(0, .ref (g.2.1 15)), (1, .int (nI (cn ua))), (2, .int ub)]) (by rw [← hcN]) ?_
      obtain ⟨hdN, hdL, hdM⟩ := hM.cl c18
      refine gg_lve (lv' := [(0, .ref (g.2.1 15)), (1, .int (nI (cn ua))), (2, .int (nI (cn ub)))]) (by rw [← hdN]) ?_
      refine g_iconst (pc' := 28) (v := nI 0) hC dX10_order_27 rfl rfl ?_
      refine g_istore_n (pc' := 29) (lv' := [(3, .int (nI 0)), (0, .ref (g.2.1 15)), (1, .int (nI (cn ua))), (2, .int (nI (cn ub)))]) hC dX10_order_28 rfl rfl (by decide) rfl ?_
      refine g_iconst (pc' := 30) (v := nI 0) hC dX10_order_29 rfl rfl ?_
      refine g_istore (pc' := 32) (lv' := [(4, .int (nI 0)), (3, .int (nI 0)), (0, .ref (g.2.1 15)), (1, .int (nI (cn ua))), (2, .int (nI (cn ub)))]) hC dX10_order_30 rfl (by decide) rfl ?_
      refine g_iconst (pc' := 33) (v := nI 0) hC dX10_order_32 rfl rfl ?_
      refine g_istore (pc' := 35) (lv' := [(5, .int (nI 0)), (4, .int (nI 0)), (3, .int (nI 0)), (0, .ref (g.2.1 15)), (1, .int (nI (cn ua))), (2, .int (nI (cn ub)))]) hC dX10_order_33 rfl (by decide) rfl ?_
      have L35 : ∀ (fu : Nat) (c : Nat), (c ≤ rd σ 15 1) → (rd σ 15 1 - c) < fu → GG x g z0 6 0 0 (Qi x g z0 (FI ((mor σ ua ub).1) ((mor σ ua ub).2))) (uv σ 15 0 (nI 0)) 35 [(5, .int (nI c)), (4, .int (bI (gtx (fun j => σ.1 26 (6 * cn ub + j)) (fun j => σ.1 26 (6 * cn ua + j)) c))), (3, .int (bI (gtx (fun j => σ.1 26 (6 * cn ua + j)) (fun j => σ.1 26 (6 * cn ub + j)) c))), (0, .ref (g.2.1 15)), (1, .int (nI (cn ua))), (2, .int (nI (cn ub)))] [] := by
        intro fu
        induction fu with
        | zero => intro c hc hz; exact absurd hz (Nat.not_lt_zero _)
        | succ fu ih35 =>
          intro c hc hf
          refine g_iload (pc' := 37) (j := 0) hC dX10_order_35 rfl rfl ?_
          refine g_aload_n (pc' := 38) (j := 3) hC dX10_order_37 rfl rfl rfl ?_
          refine gf_X10_1 (pc' := 41) hC wF_X10_69 dX10_order_38 rfl ?_
          refine gg_topi (b := nI (rd σ 15 1)) ((uv_idx _ _ _ _ (by decide)).trans (hM.1.1.1)) ?_
          refine n_icmp_ge (pc' := 44) (tgt := 106) hC dX10_order_41 (by decide) rfl (by omega) (by omega) (fun c41 => ?_) (fun c41 => ?_)
          · skip
            refine g_iload_n (pc' := 107) (j := 2) hC dX10_order_106 rfl rfl rfl ?_
            refine b_if_eq (pc' := 110) (tgt := 121) hC dX10_order_107 (by decide) rfl (fun c107 => ?_) (fun c107 => ?_)
            · skip
              refine g_iload (pc' := 123) (j := 1) hC dX10_order_121 rfl rfl ?_
              refine b_if_eq (pc' := 126) (tgt := 130) hC dX10_order_123 (by decide) rfl (fun c123 => ?_) (fun c123 => ?_)
              · skip
                refine g_iconst (pc' := 131) (v := nI 0) hC dX10_order_130 rfl rfl ?_
                refine g_ret hC dX10_order_131 rfl ?_
                first | exact ⟨by unfold mor; rw [cI_t ⟨c10, c18⟩]; unfold ordF; rw [show rd σ 15 1 = c by omega, cI_f c107, cI_t c123], by unfold mor; rw [cI_t ⟨c10, c18⟩]⟩ | exact ⟨by unfold mor; rw [cI_t ⟨c10, c18⟩]; unfold ordF; rw [show rd σ 15 1 = c by omega, cI_f c107, cI_f c123], by unfold mor; rw [cI_t ⟨c10, c18⟩]⟩
              · skip
                refine g_iconst (pc' := 127) (v := nI 1) hC dX10_order_126 rfl rfl ?_
                refine g_goto (tgt := 131) hC dX10_order_127 (by decide) ?_
                refine g_ret hC dX10_order_131 rfl ?_
                first | exact ⟨by unfold mor; rw [cI_t ⟨c10, c18⟩]; unfold ordF; rw [show rd σ 15 1 = c by omega, cI_f c107, cI_t c123], by unfold mor; rw [cI_t ⟨c10, c18⟩]⟩ | exact ⟨by unfold mor; rw [cI_t ⟨c10, c18⟩]; unfold ordF; rw [show rd σ 15 1 = c by omega, cI_f c107, cI_f c123], by unfold mor; rw [cI_t ⟨c10, c18⟩]⟩
            · skip
              refine g_iload (pc' := 112) (j := 1) hC dX10_order_110 rfl rfl ?_
              refine b_if_eq (pc' := 115) (tgt := 119) hC dX10_order_112 (by decide) rfl (fun c112 => ?_) (fun c112 => ?_)
              · skip
                refine g_iconst (pc' := 120) (v := nI 2) hC dX10_order_119 rfl rfl ?_
                refine g_ret hC dX10_order_120 rfl ?_
                first | exact ⟨by unfold mor; rw [cI_t ⟨c10, c18⟩]; unfold ordF; rw [show rd σ 15 1 = c by omega, cI_t c107, cI_t c112], by unfold mor; rw [cI_t ⟨c10, c18⟩]⟩ | exact ⟨by unfold mor; rw [cI_t ⟨c10, c18⟩]; unfold ordF; rw [show rd σ 15 1 = c by omega, cI_t c107, cI_f c112], by unfold mor; rw [cI_t ⟨c10, c18⟩]⟩
              · skip
                refine g_iconst (pc' := 116) (v := nI 3) hC dX10_order_115 rfl rfl ?_
                refine g_goto (tgt := 120) hC dX10_order_116 (by decide) ?_
                refine g_ret hC dX10_order_120 rfl ?_
                first | exact ⟨by unfold mor; rw [cI_t ⟨c10, c18⟩]; unfold ordF; rw [show rd σ 15 1 = c by omega, cI_t c107, cI_t c112], by unfold mor; rw [cI_t ⟨c10, c18⟩]⟩ | exact ⟨by unfold mor; rw [cI_t ⟨c10, c18⟩]; unfold ordF; rw [show rd σ 15 1 = c by omega, cI_t c107, cI_f c112], by unfold mor; rw [cI_t ⟨c10, c18⟩]⟩
          · skip
            refine g_iload_n (pc' := 45) (j := 2) hC dX10_order_44 rfl rfl rfl ?_
            refine b_if_ne (pc' := 48) (tgt := 65) hC dX10_order_45 (by decide) rfl (fun c45 => ?_) (fun c45 => ?_)
            · skip
              refine g_iconst (pc' := 66) (v := nI 1) hC dX10_order_65 rfl rfl ?_
              refine g_goto (tgt := 70) hC dX10_order_66 (by decide) ?_
              refine g_istore_n (pc' := 71) (lv' := [(3, .int (nI 1)), (5, .int (nI c)), (4, .int (bI (gtx (fun j => σ.1 26 (6 * cn ub + j)) (fun j => σ.1 26 (6 * cn ua + j)) c))), (0, .ref (g.2.1 15)), (1, .int (nI (cn ua))), (2, .int (nI (cn ub)))]) hC dX10_order_70 rfl rfl (by decide) rfl ?_
              refine g_iload (pc' := 73) (j := 2) hC dX10_order_71 rfl rfl ?_
              refine b_if_ne (pc' := 76) (tgt := 93) hC dX10_order_73 (by decide) rfl (fun c73 => ?_) (fun c73 => ?_)
              · skip
                refine g_iconst (pc' := 94) (v := nI 1) hC dX10_order_93 rfl rfl ?_
                refine g_goto (tgt := 98) hC dX10_order_94 (by decide) ?_
                refine g_istore (pc' := 100) (lv' := [(4, .int (nI 1)), (3, .int (nI 1)), (5, .int (nI c)), (0, .ref (g.2.1 15)), (1, .int (nI (cn ua))), (2, .int (nI (cn ub)))]) hC dX10_order_98 rfl (by decide) rfl ?_
                refine g_iinc (pc' := 103) (j := 2) (u := nI (c + 1)) (lv' := [(5, .int (nI (c + 1))), (4, .int (nI 1)), (3, .int (nI 1)), (0, .ref (g.2.1 15)), (1, .int (nI (cn ua))), (2, .int (nI (cn ub)))]) hC dX10_order_100 rfl rfl (nI_add c 1) (by decide) rfl ?_
                refine g_goto (tgt := 35) hC dX10_order_103 (by decide) ?_
                refine gg_lv (lv' := [(5, .int (nI (c + 1))), (4, .int (nI 1)), (3, .int (nI 1)), (0, .ref (g.2.1 15)), (1, .int (nI (cn ua))), (2, .int (nI (cn ub)))]) ?_ [0, 1, 2, 3, 4, 5] rfl
                refine gg_lve (lv' := [(5, .int (nI (c + 1))), (4, .int (bI (gtx (fun j => σ.1 26 (6 * cn ub + j)) (fun j => σ.1 26 (6 * cn ua + j)) (c + 1)))), (3, .int (bI (gtx (fun j => σ.1 26 (6 * cn ua + j)) (fun j => σ.1 26 (6 * cn ub + j)) (c + 1)))), (0, .ref (g.2.1 15)), (1, .int (nI (cn ua))), (2, .int (nI (cn ub)))]) (by (first | rw [bI_t (show gtx (fun j => σ.1 26 (6 * cn ub + j)) (fun j => σ.1 26 (6 * cn ua + j)) (c + 1) from gtx_s.mpr (by first | exact Or.inl c73 | exact Or.inr (Int32.not_le.mp c90)))] | rw [bI_f (show ¬ gtx (fun j => σ.1 26 (6 * cn ub + j)) (fun j => σ.1 26 (6 * cn ua + j)) (c + 1) from fun z => (gtx_s.mp z).elim c73 (fun q => absurd c90 (Int32.not_le.mpr q)))]); (first | rw [bI_t (show gtx (fun j => σ.1 26 (6 * cn ua + j)) (fun j => σ.1 26 (6 * cn ub + j)) (c + 1) from gtx_s.mpr (by first | exact Or.inl c45 | exact Or.inr (Int32.not_le.mp c62)))] | rw [bI_f (show ¬ gtx (fun j => σ.1 26 (6 * cn ua + j)) (fun j => σ.1 26 (6 * cn ub + j)) (c + 1) from fun z => (gtx_s.mp z).elim c45 (fun q => absurd c62 (Int32.not_le.mpr q)))]); try rfl) ?_
                exact ih35 (c + 1) (by omega) (by omega)
              · skip
                refine g_aload_n (pc' := 77) (j := 3) hC dX10_order_76 rfl rfl rfl ?_
                refine g_iload_n (pc' := 78) (j := 5) hC dX10_order_77 rfl rfl rfl ?_
                refine g_iload (pc' := 80) (j := 1) hC dX10_order_78 rfl rfl ?_
                refine f_Vi (pc' := 83) (k := 15) (st := []) hC (m_number x.2.1 g z0 (uv σ 15 0 (nI 0)) ((cn ub)) c (by omega) (by omega)) k_X10_number wM_X10_393 (by decide) (by decide) (ct_15 g (uv σ 15 0 (nI 0))) rfl rfl rfl rfl (Nat.le_of_ble_eq_true rfl) dX10_order_80 rfl (Nat.zero_le _) (Nat.zero_le _) ?_
                refine gg_topi (b := σ.1 26 (6 * (cn ub) + c)) (by simp (disch := decide) only [mh_uv, mh_ur, mcomp_uv, rd_uv, rd_ur, uv_cell, ur_cell, uv_idx, uv_fun, rd_idx, ne_eq, not_false_eq_true]) ?_
                refine g_aload_n (pc' := 84) (j := 3) hC dX10_order_83 rfl rfl rfl ?_
                refine g_iload_n (pc' := 85) (j := 4) hC dX10_order_84 rfl rfl rfl ?_
                refine g_iload (pc' := 87) (j := 1) hC dX10_order_85 rfl rfl ?_
                refine f_Vi (pc' := 90) (k := 15) (st := [.int (σ.1 26 (6 * (cn ub) + c))]) hC (m_number x.2.1 g z0 (uv σ 15 0 (nI 0)) ((cn ua)) c (by omega) (by omega)) k_X10_number wM_X10_393 (by decide) (by decide) (ct_15 g (uv σ 15 0 (nI 0))) rfl rfl rfl rfl (Nat.le_of_ble_eq_true rfl) dX10_order_87 rfl (Nat.zero_le _) (Nat.zero_le _) ?_
                refine gg_topi (b := σ.1 26 (6 * (cn ua) + c)) (by simp (disch := decide) only [mh_uv, mh_ur, mcomp_uv, rd_uv, rd_ur, uv_cell, ur_cell, uv_idx, uv_fun, rd_idx, ne_eq, not_false_eq_true]) ?_
                refine g_icmp_le (pc' := 93) (tgt := 97) hC dX10_order_90 (by decide) rfl (fun c90 => ?_) (fun c90 => ?_)
                · skip
                  refine g_iconst (pc' := 98) (v := nI 0) hC dX10_order_97 rfl rfl ?_
                  refine g_istore (pc' := 100) (lv' := [(4, .int (nI 0)), (3, .int (nI 1)), (5, .int (nI c)), (0, .ref (g.2.1 15)), (1, .int (nI (cn ua))), (2, .int (nI (cn ub)))]) hC dX10_order_98 rfl (by decide) rfl ?_
                  refine g_iinc (pc' := 103) (j := 2) (u := nI (c + 1)) (lv' := [(5, .int (nI (c + 1))), (4, .int (nI 0)), (3, .int (nI 1)), (0, .ref (g.2.1 15)), (1, .int (nI (cn ua))), (2, .int (nI (cn ub)))]) hC dX10_order_100 rfl rfl (nI_add c 1) (by decide) rfl ?_
                  refine g_goto (tgt := 35) hC dX10_order_103 (by decide) ?_
                  refine gg_lv (lv' := [(5, .int (nI (c + 1))), (4, .int (nI 0)), (3, .int (nI 1)), (0, .ref (g.2.1 15)), (1, .int (nI (cn ua))), (2, .int (nI (cn ub)))]) ?_ [0, 1, 2, 3, 4, 5] rfl
                  refine gg_lve (lv' := [(5, .int (nI (c + 1))), (4, .int (bI (gtx (fun j => σ.1 26 (6 * cn ub + j)) (fun j => σ.1 26 (6 * cn ua + j)) (c + 1)))), (3, .int (bI (gtx (fun j => σ.1 26 (6 * cn ua + j)) (fun j => σ.1 26 (6 * cn ub + j)) (c + 1)))), (0, .ref (g.2.1 15)), (1, .int (nI (cn ua))), (2, .int (nI (cn ub)))]) (by (first | rw [bI_t (show gtx (fun j => σ.1 26 (6 * cn ub + j)) (fun j => σ.1 26 (6 * cn ua + j)) (c + 1) from gtx_s.mpr (by first | exact Or.inl c73 | exact Or.inr (Int32.not_le.mp c90)))] | rw [bI_f (show ¬ gtx (fun j => σ.1 26 (6 * cn ub + j)) (fun j => σ.1 26 (6 * cn ua + j)) (c + 1) from fun z => (gtx_s.mp z).elim c73 (fun q => absurd c90 (Int32.not_le.mpr q)))]); (first | rw [bI_t (show gtx (fun j => σ.1 26 (6 * cn ua + j)) (fun j => σ.1 26 (6 * cn ub + j)) (c + 1) from gtx_s.mpr (by first | exact Or.inl c45 | exact Or.inr (Int32.not_le.mp c62)))] | rw [bI_f (show ¬ gtx (fun j => σ.1 26 (6 * cn ua + j)) (fun j => σ.1 26 (6 * cn ub + j)) (c + 1) from fun z => (gtx_s.mp z).elim c45 (fun q => absurd c62 (Int32.not_le.mpr q)))]); try rfl) ?_
                  exact ih35 (c + 1) (by omega) (by omega)
                · skip
                  refine g_iconst (pc' := 94) (v := nI 1) hC dX10_order_93 rfl rfl ?_
                  refine g_goto (tgt := 98) hC dX10_order_94 (by decide) ?_
                  refine g_istore (pc' := 100) (lv' := [(4, .int (nI 1)), (3, .int (nI 1)), (5, .int (nI c)), (0, .ref (g.2.1 15)), (1, .int (nI (cn ua))), (2, .int (nI (cn ub)))]) hC dX10_order_98 rfl (by decide) rfl ?_
                  refine g_iinc (pc' := 103) (j := 2) (u := nI (c + 1)) (lv' := [(5, .int (nI (c + 1))), (4, .int (nI 1)), (3, .int (nI 1)), (0, .ref (g.2.1 15)), (1, .int (nI (cn ua))), (2, .int (nI (cn ub)))]) hC dX10_order_100 rfl rfl (nI_add c 1) (by decide) rfl ?_
                  refine g_goto (tgt := 35) hC dX10_order_103 (by decide) ?_
                  refine gg_lv (lv' := [(5, .int (nI (c + 1))), (4, .int (nI 1)), (3, .int (nI 1)), (0, .ref (g.2.1 15)), (1, .int (nI (cn ua))), (2, .int (nI (cn ub)))]) ?_ [0, 1, 2, 3, 4, 5] rfl
                  refine gg_lve (lv' := [(5, .int (nI (c + 1))), (4, .int (bI (gtx (fun j => σ.1 26 (6 * cn ub + j)) (fun j => σ.1 26 (6 * cn ua + j)) (c + 1)))), (3, .int (bI (gtx (fun j => σ.1 26 (6 * cn ua + j)) (fun j => σ.1 26 (6 * cn ub + j)) (c + 1)))), (0, .ref (g.2.1 15)), (1, .int (nI (cn ua))), (2, .int (nI (cn ub)))]) (by (first | rw [bI_t (show gtx (fun j => σ.1 26 (6 * cn ub + j)) (fun j => σ.1 26 (6 * cn ua + j)) (c + 1) from gtx_s.mpr (by first | exact Or.inl c73 | exact Or.inr (Int32.not_le.mp c90)))] | rw [bI_f (show ¬ gtx (fun j => σ.1 26 (6 * cn ub + j)) (fun j => σ.1 26 (6 * cn ua + j)) (c + 1) from fun z => (gtx_s.mp z).elim c73 (fun q => absurd c90 (Int32.not_le.mpr q)))]); (first | rw [bI_t (show gtx (fun j => σ.1 26 (6 * cn ua + j)) (fun j => σ.1 26 (6 * cn ub + j)) (c + 1) from gtx_s.mpr (by first | exact Or.inl c45 | exact Or.inr (Int32.not_le.mp c62)))] | rw [bI_f (show ¬ gtx (fun j => σ.1 26 (6 * cn ua + j)) (fun j => σ.1 26 (6 * cn ub + j)) (c + 1) from fun z => (gtx_s.mp z).elim c45 (fun q => absurd c62 (Int32.not_le.mpr q)))]); try rfl) ?_
                  exact ih35 (c + 1) (by omega) (by omega)
            · skip
              refine g_aload_n (pc' := 49) (j := 3) hC dX10_order_48 rfl rfl rfl ?_
              refine g_iload_n (pc' := 50) (j := 4) hC dX10_order_49 rfl rfl rfl ?_
              refine g_iload (pc' := 52) (j := 0) hC dX10_order_50 rfl rfl ?_
              refine f_Vi (pc' := 55) (k := 15) (st := []) hC (m_number x.2.1 g z0 (uv σ 15 0 (nI 0)) ((cn ua)) c (by omega) (by omega)) k_X10_number wM_X10_393 (by decide) (by decide) (ct_15 g (uv σ 15 0 (nI 0))) rfl rfl rfl rfl (Nat.le_of_ble_eq_true rfl) dX10_order_52 rfl (Nat.zero_le _) (Nat.zero_le _) ?_
              refine gg_topi (b := σ.1 26 (6 * (cn ua) + c)) (by simp (disch := decide) only [mh_uv, mh_ur, mcomp_uv, rd_uv, rd_ur, uv_cell, ur_cell, uv_idx, uv_fun, rd_idx, ne_eq, not_false_eq_true]) ?_
              refine g_aload_n (pc' := 56) (j := 3) hC dX10_order_55 rfl rfl rfl ?_
              refine g_iload_n (pc' := 57) (j := 5) hC dX10_order_56 rfl rfl rfl ?_
              refine g_iload (pc' := 59) (j := 0) hC dX10_order_57 rfl rfl ?_
              refine f_Vi (pc' := 62) (k := 15) (st := [.int (σ.1 26 (6 * (cn ua) + c))]) hC (m_number x.2.1 g z0 (uv σ 15 0 (nI 0)) ((cn ub)) c (by omega) (by omega)) k_X10_number wM_X10_393 (by decide) (by decide) (ct_15 g (uv σ 15 0 (nI 0))) rfl rfl rfl rfl (Nat.le_of_ble_eq_true rfl) dX10_order_59 rfl (Nat.zero_le _) (Nat.zero_le _) ?_
              refine gg_topi (b := σ.1 26 (6 * (cn ub) + c)) (by simp (disch := decide) only [mh_uv, mh_ur, mcomp_uv, rd_uv, rd_ur, uv_cell, ur_cell, uv_idx, uv_fun, rd_idx, ne_eq, not_false_eq_true]) ?_
              refine g_icmp_le (pc' := 65) (tgt := 69) hC dX10_order_62 (by decide) rfl (fun c62 => ?_) (fun c62 => ?_)
              · skip
                refine g_iconst (pc' := 70) (v := nI 0) hC dX10_order_69 rfl rfl ?_
                refine g_istore_n (pc' := 71) (lv' := [(3, .int (nI 0)), (5, .int (nI c)), (4, .int (bI (gtx (fun j => σ.1 26 (6 * cn ub + j)) (fun j => σ.1 26 (6 * cn ua + j)) c))), (0, .ref (g.2.1 15)), (1, .int (nI (cn ua))), (2, .int (nI (cn ub)))]) hC dX10_order_70 rfl rfl (by decide) rfl ?_
                refine g_iload (pc' := 73) (j := 2) hC dX10_order_71 rfl rfl ?_
                refine b_if_ne (pc' := 76) (tgt := 93) hC dX10_order_73 (by decide) rfl (fun c73 => ?_) (fun c73 => ?_)
                · skip
                  refine g_iconst (pc' := 94) (v := nI 1) hC dX10_order_93 rfl rfl ?_
                  refine g_goto (tgt := 98) hC dX10_order_94 (by decide) ?_
                  refine g_istore (pc' := 100) (lv' := [(4, .int (nI 1)), (3, .int (nI 0)), (5, .int (nI c)), (0, .ref (g.2.1 15)), (1, .int (nI (cn ua))), (2, .int (nI (cn ub)))]) hC dX10_order_98 rfl (by decide) rfl ?_
                  refine g_iinc (pc' := 103) (j := 2) (u := nI (c + 1)) (lv' := [(5, .int (nI (c + 1))), (4, .int (nI 1)), (3, .int (nI 0)), (0, .ref (g.2.1 15)), (1, .int (nI (cn ua))), (2, .int (nI (cn ub)))]) hC dX10_order_100 rfl rfl (nI_add c 1) (by decide) rfl ?_
                  refine g_goto (tgt := 35) hC dX10_order_103 (by decide) ?_
                  refine gg_lv (lv' := [(5, .int (nI (c + 1))), (4, .int (nI 1)), (3, .int (nI 0)), (0, .ref (g.2.1 15)), (1, .int (nI (cn ua))), (2, .int (nI (cn ub)))]) ?_ [0, 1, 2, 3, 4, 5] rfl
                  refine gg_lve (lv' := [(5, .int (nI (c + 1))), (4, .int (bI (gtx (fun j => σ.1 26 (6 * cn ub + j)) (fun j => σ.1 26 (6 * cn ua + j)) (c + 1)))), (3, .int (bI (gtx (fun j => σ.1 26 (6 * cn ua + j)) (fun j => σ.1 26 (6 * cn ub + j)) (c + 1)))), (0, .ref (g.2.1 15)), (1, .int (nI (cn ua))), (2, .int (nI (cn ub)))]) (by (first | rw [bI_t (show gtx (fun j => σ.1 26 (6 * cn ub + j)) (fun j => σ.1 26 (6 * cn ua + j)) (c + 1) from gtx_s.mpr (by first | exact Or.inl c73 | exact Or.inr (Int32.not_le.mp c90)))] | rw [bI_f (show ¬ gtx (fun j => σ.1 26 (6 * cn ub + j)) (fun j => σ.1 26 (6 * cn ua + j)) (c + 1) from fun z => (gtx_s.mp z).elim c73 (fun q => absurd c90 (Int32.not_le.mpr q)))]); (first | rw [bI_t (show gtx (fun j => σ.1 26 (6 * cn ua + j)) (fun j => σ.1 26 (6 * cn ub + j)) (c + 1) from gtx_s.mpr (by first | exact Or.inl c45 | exact Or.inr (Int32.not_le.mp c62)))] | rw [bI_f (show ¬ gtx (fun j => σ.1 26 (6 * cn ua + j)) (fun j => σ.1 26 (6 * cn ub + j)) (c + 1) from fun z => (gtx_s.mp z).elim c45 (fun q => absurd c62 (Int32.not_le.mpr q)))]); try rfl) ?_
                  exact ih35 (c + 1) (by omega) (by omega)
                · skip
                  refine g_aload_n (pc' := 77) (j := 3) hC dX10_order_76 rfl rfl rfl ?_
                  refine g_iload_n (pc' := 78) (j := 5) hC dX10_order_77 rfl rfl rfl ?_
                  refine g_iload (pc' := 80) (j := 1) hC dX10_order_78 rfl rfl ?_
                  refine f_Vi (pc' := 83) (k := 15) (st := []) hC (m_number x.2.1 g z0 (uv σ 15 0 (nI 0)) ((cn ub)) c (by omega) (by omega)) k_X10_number wM_X10_393 (by decide) (by decide) (ct_15 g (uv σ 15 0 (nI 0))) rfl rfl rfl rfl (Nat.le_of_ble_eq_true rfl) dX10_order_80 rfl (Nat.zero_le _) (Nat.zero_le _) ?_
                  refine gg_topi (b := σ.1 26 (6 * (cn ub) + c)) (by simp (disch := decide) only [mh_uv, mh_ur, mcomp_uv, rd_uv, rd_ur, uv_cell, ur_cell, uv_idx, uv_fun, rd_idx, ne_eq, not_false_eq_true]) ?_
                  refine g_aload_n (pc' := 84) (j := 3) hC dX10_order_83 rfl rfl rfl ?_
                  refine g_iload_n (pc' := 85) (j := 4) hC dX10_order_84 rfl rfl rfl ?_
                  refine g_iload (pc' := 87) (j := 1) hC dX10_order_85 rfl rfl ?_
                  refine f_Vi (pc' := 90) (k := 15) (st := [.int (σ.1 26 (6 * (cn ub) + c))]) hC (m_number x.2.1 g z0 (uv σ 15 0 (nI 0)) ((cn ua)) c (by omega) (by omega)) k_X10_number wM_X10_393 (by decide) (by decide) (ct_15 g (uv σ 15 0 (nI 0))) rfl rfl rfl rfl (Nat.le_of_ble_eq_true rfl) dX10_order_87 rfl (Nat.zero_le _) (Nat.zero_le _) ?_
                  refine gg_topi (b := σ.1 26 (6 * (cn ua) + c)) (by simp (disch := decide) only [mh_uv, mh_ur, mcomp_uv, rd_uv, rd_ur, uv_cell, ur_cell, uv_idx, uv_fun, rd_idx, ne_eq, not_false_eq_true]) ?_
                  refine g_icmp_le (pc' := 93) (tgt := 97) hC dX10_order_90 (by decide) rfl (fun c90 => ?_) (fun c90 => ?_)
                  · skip
                    refine g_iconst (pc' := 98) (v := nI 0) hC dX10_order_97 rfl rfl ?_
                    refine g_istore (pc' := 100) (lv' := [(4, .int (nI 0)), (3, .int (nI 0)), (5, .int (nI c)), (0, .ref (g.2.1 15)), (1, .int (nI (cn ua))), (2, .int (nI (cn ub)))]) hC dX10_order_98 rfl (by decide) rfl ?_
                    refine g_iinc (pc' := 103) (j := 2) (u := nI (c + 1)) (lv' := [(5, .int (nI (c + 1))), (4, .int (nI 0)), (3, .int (nI 0)), (0, .ref (g.2.1 15)), (1, .int (nI (cn ua))), (2, .int (nI (cn ub)))]) hC dX10_order_100 rfl rfl (nI_add c 1) (by decide) rfl ?_
                    refine g_goto (tgt := 35) hC dX10_order_103 (by decide) ?_
                    refine gg_lv (lv' := [(5, .int (nI (c + 1))), (4, .int (nI 0)), (3, .int (nI 0)), (0, .ref (g.2.1 15)), (1, .int (nI (cn ua))), (2, .int (nI (cn ub)))]) ?_ [0, 1, 2, 3, 4, 5] rfl
                    refine gg_lve (lv' := [(5, .int (nI (c + 1))), (4, .int (bI (gtx (fun j => σ.1 26 (6 * cn ub + j)) (fun j => σ.1 26 (6 * cn ua + j)) (c + 1)))), (3, .int (bI (gtx (fun j => σ.1 26 (6 * cn ua + j)) (fun j => σ.1 26 (6 * cn ub + j)) (c + 1)))), (0, .ref (g.2.1 15)), (1, .int (nI (cn ua))), (2, .int (nI (cn ub)))]) (by (first | rw [bI_t (show gtx (fun j => σ.1 26 (6 * cn ub + j)) (fun j => σ.1 26 (6 * cn ua + j)) (c + 1) from gtx_s.mpr (by first | exact Or.inl c73 | exact Or.inr (Int32.not_le.mp c90)))] | rw [bI_f (show ¬ gtx (fun j => σ.1 26 (6 * cn ub + j)) (fun j => σ.1 26 (6 * cn ua + j)) (c + 1) from fun z => (gtx_s.mp z).elim c73 (fun q => absurd c90 (Int32.not_le.mpr q)))]); (first | rw [bI_t (show gtx (fun j => σ.1 26 (6 * cn ua + j)) (fun j => σ.1 26 (6 * cn ub + j)) (c + 1) from gtx_s.mpr (by first | exact Or.inl c45 | exact Or.inr (Int32.not_le.mp c62)))] | rw [bI_f (show ¬ gtx (fun j => σ.1 26 (6 * cn ua + j)) (fun j => σ.1 26 (6 * cn ub + j)) (c + 1) from fun z => (gtx_s.mp z).elim c45 (fun q => absurd c62 (Int32.not_le.mpr q)))]); try rfl) ?_
                    exact ih35 (c + 1) (by omega) (by omega)
                  · skip
                    refine g_iconst (pc' := 94) (v := nI 1) hC dX10_order_93 rfl rfl ?_
                    refine g_goto (tgt := 98) hC dX10_order_94 (by decide) ?_
                    refine g_istore (pc' := 100) (lv' := [(4, .int (nI 1)), (3, .int (nI 0)), (5, .int (nI c)), (0, .ref (g.2.1 15)), (1, .int (nI (cn ua))), (2, .int (nI (cn ub)))]) hC dX10_order_98 rfl (by decide) rfl ?_
                    refine g_iinc (pc' := 103) (j := 2) (u := nI (c + 1)) (lv' := [(5, .int (nI (c + 1))), (4, .int (nI 1)), (3, .int (nI 0)), (0, .ref (g.2.1 15)), (1, .int (nI (cn ua))), (2, .int (nI (cn ub)))]) hC dX10_order_100 rfl rfl (nI_add c 1) (by decide) rfl ?_
                    refine g_goto (tgt := 35) hC dX10_order_103 (by decide) ?_
                    refine gg_lv (lv' := [(5, .int (nI (c + 1))), (4, .int (nI 1)), (3, .int (nI 0)), (0, .ref (g.2.1 15)), (1, .int (nI (cn ua))), (2, .int (nI (cn ub)))]) ?_ [0, 1, 2, 3, 4, 5] rfl
                    refine gg_lve (lv' := [(5, .int (nI (c + 1))), (4, .int (bI (gtx (fun j => σ.1 26 (6 * cn ub + j)) (fun j => σ.1 26 (6 * cn ua + j)) (c + 1)))), (3, .int (bI (gtx (fun j => σ.1 26 (6 * cn ua + j)) (fun j => σ.1 26 (6 * cn ub + j)) (c + 1)))), (0, .ref (g.2.1 15)), (1, .int (nI (cn ua))), (2, .int (nI (cn ub)))]) (by (first | rw [bI_t (show gtx (fun j => σ.1 26 (6 * cn ub + j)) (fun j => σ.1 26 (6 * cn ua + j)) (c + 1) from gtx_s.mpr (by first | exact Or.inl c73 | exact Or.inr (Int32.not_le.mp c90)))] | rw [bI_f (show ¬ gtx (fun j => σ.1 26 (6 * cn ub + j)) (fun j => σ.1 26 (6 * cn ua + j)) (c + 1) from fun z => (gtx_s.mp z).elim c73 (fun q => absurd c90 (Int32.not_le.mpr q)))]); (first | rw [bI_t (show gtx (fun j => σ.1 26 (6 * cn ua + j)) (fun j => σ.1 26 (6 * cn ub + j)) (c + 1) from gtx_s.mpr (by first | exact Or.inl c45 | exact Or.inr (Int32.not_le.mp c62)))] | rw [bI_f (show ¬ gtx (fun j => σ.1 26 (6 * cn ua + j)) (fun j => σ.1 26 (6 * cn ub + j)) (c + 1) from fun z => (gtx_s.mp z).elim c45 (fun q => absurd c62 (Int32.not_le.mpr q)))]); try rfl) ?_
                    exact ih35 (c + 1) (by omega) (by omega)
              · skip
                refine g_iconst (pc' := 66) (v := nI 1) hC dX10_order_65 rfl rfl ?_
                refine g_goto (tgt := 70) hC dX10_order_66 (by decide) ?_
                refine g_istore_n (pc' := 71) (lv' := [(3, .int (nI 1)), (5, .int (nI c)), (4, .int (bI (gtx (fun j => σ.1 26 (6 * cn ub + j)) (fun j => σ.1 26 (6 * cn ua + j)) c))), (0, .ref (g.2.1 15)), (1, .int (nI (cn ua))), (2, .int (nI (cn ub)))]) hC dX10_order_70 rfl rfl (by decide) rfl ?_
                refine g_iload (pc' := 73) (j := 2) hC dX10_order_71 rfl rfl ?_
                refine b_if_ne (pc' := 76) (tgt := 93) hC dX10_order_73 (by decide) rfl (fun c73 => ?_) (fun c73 => ?_)
                · skip
                  refine g_iconst (pc' := 94) (v := nI 1) hC dX10_order_93 rfl rfl ?_
                  refine g_goto (tgt := 98) hC dX10_order_94 (by decide) ?_
                  refine g_istore (pc' := 100) (lv' := [(4, .int (nI 1)), (3, .int (nI 1)), (5, .int (nI c)), (0, .ref (g.2.1 15)), (1, .int (nI (cn ua))), (2, .int (nI (cn ub)))]) hC dX10_order_98 rfl (by decide) rfl ?_
                  refine g_iinc (pc' := 103) (j := 2) (u := nI (c + 1)) (lv' := [(5, .int (nI (c + 1))), (4, .int (nI 1)), (3, .int (nI 1)), (0, .ref (g.2.1 15)), (1, .int (nI (cn ua))), (2, .int (nI (cn ub)))]) hC dX10_order_100 rfl rfl (nI_add c 1) (by decide) rfl ?_
                  refine g_goto (tgt := 35) hC dX10_order_103 (by decide) ?_
                  refine gg_lv (lv' := [(5, .int (nI (c + 1))), (4, .int (nI 1)), (3, .int (nI 1)), (0, .ref (g.2.1 15)), (1, .int (nI (cn ua))), (2, .int (nI (cn ub)))]) ?_ [0, 1, 2, 3, 4, 5] rfl
                  refine gg_lve (lv' := [(5, .int (nI (c + 1))), (4, .int (bI (gtx (fun j => σ.1 26 (6 * cn ub + j)) (fun j => σ.1 26 (6 * cn ua + j)) (c + 1)))), (3, .int (bI (gtx (fun j => σ.1 26 (6 * cn ua + j)) (fun j => σ.1 26 (6 * cn ub + j)) (c + 1)))), (0, .ref (g.2.1 15)), (1, .int (nI (cn ua))), (2, .int (nI (cn ub)))]) (by (first | rw [bI_t (show gtx (fun j => σ.1 26 (6 * cn ub + j)) (fun j => σ.1 26 (6 * cn ua + j)) (c + 1) from gtx_s.mpr (by first | exact Or.inl c73 | exact Or.inr (Int32.not_le.mp c90)))] | rw [bI_f (show ¬ gtx (fun j => σ.1 26 (6 * cn ub + j)) (fun j => σ.1 26 (6 * cn ua + j)) (c + 1) from fun z => (gtx_s.mp z).elim c73 (fun q => absurd c90 (Int32.not_le.mpr q)))]); (first | rw [bI_t (show gtx (fun j => σ.1 26 (6 * cn ua + j)) (fun j => σ.1 26 (6 * cn ub + j)) (c + 1) from gtx_s.mpr (by first | exact Or.inl c45 | exact Or.inr (Int32.not_le.mp c62)))] | rw [bI_f (show ¬ gtx (fun j => σ.1 26 (6 * cn ua + j)) (fun j => σ.1 26 (6 * cn ub + j)) (c + 1) from fun z => (gtx_s.mp z).elim c45 (fun q => absurd c62 (Int32.not_le.mpr q)))]); try rfl) ?_
                  exact ih35 (c + 1) (by omega) (by omega)
                · skip
                  refine g_aload_n (pc' := 77) (j := 3) hC dX10_order_76 rfl rfl rfl ?_
                  refine g_iload_n (pc' := 78) (j := 5) hC dX10_order_77 rfl rfl rfl ?_
                  refine g_iload (pc' := 80) (j := 1) hC dX10_order_78 rfl rfl ?_
                  refine f_Vi (pc' := 83) (k := 15) (st := []) hC (m_number x.2.1 g z0 (uv σ 15 0 (nI 0)) ((cn ub)) c (by omega) (by omega)) k_X10_number wM_X10_393 (by decide) (by decide) (ct_15 g (uv σ 15 0 (nI 0))) rfl rfl rfl rfl (Nat.le_of_ble_eq_true rfl) dX10_order_80 rfl (Nat.zero_le _) (Nat.zero_le _) ?_
                  refine gg_topi (b := σ.1 26 (6 * (cn ub) + c)) (by simp (disch := decide) only [mh_uv, mh_ur, mcomp_uv, rd_uv, rd_ur, uv_cell, ur_cell, uv_idx, uv_fun, rd_idx, ne_eq, not_false_eq_true]) ?_
                  refine g_aload_n (pc' := 84) (j := 3) hC dX10_order_83 rfl rfl rfl ?_
                  refine g_iload_n (pc' := 85) (j := 4) hC dX10_order_84 rfl rfl rfl ?_
                  refine g_iload (pc' := 87) (j := 1) hC dX10_order_85 rfl rfl ?_
                  refine f_Vi (pc' := 90) (k := 15) (st := [.int (σ.1 26 (6 * (cn ub) + c))]) hC (m_number x.2.1 g z0 (uv σ 15 0 (nI 0)) ((cn ua)) c (by omega) (by omega)) k_X10_number wM_X10_393 (by decide) (by decide) (ct_15 g (uv σ 15 0 (nI 0))) rfl rfl rfl rfl (Nat.le_of_ble_eq_true rfl) dX10_order_87 rfl (Nat.zero_le _) (Nat.zero_le _) ?_
                  refine gg_topi (b := σ.1 26 (6 * (cn ua) + c)) (by simp (disch := decide) only [mh_uv, mh_ur, mcomp_uv, rd_uv, rd_ur, uv_cell, ur_cell, uv_idx, uv_fun, rd_idx, ne_eq, not_false_eq_true]) ?_
                  refine g_icmp_le (pc' := 93) (tgt := 97) hC dX10_order_90 (by decide) rfl (fun c90 => ?_) (fun c90 => ?_)
                  · skip
                    refine g_iconst (pc' := 98) (v := nI 0) hC dX10_order_97 rfl rfl ?_
                    refine g_istore (pc' := 100) (lv' := [(4, .int (nI 0)), (3, .int (nI 1)), (5, .int (nI c)), (0, .ref (g.2.1 15)), (1, .int (nI (cn ua))), (2, .int (nI (cn ub)))]) hC dX10_order_98 rfl (by decide) rfl ?_
                    refine g_iinc (pc' := 103) (j := 2) (u := nI (c + 1)) (lv' := [(5, .int (nI (c + 1))), (4, .int (nI 0)), (3, .int (nI 1)), (0, .ref (g.2.1 15)), (1, .int (nI (cn ua))), (2, .int (nI (cn ub)))]) hC dX10_order_100 rfl rfl (nI_add c 1) (by decide) rfl ?_
                    refine g_goto (tgt := 35) hC dX10_order_103 (by decide) ?_
                    refine gg_lv (lv' := [(5, .int (nI (c + 1))), (4, .int (nI 0)), (3, .int (nI 1)), (0, .ref (g.2.1 15)), (1, .int (nI (cn ua))), (2, .int (nI (cn ub)))]) ?_ [0, 1, 2, 3, 4, 5] rfl
                    refine gg_lve (lv' := [(5, .int (nI (c + 1))), (4, .int (bI (gtx (fun j => σ.1 26 (6 * cn ub + j)) (fun j => σ.1 26 (6 * cn ua + j)) (c + 1)))), (3, .int (bI (gtx (fun j => σ.1 26 (6 * cn ua + j)) (fun j => σ.1 26 (6 * cn ub + j)) (c + 1)))), (0, .ref (g.2.1 15)), (1, .int (nI (cn ua))), (2, .int (nI (cn ub)))]) (by (first | rw [bI_t (show gtx (fun j => σ.1 26 (6 * cn ub + j)) (fun j => σ.1 26 (6 * cn ua + j)) (c + 1) from gtx_s.mpr (by first | exact Or.inl c73 | exact Or.inr (Int32.not_le.mp c90)))] | rw [bI_f (show ¬ gtx (fun j => σ.1 26 (6 * cn ub + j)) (fun j => σ.1 26 (6 * cn ua + j)) (c + 1) from fun z => (gtx_s.mp z).elim c73 (fun q => absurd c90 (Int32.not_le.mpr q)))]); (first | rw [bI_t (show gtx (fun j => σ.1 26 (6 * cn ua + j)) (fun j => σ.1 26 (6 * cn ub + j)) (c + 1) from gtx_s.mpr (by first | exact Or.inl c45 | exact Or.inr (Int32.not_le.mp c62)))] | rw [bI_f (show ¬ gtx (fun j => σ.1 26 (6 * cn ua + j)) (fun j => σ.1 26 (6 * cn ub + j)) (c + 1) from fun z => (gtx_s.mp z).elim c45 (fun q => absurd c62 (Int32.not_le.mpr q)))]); try rfl) ?_
                    exact ih35 (c + 1) (by omega) (by omega)
                  · skip
                    refine g_iconst (pc' := 94) (v := nI 1) hC dX10_order_93 rfl rfl ?_
                    refine g_goto (tgt := 98) hC dX10_order_94 (by decide) ?_
                    refine g_istore (pc' := 100) (lv' := [(4, .int (nI 1)), (3, .int (nI 1)), (5, .int (nI c)), (0, .ref (g.2.1 15)), (1, .int (nI (cn ua))), (2, .int (nI (cn ub)))]) hC dX10_order_98 rfl (by decide) rfl ?_
                    refine g_iinc (pc' := 103) (j := 2) (u := nI (c + 1)) (lv' := [(5, .int (nI (c + 1))), (4, .int (nI 1)), (3, .int (nI 1)), (0, .ref (g.2.1 15)), (1, .int (nI (cn ua))), (2, .int (nI (cn ub)))]) hC dX10_order_100 rfl rfl (nI_add c 1) (by decide) rfl ?_
                    refine g_goto (tgt := 35) hC dX10_order_103 (by decide) ?_
                    refine gg_lv (lv' := [(5, .int (nI (c + 1))), (4, .int (nI 1)), (3, .int (nI 1)), (0, .ref (g.2.1 15)), (1, .int (nI (cn ua))), (2, .int (nI (cn ub)))]) ?_ [0, 1, 2, 3, 4, 5] rfl
                    refine gg_lve (lv' := [(5, .int (nI (c + 1))), (4, .int (bI (gtx (fun j => σ.1 26 (6 * cn ub + j)) (fun j => σ.1 26 (6 * cn ua + j)) (c + 1)))), (3, .int (bI (gtx (fun j => σ.1 26 (6 * cn ua + j)) (fun j => σ.1 26 (6 * cn ub + j)) (c + 1)))), (0, .ref (g.2.1 15)), (1, .int (nI (cn ua))), (2, .int (nI (cn ub)))]) (by (first | rw [bI_t (show gtx (fun j => σ.1 26 (6 * cn ub + j)) (fun j => σ.1 26 (6 * cn ua + j)) (c + 1) from gtx_s.mpr (by first | exact Or.inl c73 | exact Or.inr (Int32.not_le.mp c90)))] | rw [bI_f (show ¬ gtx (fun j => σ.1 26 (6 * cn ub + j)) (fun j => σ.1 26 (6 * cn ua + j)) (c + 1) from fun z => (gtx_s.mp z).elim c73 (fun q => absurd c90 (Int32.not_le.mpr q)))]); (first | rw [bI_t (show gtx (fun j => σ.1 26 (6 * cn ua + j)) (fun j => σ.1 26 (6 * cn ub + j)) (c + 1) from gtx_s.mpr (by first | exact Or.inl c45 | exact Or.inr (Int32.not_le.mp c62)))] | rw [bI_f (show ¬ gtx (fun j => σ.1 26 (6 * cn ua + j)) (fun j => σ.1 26 (6 * cn ub + j)) (c + 1) from fun z => (gtx_s.mp z).elim c45 (fun q => absurd c62 (Int32.not_le.mpr q)))]); try rfl) ?_
                    exact ih35 (c + 1) (by omega) (by omega)
      refine gg_lv (lv' := [(5, .int (nI 0)), (4, .int (nI 0)), (3, .int (nI 0)), (0, .ref (g.2.1 15)), (1, .int (nI (cn ua))), (2, .int (nI (cn ub)))]) ?_ [0, 1, 2, 3, 4, 5] rfl
      refine gg_lve (lv' := [(5, .int (nI 0)), (4, .int (bI (gtx (fun j => σ.1 26 (6 * cn ub + j)) (fun j => σ.1 26 (6 * cn ua + j)) 0))), (3, .int (bI (gtx (fun j => σ.1 26 (6 * cn ua + j)) (fun j => σ.1 26 (6 * cn ub + j)) 0))), (0, .ref (g.2.1 15)), (1, .int (nI (cn ua))), (2, .int (nI (cn ub)))]) (by rw [bI_f (show ¬ gtx (fun j => σ.1 26 (6 * cn ub + j)) (fun j => σ.1 26 (6 * cn ua + j)) 0 from fun ⟨j, h, _⟩ => absurd h (Nat.not_lt_zero j)), bI_f (show ¬ gtx (fun j => σ.1 26 (6 * cn ua + j)) (fun j => σ.1 26 (6 * cn ub + j)) 0 from fun ⟨j, h, _⟩ => absurd h (Nat.not_lt_zero j))]; rfl) ?_
      exact L35 (rd σ 15 1 - 0 + 1) 0 (by omega) (by omega)
    · skip
      refine g_aload_n (pc' := 22) (j := 0) hC dX10_order_21 rfl rfl rfl ?_
      refine g_iconst (pc' := 23) (v := nI 1) hC dX10_order_22 rfl rfl ?_
      refine f_Vi (pc' := 26) (k := 15) (st := []) hC (m_refuse x.2.1 g z0 (uv σ 15 0 (nI 0)) ((nI 1))) k_X10_refuse wM_X10_171 (by decide) (by decide) (ct_15 g (uv σ 15 0 (nI 0))) rfl rfl rfl rfl (Nat.le_of_ble_eq_true rfl) dX10_order_23 rfl (Nat.zero_le _) (Nat.zero_le _) ?_
      refine g_ret hC dX10_order_26 rfl ?_
      first | exact ⟨by unfold mor; rw [cI_f (fun z => c10 z.1)], by unfold mor; rw [cI_f (fun z => c10 z.1)]⟩ | exact ⟨by unfold mor; rw [cI_f (fun z => c18 z.2)], by unfold mor; rw [cI_f (fun z => c18 z.2)]⟩
