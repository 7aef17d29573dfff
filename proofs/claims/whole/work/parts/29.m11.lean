set_option maxHeartbeats 4000000 in
set_option maxRecDepth 20000 in
theorem m_heal (l : Launch) (g : Lay) (z0 : Nat) (σ : St) (ua : Int32) (ub : Int32) (hM : MI σ)  : CTi l yX10_heal cX10_heal 8 (some .int) 4 g z0 [.ref (g.2.1 15), .int ua, .int ub] σ (FI ((mhl σ ua ub).1) ((mhl σ ua ub).2)) := by
  refine CTi.of (by decide) (Nat.le_of_ble_eq_true rfl) ?_
  intro x hxl hxa hC
  have hC : Cx x RX10 cX10_heal 8 (some .int) 4 g z0 := hC
  have hM0 := MI_m0 hM
  have hC2 := hM.1.1.2
  have h4 := hM.1.2.2.2.1
  have h42 := h4.2
  show GG x g z0 8 0 0 (Qi x g z0 (FI ((mhl σ ua ub).1) ((mhl σ ua ub).2))) σ 0 [(0, .ref (g.2.1 15)), (1, .int ua), (2, .int ub)] []
  refine g_aload_n (pc' := 1) (j := 0) hC dX10_heal_0 rfl rfl rfl ?_
  refine g_iconst (pc' := 2) (v := nI 0) hC dX10_heal_1 rfl rfl ?_
  refine pf_X10_0 (pc' := 5) hC wF_X10_66 dX10_heal_2 rfl ?_
  refine g_aload_n (pc' := 6) (j := 0) hC dX10_heal_5 rfl rfl rfl ?_
  refine g_iload_n (pc' := 7) (j := 1) hC dX10_heal_6 rfl rfl rfl ?_
  refine f_Vi (pc' := 10) (k := 15) (st := []) hC (m_isBranch x.2.1 g z0 (uv σ 15 0 (nI 0)) ua) k_X10_isBranch wM_X10_82 (by decide) (by decide) (ct_15 g (uv σ 15 0 (nI 0))) rfl rfl rfl rfl (Nat.le_of_ble_eq_true rfl) dX10_heal_7 rfl (Nat.zero_le _) (Nat.zero_le _) ?_
  refine gg_topi (b := bI (vlt (σ.1 15 4) ua)) (by simp (disch := decide) only [mh_uv, mh_ur, mcomp_uv, rd_uv, rd_ur, uv_cell, ur_cell, uv_idx, uv_fun, rd_idx, ne_eq, not_false_eq_true]) ?_
  refine b_if_eq (pc' := 13) (tgt := 26) hC dX10_heal_10 (by decide) rfl (fun c10 => ?_) (fun c10 => ?_)
  · skip
    refine g_aload_n (pc' := 27) (j := 0) hC dX10_heal_26 rfl rfl rfl ?_
    refine g_iconst (pc' := 28) (v := nI 1) hC dX10_heal_27 rfl rfl ?_
    refine f_Vi (pc' := 31) (k := 15) (st := []) hC (m_refuse x.2.1 g z0 (uv σ 15 0 (nI 0)) ((nI 1))) k_X10_refuse wM_X10_171 (by decide) (by decide) (ct_15 g (uv σ 15 0 (nI 0))) rfl rfl rfl rfl (Nat.le_of_ble_eq_true rfl) dX10_heal_28 rfl (Nat.zero_le _) (Nat.zero_le _) ?_
    refine g_ret hC dX10_heal_31 rfl ?_
    first | exact ⟨by unfold mhl; rw [cI_f (fun z => c10 z.1)], by unfold mhl; rw [cI_f (fun z => c10 z.1)]⟩ | exact ⟨by unfold mhl; rw [cI_f (fun z => c18 z.2.1)], by unfold mhl; rw [cI_f (fun z => c18 z.2.1)]⟩ | exact ⟨by unfold mhl; rw [cI_f (fun z => z.2.2 c23)], by unfold mhl; rw [cI_f (fun z => z.2.2 c23)]⟩
  · skip
    refine g_aload_n (pc' := 14) (j := 0) hC dX10_heal_13 rfl rfl rfl ?_
    refine g_iload_n (pc' := 15) (j := 2) hC dX10_heal_14 rfl rfl rfl ?_
    refine f_Vi (pc' := 18) (k := 15) (st := []) hC (m_isBranch x.2.1 g z0 (uv σ 15 0 (nI 0)) ub) k_X10_isBranch wM_X10_82 (by decide) (by decide) (ct_15 g (uv σ 15 0 (nI 0))) rfl rfl rfl rfl (Nat.le_of_ble_eq_true rfl) dX10_heal_15 rfl (Nat.zero_le _) (Nat.zero_le _) ?_
    refine gg_topi (b := bI (vlt (σ.1 15 4) ub)) (by simp (disch := decide) only [mh_uv, mh_ur, mcomp_uv, rd_uv, rd_ur, uv_cell, ur_cell, uv_idx, uv_fun, rd_idx, ne_eq, not_false_eq_true]) ?_
    refine b_if_eq (pc' := 21) (tgt := 26) hC dX10_heal_18 (by decide) rfl (fun c18 => ?_) (fun c18 => ?_)
    · skip
      refine g_aload_n (pc' := 27) (j := 0) hC dX10_heal_26 rfl rfl rfl ?_
      refine g_iconst (pc' := 28) (v := nI 1) hC dX10_heal_27 rfl rfl ?_
      refine f_Vi (pc' := 31) (k := 15) (st := []) hC (m_refuse x.2.1 g z0 (uv σ 15 0 (nI 0)) ((nI 1))) k_X10_refuse wM_X10_171 (by decide) (by decide) (ct_15 g (uv σ 15 0 (nI 0))) rfl rfl rfl rfl (Nat.le_of_ble_eq_true rfl) dX10_heal_28 rfl (Nat.zero_le _) (Nat.zero_le _) ?_
      refine g_ret hC dX10_heal_31 rfl ?_
      first | exact ⟨by unfold mhl; rw [cI_f (fun z => c10 z.1)], by unfold mhl; rw [cI_f (fun z => c10 z.1)]⟩ | exact ⟨by unfold mhl; rw [cI_f (fun z => c18 z.2.1)], by unfold mhl; rw [cI_f (fun z => c18 z.2.1)]⟩ | exact ⟨by unfold mhl; rw [cI_f (fun z => z.2.2 c23)], by unfold mhl; rw [cI_f (fun z => z.2.2 c23)]⟩
    · skip
      refine g_iload_n (pc' := 22) (j := 1) hC dX10_heal_21 rfl rfl rfl ?_
      refine g_iload_n (pc' := 23) (j := 2) hC dX10_heal_22 rfl rfl rfl ?_
      refine g_icmp_ne (pc' := 26) (tgt := 32) hC dX10_heal_23 (by decide) rfl (fun c23 => ?_) (fun c23 => ?_)
      · skip
        obtain ⟨hcN, hcL, hcM⟩ := hM.br c10
        refine gg_lve (lv' := [(0, .ref (g.2.1 15)), (1, .int (nI (cn ua))), (2, .int ub)]) (by rw [← hcN]) ?_
        obtain ⟨hdN, hdL, hdM⟩ := hM.br c18
        have hlx := hM.len (b := cn ua) (by omega)
        have hly := hM.len (b := cn ub) (by omega)
        have hlx2 := hlx.2
        have hly2 := hly.2
        have hcm := mcom_le σ (cn ua) (cn ub)
        have hxy : cn ua ≠ cn ub := (fun e => c23 (by rw [hcN, hdN, e]))
        refine gg_lve (lv' := [(0, .ref (g.2.1 15)), (1, .int (nI (cn ua))), (2, .int (nI (cn ub)))]) (by rw [← hdN]) ?_
        refine g_aload_n (pc' := 33) (j := 0) hC dX10_heal_32 rfl rfl rfl ?_
        refine g_iload_n (pc' := 34) (j := 1) hC dX10_heal_33 rfl rfl rfl ?_
        refine g_iload_n (pc' := 35) (j := 2) hC dX10_heal_34 rfl rfl rfl ?_
        refine f_Vi (pc' := 38) (k := 15) (st := []) hC (m_common x.2.1 g z0 (uv σ 15 0 (nI 0)) ((cn ua)) ((cn ub)) (by omega) (by omega) (hM0.len (by omega)) (hM0.len (by omega))) k_X10_common wM_X10_202 (by decide) (by decide) (ct_15 g (uv σ 15 0 (nI 0))) rfl rfl rfl rfl (Nat.le_of_ble_eq_true rfl) dX10_heal_35 rfl (Nat.zero_le _) (Nat.zero_le _) ?_
        refine gg_topi (b := nI (mcom σ (cn ua) (cn ub))) (by simp (disch := decide) only [mh_uv, mh_ur, mcomp_uv, rd_uv, rd_ur, uv_cell, ur_cell, uv_idx, uv_fun, rd_idx, ne_eq, not_false_eq_true, mcom]) ?_
        refine g_istore_n (pc' := 39) (lv' := [(3, .int (nI (mcom σ (cn ua) (cn ub)))), (0, .ref (g.2.1 15)), (1, .int (nI (cn ua))), (2, .int (nI (cn ub)))]) hC dX10_heal_38 rfl rfl (by decide) rfl ?_
        refine g_aload_n (pc' := 40) (j := 1) hC dX10_heal_39 rfl rfl rfl ?_
        refine gf_X10_6 (pc' := 43) hC wF_X10_7 dX10_heal_40 rfl ?_
        refine g_iload_n (pc' := 44) (j := 2) hC dX10_heal_43 rfl rfl rfl ?_
        refine a_ld (pc' := 45) (k := 16) (i := cn ua) hC (by decide) (ct_16 g (uv σ 15 0 (nI 0))) (by omega) (by decide) dX10_heal_44 rfl ?_
        refine gg_topi (b := nI (rd σ 16 (cn ua))) ((uv_cell _ _ _ _ (by decide)).trans (hlx.1)) ?_
        refine g_iconst (pc' := 46) (v := nI 1) hC dX10_heal_45 rfl rfl ?_
        refine n_iadd (pc' := 47) hC dX10_heal_46 rfl ?_
        refine g_aload_n (pc' := 48) (j := 1) hC dX10_heal_47 rfl rfl rfl ?_
        refine gf_X10_6 (pc' := 51) hC wF_X10_7 dX10_heal_48 rfl ?_
        refine g_iload_n (pc' := 52) (j := 3) hC dX10_heal_51 rfl rfl rfl ?_
        refine a_ld (pc' := 53) (k := 16) (i := cn ub) hC (by decide) (ct_16 g (uv σ 15 0 (nI 0))) (by omega) (by decide) dX10_heal_52 rfl ?_
        refine gg_topi (b := nI (rd σ 16 (cn ub))) ((uv_cell _ _ _ _ (by decide)).trans (hly.1)) ?_
        refine n_iadd (pc' := 54) hC dX10_heal_53 rfl ?_
        refine g_iload_n (pc' := 55) (j := 0) hC dX10_heal_54 rfl rfl rfl ?_
        refine n_isub (pc' := 56) hC dX10_heal_55 rfl (by omega) ?_
        refine g_istore (pc' := 58) (lv' := [(4, .int (nI ((((rd σ 16 (cn ua)) + 1) + (rd σ 16 (cn ub))) - (mcom σ (cn ua) (cn ub))))), (3, .int (nI (mcom σ (cn ua) (cn ub)))), (0, .ref (g.2.1 15)), (1, .int (nI (cn ua))), (2, .int (nI (cn ub)))]) hC dX10_heal_56 rfl (by decide) rfl ?_
        refine g_aload_n (pc' := 59) (j := 2) hC dX10_heal_58 rfl rfl rfl ?_
        refine g_iload_n (pc' := 60) (j := 3) hC dX10_heal_59 rfl rfl rfl ?_
        refine g_iload_n (pc' := 61) (j := 4) hC dX10_heal_60 rfl rfl rfl ?_
        refine f_Vi (pc' := 64) (k := 15) (st := []) hC (m_conflictsOf x.2.1 g z0 (uv σ 15 0 (nI 0)) ((cn ua)) ((cn ub)) (by omega) (by omega) (hM0.len (by omega)) (hM0.len (by omega))) k_X10_conflictsOf wM_X10_209 (by decide) (by decide) (ct_15 g (uv σ 15 0 (nI 0))) rfl rfl rfl rfl (Nat.le_of_ble_eq_true rfl) dX10_heal_61 rfl (Nat.zero_le _) (Nat.zero_le _) ?_
        refine gg_topi (b := mcf σ (cn ua) (cn ub)) (by simp (disch := decide) only [mh_uv, mh_ur, mcomp_uv, rd_uv, rd_ur, uv_cell, ur_cell, uv_idx, uv_fun, rd_idx, ne_eq, not_false_eq_true, mcf, mts, mcom]) ?_
        refine g_if_ne (pc' := 67) (tgt := 84) hC dX10_heal_64 (by decide) rfl (fun c64 => ?_) (fun c64 => ?_)
        · skip
          have hno : ¬ mhc σ (cn ua) (cn ub) := (fun z => c64 z.1)
          refine g_aload_n (pc' := 85) (j := 2) hC dX10_heal_84 rfl rfl rfl ?_
          refine g_iconst (pc' := 86) (v := nI 2) hC dX10_heal_85 rfl rfl ?_
          refine f_Vi (pc' := 89) (k := 15) (st := []) hC (m_refuse x.2.1 g z0 (uv σ 15 0 (nI 0)) ((nI 2))) k_X10_refuse wM_X10_171 (by decide) (by decide) (ct_15 g (uv σ 15 0 (nI 0))) rfl rfl rfl rfl (Nat.le_of_ble_eq_true rfl) dX10_heal_86 rfl (Nat.zero_le _) (Nat.zero_le _) ?_
          refine g_ret hC dX10_heal_89 rfl ?_
          exact ⟨by unfold mhl; rw [cI_t (⟨c10, c18, c23⟩), cI_f (hno)], by unfold mhl; rw [cI_t (⟨c10, c18, c23⟩), cI_f (hno)]⟩
        · skip
          refine g_aload_n (pc' := 68) (j := 2) hC dX10_heal_67 rfl rfl rfl ?_
          refine gf_X10_4 (pc' := 71) hC wF_X10_79 dX10_heal_68 rfl ?_
          refine gg_topi (b := nI (rd σ 15 4)) ((uv_idx _ _ _ _ (by decide)).trans (h4.1)) ?_
          refine g_bipush (pc' := 73) (v := nI 8) hC dX10_heal_71 rfl rfl ?_
          refine n_icmp_eq (pc' := 76) (tgt := 84) hC dX10_heal_73 (by decide) rfl (by omega) (by omega) (fun c73 => ?_) (fun c73 => ?_)
          · skip
            have hno : ¬ mhc σ (cn ua) (cn ub) := (fun z => z.2.1 c73)
            refine g_aload_n (pc' := 85) (j := 2) hC dX10_heal_84 rfl rfl rfl ?_
            refine g_iconst (pc' := 86) (v := nI 2) hC dX10_heal_85 rfl rfl ?_
            refine f_Vi (pc' := 89) (k := 15) (st := []) hC (m_refuse x.2.1 g z0 (uv σ 15 0 (nI 0)) ((nI 2))) k_X10_refuse wM_X10_171 (by decide) (by decide) (ct_15 g (uv σ 15 0 (nI 0))) rfl rfl rfl rfl (Nat.le_of_ble_eq_true rfl) dX10_heal_86 rfl (Nat.zero_le _) (Nat.zero_le _) ?_
            refine g_ret hC dX10_heal_89 rfl ?_
            exact ⟨by unfold mhl; rw [cI_t (⟨c10, c18, c23⟩), cI_f (hno)], by unfold mhl; rw [cI_t (⟨c10, c18, c23⟩), cI_f (hno)]⟩
          · skip
            refine g_iload (pc' := 78) (j := 0) hC dX10_heal_76 rfl rfl ?_
            refine g_sipush (pc' := 81) (v := nI 200) hC dX10_heal_78 rfl rfl ?_
            refine n_icmp_le (pc' := 84) (tgt := 90) hC dX10_heal_81 (by decide) rfl (by omega) (by omega) (fun c81 => ?_) (fun c81 => ?_)
            · skip
              have hyes : mhc σ (cn ua) (cn ub) := ⟨c64, c73, c81⟩
              obtain ⟨hM1, e16y, e16m, r16y, r16m⟩ := mh1_f hM hcL hdL hyes
              refine g_aload_n (pc' := 91) (j := 2) hC dX10_heal_90 rfl rfl rfl ?_
              refine gf_X10_4 (pc' := 94) hC wF_X10_79 dX10_heal_91 rfl ?_
              refine gg_topi (b := nI (rd σ 15 4)) ((uv_idx _ _ _ _ (by decide)).trans (h4.1)) ?_
              refine g_istore (pc' := 96) (lv' := [(5, .int (nI (rd σ 15 4))), (4, .int (nI ((((rd σ 16 (cn ua)) + 1) + (rd σ 16 (cn ub))) - (mcom σ (cn ua) (cn ub))))), (3, .int (nI (mcom σ (cn ua) (cn ub)))), (0, .ref (g.2.1 15)), (1, .int (nI (cn ua))), (2, .int (nI (cn ub)))]) hC dX10_heal_94 rfl (by decide) rfl ?_
              refine g_aload_n (pc' := 97) (j := 3) hC dX10_heal_96 rfl rfl rfl ?_
              refine g_iload_n (pc' := 98) (j := 4) hC dX10_heal_97 rfl rfl rfl ?_
              refine g_iload (pc' := 100) (j := 0) hC dX10_heal_98 rfl rfl ?_
              refine g_aload_n (pc' := 101) (j := 3) hC dX10_heal_100 rfl rfl rfl ?_
              refine gf_X10_6 (pc' := 104) hC wF_X10_7 dX10_heal_101 rfl ?_
              refine g_iload_n (pc' := 105) (j := 4) hC dX10_heal_104 rfl rfl rfl ?_
              refine a_ld (pc' := 106) (k := 16) (i := cn ua) hC (by decide) (ct_16 g (uv σ 15 0 (nI 0))) (by omega) (by decide) dX10_heal_105 rfl ?_
              refine gg_topi (b := nI (rd σ 16 (cn ua))) ((uv_cell _ _ _ _ (by decide)).trans (hlx.1)) ?_
              refine f_Vv (pc' := 109) (k := 15) (st := []) hC (m_copies x.2.1 g z0 (uv σ 15 0 (nI 0)) ((cn ua)) ((rd σ 15 4)) ((rd σ 16 (cn ua))) (by omega) (by omega) (by omega) (by omega)) k_X10_copies wM_X10_195 (by decide) (by decide) (ct_15 g (uv σ 15 0 (nI 0))) rfl rfl rfl rfl (Nat.le_of_ble_eq_true rfl) dX10_heal_106 rfl (Nat.zero_le _) (Nat.zero_le _) ?_
              refine g_aload_n (pc' := 110) (j := 3) hC dX10_heal_109 rfl rfl rfl ?_
              refine g_iload (pc' := 112) (j := 0) hC dX10_heal_110 rfl rfl ?_
              refine g_iconst (pc' := 113) (v := nI 2) hC dX10_heal_112 rfl rfl ?_
              refine g_iconst (pc' := 114) (v := (-1)) hC dX10_heal_113 rfl rfl ?_
              refine g_iconst (pc' := 115) (v := (-1)) hC dX10_heal_114 rfl rfl ?_
              refine g_iconst (pc' := 116) (v := nI 0) hC dX10_heal_115 rfl rfl ?_
              refine g_aload_n (pc' := 117) (j := 3) hC dX10_heal_116 rfl rfl rfl ?_
              refine g_iload_n (pc' := 118) (j := 5) hC dX10_heal_117 rfl rfl rfl ?_
              refine g_aload_n (pc' := 119) (j := 3) hC dX10_heal_118 rfl rfl rfl ?_
              refine gf_X10_6 (pc' := 122) hC wF_X10_7 dX10_heal_119 rfl ?_
              refine g_iload_n (pc' := 123) (j := 5) hC dX10_heal_122 rfl rfl rfl ?_
              refine a_ld (pc' := 124) (k := 16) (i := cn ub) hC (by decide) (ct_16 g (mcps (uv σ 15 0 (nI 0)) (cn ua) (rd σ 15 4) (rd σ 16 (cn ua)))) (by omega) (by decide) dX10_heal_123 rfl ?_
              refine gg_topi (b := nI (rd σ 16 (cn ub))) ((mcps_len _ _ _ _ _ (by omega)).trans ((uv_cell _ _ _ _ (by decide)).trans hly.1)) ?_
              refine f_Vi (pc' := 127) (k := 15) (st := [.int (nI 0), .int ((-1)), .int ((-1)), .int (nI 2), .int (nI (rd σ 15 4)), .ref (g.2.1 15)]) hC (m_hashOf x.2.1 g z0 (mcps (uv σ 15 0 (nI 0)) (cn ua) (rd σ 15 4) (rd σ 16 (cn ua))) ((cn ub)) ((rd σ 16 (cn ub))) (by omega) (by omega)) k_X10_hashOf wM_X10_95 (by decide) (by decide) (ct_15 g (mcps (uv σ 15 0 (nI 0)) (cn ua) (rd σ 15 4) (rd σ 16 (cn ua)))) rfl rfl rfl rfl (Nat.le_of_ble_eq_true rfl) dX10_heal_124 rfl (Nat.zero_le _) (Nat.zero_le _) ?_
              refine f_Vv (pc' := 130) (k := 15) (st := []) hC (m_append x.2.1 g z0 (mcps (uv σ 15 0 (nI 0)) (cn ua) (rd σ 15 4) (rd σ 16 (cn ua))) ((rd σ 15 4)) ((nI 2)) (((-1))) (((-1))) ((nI 0)) ((mh (mcps (uv σ 15 0 (nI 0)) (cn ua) (rd σ 15 4) (rd σ 16 (cn ua))) (cn ub) (rd σ 16 (cn ub)))) (by omega) ((nb_of (uv_same _ _ _ _) (show rd σ 16 (cn ua) ≤ 199 by omega) (by decide)).1)) k_X10_append wM_X10_155 (by decide) (by decide) (ct_15 g (mcps (uv σ 15 0 (nI 0)) (cn ua) (rd σ 15 4) (rd σ 16 (cn ua)))) rfl rfl rfl rfl (Nat.le_of_ble_eq_true rfl) dX10_heal_127 rfl (Nat.zero_le _) (Nat.zero_le _) ?_
              refine g_iload_n (pc' := 131) (j := 2) hC dX10_heal_130 rfl rfl rfl ?_
              refine g_iconst (pc' := 132) (v := nI 1) hC dX10_heal_131 rfl rfl ?_
              refine n_iadd (pc' := 133) hC dX10_heal_132 rfl ?_
              refine g_istore (pc' := 135) (lv' := [(6, .int (nI ((mcom σ (cn ua) (cn ub)) + 1))), (5, .int (nI (rd σ 15 4))), (4, .int (nI ((((rd σ 16 (cn ua)) + 1) + (rd σ 16 (cn ub))) - (mcom σ (cn ua) (cn ub))))), (3, .int (nI (mcom σ (cn ua) (cn ub)))), (0, .ref (g.2.1 15)), (1, .int (nI (cn ua))), (2, .int (nI (cn ub)))]) hC dX10_heal_133 rfl (by decide) rfl ?_
              have L135 : ∀ (fu : Nat) (i : Nat), (i ≤ rd σ 16 (cn ub) - mcom σ (cn ua) (cn ub)) → (rd σ 16 (cn ub) - mcom σ (cn ua) (cn ub) - i) < fu → GG x g z0 8 0 0 (Qi x g z0 (FI ((mhl σ ua ub).1) ((mhl σ ua ub).2))) (hap (mh1 σ (cn ua) (cn ub)) (cn ub) (mcom σ (cn ua) (cn ub)) (rd σ 15 4) i) 135 [(6, .int (nI (mcom σ (cn ua) (cn ub) + 1 + i))), (5, .int (nI (rd σ 15 4))), (4, .int (nI ((((rd σ 16 (cn ua)) + 1) + (rd σ 16 (cn ub))) - (mcom σ (cn ua) (cn ub))))), (3, .int (nI (mcom σ (cn ua) (cn ub)))), (0, .ref (g.2.1 15)), (1, .int (nI (cn ua))), (2, .int (nI (cn ub)))] [] := by
                intro fu
                induction fu with
                | zero => intro i hi hz; exact absurd hz (Nat.not_lt_zero _)
                | succ fu ih135 =>
                  intro i hi hf
                  obtain ⟨hMi, hy9, hm9⟩ := hap_f hM1 (y := cn ub) (sm := mcom σ (cn ua) (cn ub)) (md := rd σ 15 4) (by omega) (by omega) (by omega) i (by omega) (by omega)
                  rw [r16y] at hy9
                  rw [r16m] at hm9
                  refine g_iload (pc' := 137) (j := 0) hC dX10_heal_135 rfl rfl ?_
                  refine g_aload_n (pc' := 138) (j := 4) hC dX10_heal_137 rfl rfl rfl ?_
                  refine gf_X10_6 (pc' := 141) hC wF_X10_7 dX10_heal_138 rfl ?_
                  refine g_iload_n (pc' := 142) (j := 6) hC dX10_heal_141 rfl rfl rfl ?_
                  refine a_ld (pc' := 143) (k := 16) (i := cn ub) hC (by decide) (ct_16 g (hap (mh1 σ (cn ua) (cn ub)) (cn ub) (mcom σ (cn ua) (cn ub)) (rd σ 15 4) i)) (by omega) (by decide) dX10_heal_142 rfl ?_
                  refine gg_topi (b := nI (rd σ 16 (cn ub))) (hy9) ?_
                  refine n_icmp_gt (pc' := 146) (tgt := 201) hC dX10_heal_143 (by decide) rfl (by omega) (by omega) (fun c143 => ?_) (fun c143 => ?_)
                  · skip
                    refine g_aload_n (pc' := 202) (j := 4) hC dX10_heal_201 rfl rfl rfl ?_
                    refine g_aload_n (pc' := 203) (j := 4) hC dX10_heal_202 rfl rfl rfl ?_
                    refine gf_X10_4 (pc' := 206) hC wF_X10_79 dX10_heal_203 rfl ?_
                    refine gg_topi (b := nI (rd σ 15 4)) ((hap_o _ _ _ _ _ _ (by decide)).trans ((mapp_o _ _ _ _ _ _ _ _ (by decide)).trans ((mcps_o _ _ _ _ _ (by decide)).trans ((uv_idx _ _ _ _ (by decide)).trans h4.1)))) ?_
                    refine g_iconst (pc' := 207) (v := nI 1) hC dX10_heal_206 rfl rfl ?_
                    refine n_iadd (pc' := 208) hC dX10_heal_207 rfl ?_
                    refine pf_X10_4 (pc' := 211) hC wF_X10_79 dX10_heal_208 rfl ?_
                    refine g_iconst (pc' := 212) (v := nI 0) hC dX10_heal_211 rfl rfl ?_
                    refine g_istore (pc' := 214) (lv' := [(6, .int (nI 0)), (5, .int (nI (rd σ 15 4))), (4, .int (nI ((((rd σ 16 (cn ua)) + 1) + (rd σ 16 (cn ub))) - (mcom σ (cn ua) (cn ub))))), (3, .int (nI (mcom σ (cn ua) (cn ub)))), (0, .ref (g.2.1 15)), (1, .int (nI (cn ua))), (2, .int (nI (cn ub)))]) hC dX10_heal_212 rfl (by decide) rfl ?_
                    have L214 : ∀ (fu : Nat) (c : Nat), (c ≤ rd σ 15 1) → (rd σ 15 1 - c) < fu → GG x g z0 8 0 0 (Qi x g z0 (FI ((mhl σ ua ub).1) ((mhl σ ua ub).2))) (hcv (mh2 σ (cn ua) (cn ub)) (cn ua) (cn ub) (mcom σ (cn ua) (cn ub)) (rd σ 15 4) c) 214 [(6, .int (nI c)), (5, .int (nI (rd σ 15 4))), (4, .int (nI ((((rd σ 16 (cn ua)) + 1) + (rd σ 16 (cn ub))) - (mcom σ (cn ua) (cn ub))))), (3, .int (nI (mcom σ (cn ua) (cn ub)))), (0, .ref (g.2.1 15)), (1, .int (nI (cn ua))), (2, .int (nI (cn ub)))] [] := by
                      intro fu
                      induction fu with
                      | zero => intro c hc hz; exact absurd hz (Nat.not_lt_zero _)
                      | succ fu ih214 =>
                        intro c hc hf
                        have hMc : MI (hcv (mh2 σ (cn ua) (cn ub)) (cn ua) (cn ub) (mcom σ (cn ua) (cn ub)) (rd σ 15 4) c) := MI_hcv (MI_u15 (hap_f hM1 (y := cn ub) (sm := mcom σ (cn ua) (cn ub)) (md := rd σ 15 4) (by omega) (by omega) (by omega) (rd σ 16 (cn ub) - mcom σ (cn ua) (cn ub)) (by omega) (by omega)).1 (by omega)) _ _ _ (by omega) c
                        refine g_iload (pc' := 216) (j := 0) hC dX10_heal_214 rfl rfl ?_
                        refine g_aload_n (pc' := 217) (j := 4) hC dX10_heal_216 rfl rfl rfl ?_
                        refine gf_X10_1 (pc' := 220) hC wF_X10_69 dX10_heal_217 rfl ?_
                        refine gg_topi (b := nI (rd σ 15 1)) ((hcv_o _ _ _ _ _ _ _ (by decide)).trans ((uv_idx _ _ _ _ (by decide)).trans ((hap_o _ _ _ _ _ _ (by decide)).trans ((mapp_o _ _ _ _ _ _ _ _ (by decide)).trans ((mcps_o _ _ _ _ _ (by decide)).trans ((uv_idx _ _ _ _ (by decide)).trans hM.1.1.1)))))) ?_
                        refine n_icmp_ge (pc' := 223) (tgt := 276) hC dX10_heal_220 (by decide) rfl (by omega) (by omega) (fun c220 => ?_) (fun c220 => ?_)
                        · skip
                          refine g_iload (pc' := 278) (j := 1) hC dX10_heal_276 rfl rfl ?_
                          refine g_ret hC dX10_heal_278 rfl ?_
                          exact ⟨by unfold mhl; rw [cI_t ⟨c10, c18, c23⟩, cI_t hyes], by unfold mhl; rw [cI_t ⟨c10, c18, c23⟩, cI_t hyes, show rd σ 15 1 = c by omega]⟩
                        · skip
                          have hs9 := hMc.see (c := c) (by omega)
                          have hs92 := hs9.2
                          refine g_aload_n (pc' := 224) (j := 4) hC dX10_heal_223 rfl rfl rfl ?_
                          refine gf_X10_13 (pc' := 227) hC wF_X10_31 dX10_heal_224 rfl ?_
                          refine g_iload (pc' := 229) (j := 0) hC dX10_heal_227 rfl rfl ?_
                          refine a_ld (pc' := 230) (k := 23) (i := c) hC (by decide) (ct_23 g (hcv (mh2 σ (cn ua) (cn ub)) (cn ua) (cn ub) (mcom σ (cn ua) (cn ub)) (rd σ 15 4) c)) (by omega) (by decide) dX10_heal_229 rfl ?_
                          refine gg_topi (b := nI (rd (hcv (mh2 σ (cn ua) (cn ub)) (cn ua) (cn ub) (mcom σ (cn ua) (cn ub)) (rd σ 15 4) c) 23 c)) (hs9.1) ?_
                          refine g_iload_n (pc' := 231) (j := 5) hC dX10_heal_230 rfl rfl rfl ?_
                          refine n_icmp_eq (pc' := 234) (tgt := 245) hC dX10_heal_231 (by decide) rfl (by omega) (by omega) (fun c231 => ?_) (fun c231 => ?_)
                          · skip
                            refine g_aload_n (pc' := 246) (j := 4) hC dX10_heal_245 rfl rfl rfl ?_
                            refine g_iload (pc' := 248) (j := 0) hC dX10_heal_246 rfl rfl ?_
                            refine g_aload_n (pc' := 249) (j := 4) hC dX10_heal_248 rfl rfl rfl ?_
                            refine gf_X10_13 (pc' := 252) hC wF_X10_31 dX10_heal_249 rfl ?_
                            refine g_iload (pc' := 254) (j := 0) hC dX10_heal_252 rfl rfl ?_
                            refine a_ld (pc' := 255) (k := 23) (i := c) hC (by decide) (ct_23 g (hcv (mh2 σ (cn ua) (cn ub)) (cn ua) (cn ub) (mcom σ (cn ua) (cn ub)) (rd σ 15 4) c)) (by omega) (by decide) dX10_heal_254 rfl ?_
                            refine gg_topi (b := nI (rd (hcv (mh2 σ (cn ua) (cn ub)) (cn ua) (cn ub) (mcom σ (cn ua) (cn ub)) (rd σ 15 4) c) 23 c)) (hs9.1) ?_
                            refine g_iload_n (pc' := 256) (j := 6) hC dX10_heal_255 rfl rfl rfl ?_
                            refine n_icmp_ne (pc' := 259) (tgt := 263) hC dX10_heal_256 (by decide) rfl (by omega) (by omega) (fun c256 => ?_) (fun c256 => ?_)
                            · skip
                              refine g_iconst (pc' := 264) (v := nI 0) hC dX10_heal_263 rfl rfl ?_
                              refine g_iload_n (pc' := 265) (j := 3) hC dX10_heal_264 rfl rfl rfl ?_
                              refine g_iload (pc' := 267) (j := 1) hC dX10_heal_265 rfl rfl ?_
                              refine f_Vv (pc' := 270) (k := 15) (st := []) hC (m_comesOver x.2.1 g z0 (hcv (mh2 σ (cn ua) (cn ub)) (cn ua) (cn ub) (mcom σ (cn ua) (cn ub)) (rd σ 15 4) c) c ((nI 0)) ((mcom σ (cn ua) (cn ub))) ((rd σ 15 4)) (by omega) (hMc) (by omega) (by omega)) k_X10_comesOver wM_X10_212 (by decide) (by decide) (ct_15 g (hcv (mh2 σ (cn ua) (cn ub)) (cn ua) (cn ub) (mcom σ (cn ua) (cn ub)) (rd σ 15 4) c)) rfl rfl rfl rfl (Nat.le_of_ble_eq_true rfl) dX10_heal_267 rfl (Nat.zero_le _) (Nat.zero_le _) ?_
                              refine g_iinc (pc' := 273) (j := 0) (u := nI (c + 1)) (lv' := [(6, .int (nI (c + 1))), (5, .int (nI (rd σ 15 4))), (4, .int (nI ((((rd σ 16 (cn ua)) + 1) + (rd σ 16 (cn ub))) - (mcom σ (cn ua) (cn ub))))), (3, .int (nI (mcom σ (cn ua) (cn ub)))), (0, .ref (g.2.1 15)), (1, .int (nI (cn ua))), (2, .int (nI (cn ub)))]) hC dX10_heal_270 rfl rfl (nI_add c 1) (by decide) rfl ?_
                              refine g_goto (tgt := 214) hC dX10_heal_273 (by decide) ?_
                              refine gg_st (σ' := (hcv (mh2 σ (cn ua) (cn ub)) (cn ua) (cn ub) (mcom σ (cn ua) (cn ub)) (rd σ 15 4) (c + 1))) (by first | (refine Eq.trans ?_ (cI_t (by first | exact Or.inl c231 | exact Or.inr c242)).symm; first | rw [cI_t c256] | rw [cI_f c256]) | exact (cI_f (fun z => z.elim c231 c242)).symm) ?_
                              refine gg_lv (lv' := [(6, .int (nI (c + 1))), (5, .int (nI (rd σ 15 4))), (4, .int (nI ((((rd σ 16 (cn ua)) + 1) + (rd σ 16 (cn ub))) - (mcom σ (cn ua) (cn ub))))), (3, .int (nI (mcom σ (cn ua) (cn ub)))), (0, .ref (g.2.1 15)), (1, .int (nI (cn ua))), (2, .int (nI (cn ub)))]) ?_ [0, 1, 2, 3, 4, 5, 6] rfl
                              exact ih214 (c + 1) (by omega) (by omega)
                            · skip
                              refine g_iconst (pc' := 260) (v := nI 1) hC dX10_heal_259 rfl rfl ?_
                              refine g_goto (tgt := 264) hC dX10_heal_260 (by decide) ?_
                              refine g_iload_n (pc' := 265) (j := 3) hC dX10_heal_264 rfl rfl rfl ?_
                              refine g_iload (pc' := 267) (j := 1) hC dX10_heal_265 rfl rfl ?_
                              refine f_Vv (pc' := 270) (k := 15) (st := []) hC (m_comesOver x.2.1 g z0 (hcv (mh2 σ (cn ua) (cn ub)) (cn ua) (cn ub) (mcom σ (cn ua) (cn ub)) (rd σ 15 4) c) c ((nI 1)) ((mcom σ (cn ua) (cn ub))) ((rd σ 15 4)) (by omega) (hMc) (by omega) (by omega)) k_X10_comesOver wM_X10_212 (by decide) (by decide) (ct_15 g (hcv (mh2 σ (cn ua) (cn ub)) (cn ua) (cn ub) (mcom σ (cn ua) (cn ub)) (rd σ 15 4) c)) rfl rfl rfl rfl (Nat.le_of_ble_eq_true rfl) dX10_heal_267 rfl (Nat.zero_le _) (Nat.zero_le _) ?_
                              refine g_iinc (pc' := 273) (j := 0) (u := nI (c + 1)) (lv' := [(6, .int (nI (c + 1))), (5, .int (nI (rd σ 15 4))), (4, .int (nI ((((rd σ 16 (cn ua)) + 1) + (rd σ 16 (cn ub))) - (mcom σ (cn ua) (cn ub))))), (3, .int (nI (mcom σ (cn ua) (cn ub)))), (0, .ref (g.2.1 15)), (1, .int (nI (cn ua))), (2, .int (nI (cn ub)))]) hC dX10_heal_270 rfl rfl (nI_add c 1) (by decide) rfl ?_
                              refine g_goto (tgt := 214) hC dX10_heal_273 (by decide) ?_
                              refine gg_st (σ' := (hcv (mh2 σ (cn ua) (cn ub)) (cn ua) (cn ub) (mcom σ (cn ua) (cn ub)) (rd σ 15 4) (c + 1))) (by first | (refine Eq.trans ?_ (cI_t (by first | exact Or.inl c231 | exact Or.inr c242)).symm; first | rw [cI_t c256] | rw [cI_f c256]) | exact (cI_f (fun z => z.elim c231 c242)).symm) ?_
                              refine gg_lv (lv' := [(6, .int (nI (c + 1))), (5, .int (nI (rd σ 15 4))), (4, .int (nI ((((rd σ 16 (cn ua)) + 1) + (rd σ 16 (cn ub))) - (mcom σ (cn ua) (cn ub))))), (3, .int (nI (mcom σ (cn ua) (cn ub)))), (0, .ref (g.2.1 15)), (1, .int (nI (cn ua))), (2, .int (nI (cn ub)))]) ?_ [0, 1, 2, 3, 4, 5, 6] rfl
                              exact ih214 (c + 1) (by omega) (by omega)
                          · skip
                            refine g_aload_n (pc' := 235) (j := 4) hC dX10_heal_234 rfl rfl rfl ?_
                            refine gf_X10_13 (pc' := 238) hC wF_X10_31 dX10_heal_235 rfl ?_
                            refine g_iload (pc' := 240) (j := 0) hC dX10_heal_238 rfl rfl ?_
                            refine a_ld (pc' := 241) (k := 23) (i := c) hC (by decide) (ct_23 g (hcv (mh2 σ (cn ua) (cn ub)) (cn ua) (cn ub) (mcom σ (cn ua) (cn ub)) (rd σ 15 4) c)) (by omega) (by decide) dX10_heal_240 rfl ?_
                            refine gg_topi (b := nI (rd (hcv (mh2 σ (cn ua) (cn ub)) (cn ua) (cn ub) (mcom σ (cn ua) (cn ub)) (rd σ 15 4) c) 23 c)) (hs9.1) ?_
                            refine g_iload_n (pc' := 242) (j := 6) hC dX10_heal_241 rfl rfl rfl ?_
                            refine n_icmp_ne (pc' := 245) (tgt := 270) hC dX10_heal_242 (by decide) rfl (by omega) (by omega) (fun c242 => ?_) (fun c242 => ?_)
                            · skip
                              refine g_iinc (pc' := 273) (j := 0) (u := nI (c + 1)) (lv' := [(6, .int (nI (c + 1))), (5, .int (nI (rd σ 15 4))), (4, .int (nI ((((rd σ 16 (cn ua)) + 1) + (rd σ 16 (cn ub))) - (mcom σ (cn ua) (cn ub))))), (3, .int (nI (mcom σ (cn ua) (cn ub)))), (0, .ref (g.2.1 15)), (1, .int (nI (cn ua))), (2, .int (nI (cn ub)))]) hC dX10_heal_270 rfl rfl (nI_add c 1) (by decide) rfl ?_
                              refine g_goto (tgt := 214) hC dX10_heal_273 (by decide) ?_
                              refine gg_st (σ' := (hcv (mh2 σ (cn ua) (cn ub)) (cn ua) (cn ub) (mcom σ (cn ua) (cn ub)) (rd σ 15 4) (c + 1))) (by first | (refine Eq.trans ?_ (cI_t (by first | exact Or.inl c231 | exact Or.inr c242)).symm; first | rw [cI_t c256] | rw [cI_f c256]) | exact (cI_f (fun z => z.elim c231 c242)).symm) ?_
                              refine gg_lv (lv' := [(6, .int (nI (c + 1))), (5, .int (nI (rd σ 15 4))), (4, .int (nI ((((rd σ 16 (cn ua)) + 1) + (rd σ 16 (cn ub))) - (mcom σ (cn ua) (cn ub))))), (3, .int (nI (mcom σ (cn ua) (cn ub)))), (0, .ref (g.2.1 15)), (1, .int (nI (cn ua))), (2, .int (nI (cn ub)))]) ?_ [0, 1, 2, 3, 4, 5, 6] rfl
                              exact ih214 (c + 1) (by omega) (by omega)
                            · skip
                              refine g_aload_n (pc' := 246) (j := 4) hC dX10_heal_245 rfl rfl rfl ?_
                              refine g_iload (pc' := 248) (j := 0) hC dX10_heal_246 rfl rfl ?_
                              refine g_aload_n (pc' := 249) (j := 4) hC dX10_heal_248 rfl rfl rfl ?_
                              refine gf_X10_13 (pc' := 252) hC wF_X10_31 dX10_heal_249 rfl ?_
                              refine g_iload (pc' := 254) (j := 0) hC dX10_heal_252 rfl rfl ?_
                              refine a_ld (pc' := 255) (k := 23) (i := c) hC (by decide) (ct_23 g (hcv (mh2 σ (cn ua) (cn ub)) (cn ua) (cn ub) (mcom σ (cn ua) (cn ub)) (rd σ 15 4) c)) (by omega) (by decide) dX10_heal_254 rfl ?_
                              refine gg_topi (b := nI (rd (hcv (mh2 σ (cn ua) (cn ub)) (cn ua) (cn ub) (mcom σ (cn ua) (cn ub)) (rd σ 15 4) c) 23 c)) (hs9.1) ?_
                              refine g_iload_n (pc' := 256) (j := 6) hC dX10_heal_255 rfl rfl rfl ?_
                              refine n_icmp_ne (pc' := 259) (tgt := 263) hC dX10_heal_256 (by decide) rfl (by omega) (by omega) (fun c256 => ?_) (fun c256 => ?_)
                              · skip
                                refine g_iconst (pc' := 264) (v := nI 0) hC dX10_heal_263 rfl rfl ?_
                                refine g_iload_n (pc' := 265) (j := 3) hC dX10_heal_264 rfl rfl rfl ?_
                                refine g_iload (pc' := 267) (j := 1) hC dX10_heal_265 rfl rfl ?_
                                refine f_Vv (pc' := 270) (k := 15) (st := []) hC (m_comesOver x.2.1 g z0 (hcv (mh2 σ (cn ua) (cn ub)) (cn ua) (cn ub) (mcom σ (cn ua) (cn ub)) (rd σ 15 4) c) c ((nI 0)) ((mcom σ (cn ua) (cn ub))) ((rd σ 15 4)) (by omega) (hMc) (by omega) (by omega)) k_X10_comesOver wM_X10_212 (by decide) (by decide) (ct_15 g (hcv (mh2 σ (cn ua) (cn ub)) (cn ua) (cn ub) (mcom σ (cn ua) (cn ub)) (rd σ 15 4) c)) rfl rfl rfl rfl (Nat.le_of_ble_eq_true rfl) dX10_heal_267 rfl (Nat.zero_le _) (Nat.zero_le _) ?_
                                refine g_iinc (pc' := 273) (j := 0) (u := nI (c + 1)) (lv' := [(6, .int (nI (c + 1))), (5, .int (nI (rd σ 15 4))), (4, .int (nI ((((rd σ 16 (cn ua)) + 1) + (rd σ 16 (cn ub))) - (mcom σ (cn ua) (cn ub))))), (3, .int (nI (mcom σ (cn ua) (cn ub)))), (0, .ref (g.2.1 15)), (1, .int (nI (cn ua))), (2, .int (nI (cn ub)))]) hC dX10_heal_270 rfl rfl (nI_add c 1) (by decide) rfl ?_
                                refine g_goto (tgt := 214) hC dX10_heal_273 (by decide) ?_
                                refine gg_st (σ' := (hcv (mh2 σ (cn ua) (cn ub)) (cn ua) (cn ub) (mcom σ (cn ua) (cn ub)) (rd σ 15 4) (c + 1))) (by first | (refine Eq.trans ?_ (cI_t (by first | exact Or.inl c231 | exact Or.inr c242)).symm; first | rw [cI_t c256] | rw [cI_f c256]) | exact (cI_f (fun z => z.elim c231 c242)).symm) ?_
                                refine gg_lv (lv' := [(6, .int (nI (c + 1))), (5, .int (nI (rd σ 15 4))), (4, .int (nI ((((rd σ 16 (cn ua)) + 1) + (rd σ 16 (cn ub))) - (mcom σ (cn ua) (cn ub))))), (3, .int (nI (mcom σ (cn ua) (cn ub)))), (0, .ref (g.2.1 15)), (1, .int (nI (cn ua))), (2, .int (nI (cn ub)))]) ?_ [0, 1, 2, 3, 4, 5, 6] rfl
                                exact ih214 (c + 1) (by omega) (by omega)
                              · skip
                                refine g_iconst (pc' := 260) (v := nI 1) hC dX10_heal_259 rfl rfl ?_
                                refine g_goto (tgt := 264) hC dX10_heal_260 (by decide) ?_
                                refine g_iload_n (pc' := 265) (j := 3) hC dX10_heal_264 rfl rfl rfl ?_
                                refine g_iload (pc' := 267) (j := 1) hC dX10_heal_265 rfl rfl ?_
                                refine f_Vv (pc' := 270) (k := 15) (st := []) hC (m_comesOver x.2.1 g z0 (hcv (mh2 σ (cn ua) (cn ub)) (cn ua) (cn ub) (mcom σ (cn ua) (cn ub)) (rd σ 15 4) c) c ((nI 1)) ((mcom σ (cn ua) (cn ub))) ((rd σ 15 4)) (by omega) (hMc) (by omega) (by omega)) k_X10_comesOver wM_X10_212 (by decide) (by decide) (ct_15 g (hcv (mh2 σ (cn ua) (cn ub)) (cn ua) (cn ub) (mcom σ (cn ua) (cn ub)) (rd σ 15 4) c)) rfl rfl rfl rfl (Nat.le_of_ble_eq_true rfl) dX10_heal_267 rfl (Nat.zero_le _) (Nat.zero_le _) ?_
                                refine g_iinc (pc' := 273) (j := 0) (u := nI (c + 1)) (lv' := [(6, .int (nI (c + 1))), (5, .int (nI (rd σ 15 4))), (4, .int (nI ((((rd σ 16 (cn ua)) + 1) + (rd σ 16 (cn ub))) - (mcom σ (cn ua) (cn ub))))), (3, .int (nI (mcom σ (cn ua) (cn ub)))), (0, .ref (g.2.1 15)), (1, .int (nI (cn ua))), (2, .int (nI (cn ub)))]) hC dX10_heal_270 rfl rfl (nI_add c 1) (by decide) rfl ?_
                                refine g_goto (tgt := 214) hC dX10_heal_273 (by decide) ?_
                                refine gg_st (σ' := (hcv (mh2 σ (cn ua) (cn ub)) (cn ua) (cn ub) (mcom σ (cn ua) (cn ub)) (rd σ 15 4) (c + 1))) (by first | (refine Eq.trans ?_ (cI_t (by first | exact Or.inl c231 | exact Or.inr c242)).symm; first | rw [cI_t c256] | rw [cI_f c256]) | exact (cI_f (fun z => z.elim c231 c242)).symm) ?_
                                refine gg_lv (lv' := [(6, .int (nI (c + 1))), (5, .int (nI (rd σ 15 4))), (4, .int (nI ((((rd σ 16 (cn ua)) + 1) + (rd σ 16 (cn ub))) - (mcom σ (cn ua) (cn ub))))), (3, .int (nI (mcom σ (cn ua) (cn ub)))), (0, .ref (g.2.1 15)), (1, .int (nI (cn ua))), (2, .int (nI (cn ub)))]) ?_ [0, 1, 2, 3, 4, 5, 6] rfl
                                exact ih214 (c + 1) (by omega) (by omega)
                    refine gg_st (σ' := (hcv (mh2 σ (cn ua) (cn ub)) (cn ua) (cn ub) (mcom σ (cn ua) (cn ub)) (rd σ 15 4) 0)) (by rw [show i = rd σ 16 (cn ub) - mcom σ (cn ua) (cn ub) by omega]; rfl) ?_
                    refine gg_lv (lv' := [(6, .int (nI 0)), (5, .int (nI (rd σ 15 4))), (4, .int (nI ((((rd σ 16 (cn ua)) + 1) + (rd σ 16 (cn ub))) - (mcom σ (cn ua) (cn ub))))), (3, .int (nI (mcom σ (cn ua) (cn ub)))), (0, .ref (g.2.1 15)), (1, .int (nI (cn ua))), (2, .int (nI (cn ub)))]) ?_ [0, 1, 2, 3, 4, 5, 6] rfl
                    exact L214 (rd σ 15 1 - 0 + 1) 0 (by omega) (by omega)
                  · skip
                    refine g_iload_n (pc' := 147) (j := 6) hC dX10_heal_146 rfl rfl rfl ?_
                    refine g_iload (pc' := 149) (j := 0) hC dX10_heal_147 rfl rfl ?_
                    refine f_Si (pc' := 152) (st := []) hC (m_at x.2.1 g z0 (hap (mh1 σ (cn ua) (cn ub)) (cn ub) (mcom σ (cn ua) (cn ub)) (rd σ 15 4) i) ((cn ub)) ((mcom σ (cn ua) (cn ub) + 1 + i)) (by omega)) k_X10_at wM_X10_86 (by decide) rfl rfl (Nat.le_of_ble_eq_true rfl) dX10_heal_149 rfl (Nat.zero_le _) (Nat.zero_le _) ?_
                    refine g_istore (pc' := 154) (lv' := [(7, .int (nI (200 * (cn ub) + (mcom σ (cn ua) (cn ub) + 1 + i) - 1))), (6, .int (nI (mcom σ (cn ua) (cn ub) + 1 + i))), (5, .int (nI (rd σ 15 4))), (4, .int (nI ((((rd σ 16 (cn ua)) + 1) + (rd σ 16 (cn ub))) - (mcom σ (cn ua) (cn ub))))), (3, .int (nI (mcom σ (cn ua) (cn ub)))), (0, .ref (g.2.1 15)), (1, .int (nI (cn ua))), (2, .int (nI (cn ub)))]) hC dX10_heal_152 rfl (by decide) rfl ?_
                    refine g_aload_n (pc' := 155) (j := 5) hC dX10_heal_154 rfl rfl rfl ?_
                    refine g_iload (pc' := 157) (j := 2) hC dX10_heal_155 rfl rfl ?_
                    refine g_aload_n (pc' := 158) (j := 5) hC dX10_heal_157 rfl rfl rfl ?_
                    refine gf_X10_7 (pc' := 161) hC wF_X10_13 dX10_heal_158 rfl ?_
                    refine g_iload (pc' := 163) (j := 0) hC dX10_heal_161 rfl rfl ?_
                    refine a_ld (pc' := 164) (k := 17) (i := 200 * (cn ub) + (mcom σ (cn ua) (cn ub) + 1 + i) - 1) hC (by decide) (ct_17 g (hap (mh1 σ (cn ua) (cn ub)) (cn ub) (mcom σ (cn ua) (cn ub)) (rd σ 15 4) i)) (by omega) (by decide) dX10_heal_163 rfl ?_
                    refine g_aload_n (pc' := 165) (j := 5) hC dX10_heal_164 rfl rfl rfl ?_
                    refine gf_X10_8 (pc' := 168) hC wF_X10_16 dX10_heal_165 rfl ?_
                    refine g_iload (pc' := 170) (j := 0) hC dX10_heal_168 rfl rfl ?_
                    refine a_ld (pc' := 171) (k := 18) (i := 200 * (cn ub) + (mcom σ (cn ua) (cn ub) + 1 + i) - 1) hC (by decide) (ct_18 g (hap (mh1 σ (cn ua) (cn ub)) (cn ub) (mcom σ (cn ua) (cn ub)) (rd σ 15 4) i)) (by omega) (by decide) dX10_heal_170 rfl ?_
                    refine g_aload_n (pc' := 172) (j := 5) hC dX10_heal_171 rfl rfl rfl ?_
                    refine gf_X10_9 (pc' := 175) hC wF_X10_19 dX10_heal_172 rfl ?_
                    refine g_iload (pc' := 177) (j := 0) hC dX10_heal_175 rfl rfl ?_
                    refine a_ld (pc' := 178) (k := 19) (i := 200 * (cn ub) + (mcom σ (cn ua) (cn ub) + 1 + i) - 1) hC (by decide) (ct_19 g (hap (mh1 σ (cn ua) (cn ub)) (cn ub) (mcom σ (cn ua) (cn ub)) (rd σ 15 4) i)) (by omega) (by decide) dX10_heal_177 rfl ?_
                    refine g_aload_n (pc' := 179) (j := 5) hC dX10_heal_178 rfl rfl rfl ?_
                    refine gf_X10_10 (pc' := 182) hC wF_X10_22 dX10_heal_179 rfl ?_
                    refine g_iload (pc' := 184) (j := 0) hC dX10_heal_182 rfl rfl ?_
                    refine a_ld (pc' := 185) (k := 20) (i := 200 * (cn ub) + (mcom σ (cn ua) (cn ub) + 1 + i) - 1) hC (by decide) (ct_20 g (hap (mh1 σ (cn ua) (cn ub)) (cn ub) (mcom σ (cn ua) (cn ub)) (rd σ 15 4) i)) (by omega) (by decide) dX10_heal_184 rfl ?_
                    refine g_aload_n (pc' := 186) (j := 5) hC dX10_heal_185 rfl rfl rfl ?_
                    refine gf_X10_11 (pc' := 189) hC wF_X10_25 dX10_heal_186 rfl ?_
                    refine g_iload (pc' := 191) (j := 0) hC dX10_heal_189 rfl rfl ?_
                    refine a_ld (pc' := 192) (k := 21) (i := 200 * (cn ub) + (mcom σ (cn ua) (cn ub) + 1 + i) - 1) hC (by decide) (ct_21 g (hap (mh1 σ (cn ua) (cn ub)) (cn ub) (mcom σ (cn ua) (cn ub)) (rd σ 15 4) i)) (by omega) (by decide) dX10_heal_191 rfl ?_
                    refine f_Vv (pc' := 195) (k := 15) (st := []) hC (m_append x.2.1 g z0 (hap (mh1 σ (cn ua) (cn ub)) (cn ub) (mcom σ (cn ua) (cn ub)) (rd σ 15 4) i) ((rd σ 15 4)) (((hap (mh1 σ (cn ua) (cn ub)) (cn ub) (mcom σ (cn ua) (cn ub)) (rd σ 15 4) i).1 17 (200 * (cn ub) + (mcom σ (cn ua) (cn ub) + 1 + i) - 1))) (((hap (mh1 σ (cn ua) (cn ub)) (cn ub) (mcom σ (cn ua) (cn ub)) (rd σ 15 4) i).1 18 (200 * (cn ub) + (mcom σ (cn ua) (cn ub) + 1 + i) - 1))) (((hap (mh1 σ (cn ua) (cn ub)) (cn ub) (mcom σ (cn ua) (cn ub)) (rd σ 15 4) i).1 19 (200 * (cn ub) + (mcom σ (cn ua) (cn ub) + 1 + i) - 1))) (((hap (mh1 σ (cn ua) (cn ub)) (cn ub) (mcom σ (cn ua) (cn ub)) (rd σ 15 4) i).1 20 (200 * (cn ub) + (mcom σ (cn ua) (cn ub) + 1 + i) - 1))) (((hap (mh1 σ (cn ua) (cn ub)) (cn ub) (mcom σ (cn ua) (cn ub)) (rd σ 15 4) i).1 21 (200 * (cn ub) + (mcom σ (cn ua) (cn ub) + 1 + i) - 1))) (by omega) ((nb_of hm9 (show rd σ 16 (cn ua) + 1 + i ≤ 199 by omega) (by decide)).1)) k_X10_append wM_X10_155 (by decide) (by decide) (ct_15 g (hap (mh1 σ (cn ua) (cn ub)) (cn ub) (mcom σ (cn ua) (cn ub)) (rd σ 15 4) i)) rfl rfl rfl rfl (Nat.le_of_ble_eq_true rfl) dX10_heal_192 rfl (Nat.zero_le _) (Nat.zero_le _) ?_
                    refine g_iinc (pc' := 198) (j := 1) (u := nI (mcom σ (cn ua) (cn ub) + 1 + i + 1)) (lv' := [(6, .int (nI (mcom σ (cn ua) (cn ub) + 1 + i + 1))), (7, .int (nI (200 * (cn ub) + (mcom σ (cn ua) (cn ub) + 1 + i) - 1))), (5, .int (nI (rd σ 15 4))), (4, .int (nI ((((rd σ 16 (cn ua)) + 1) + (rd σ 16 (cn ub))) - (mcom σ (cn ua) (cn ub))))), (3, .int (nI (mcom σ (cn ua) (cn ub)))), (0, .ref (g.2.1 15)), (1, .int (nI (cn ua))), (2, .int (nI (cn ub)))]) hC dX10_heal_195 rfl rfl (nI_add (mcom σ (cn ua) (cn ub) + 1 + i) 1) (by decide) rfl ?_
                    refine g_goto (tgt := 135) hC dX10_heal_198 (by decide) ?_
                    refine gg_st (σ' := (hap (mh1 σ (cn ua) (cn ub)) (cn ub) (mcom σ (cn ua) (cn ub)) (rd σ 15 4) (i + 1))) (rfl) ?_
                    refine gg_lv (lv' := [(6, .int (nI (mcom σ (cn ua) (cn ub) + 1 + i + 1))), (5, .int (nI (rd σ 15 4))), (4, .int (nI ((((rd σ 16 (cn ua)) + 1) + (rd σ 16 (cn ub))) - (mcom σ (cn ua) (cn ub))))), (3, .int (nI (mcom σ (cn ua) (cn ub)))), (0, .ref (g.2.1 15)), (1, .int (nI (cn ua))), (2, .int (nI (cn ub)))]) ?_ [0, 2, 3, 4, 5, 6, 7] rfl
                    exact ih135 (i + 1) (by omega) (by omega)
              refine gg_st (σ' := (hap (mh1 σ (cn ua) (cn ub)) (cn ub) (mcom σ (cn ua) (cn ub)) (rd σ 15 4) 0)) (rfl) ?_
              refine gg_lv (lv' := [(6, .int (nI ((mcom σ (cn ua) (cn ub)) + 1))), (5, .int (nI (rd σ 15 4))), (4, .int (nI ((((rd σ 16 (cn ua)) + 1) + (rd σ 16 (cn ub))) - (mcom σ (cn ua) (cn ub))))), (3, .int (nI (mcom σ (cn ua) (cn ub)))), (0, .ref (g.2.1 15)), (1, .int (nI (cn ua))), (2, .int (nI (cn ub)))]) ?_ [0, 1, 2, 3, 4, 5, 6] rfl
              exact L135 (rd σ 16 (cn ub) - mcom σ (cn ua) (cn ub) - 0 + 1) 0 (by omega) (by omega)
            · skip
              have hno : ¬ mhc σ (cn ua) (cn ub) := (fun z => absurd z.2.2 (by omega))
              refine g_aload_n (pc' := 85) (j := 2) hC dX10_heal_84 rfl rfl rfl ?_
              refine g_iconst (pc' := 86) (v := nI 2) hC dX10_heal_85 rfl rfl ?_
              refine f_Vi (pc' := 89) (k := 15) (st := []) hC (m_refuse x.2.1 g z0 (uv σ 15 0 (nI 0)) ((nI 2))) k_X10_refuse wM_X10_171 (by decide) (by decide) (ct_15 g (uv σ 15 0 (nI 0))) rfl rfl rfl rfl (Nat.le_of_ble_eq_true rfl) dX10_heal_86 rfl (Nat.zero_le _) (Nat.zero_le _) ?_
              refine g_ret hC dX10_heal_89 rfl ?_
              exact ⟨by unfold mhl; rw [cI_t (⟨c10, c18, c23⟩), cI_f (hno)], by unfold mhl; rw [cI_t (⟨c10, c18, c23⟩), cI_f (hno)]⟩
      · skip
        refine g_aload_n (pc' := 27) (j := 0) hC dX10_heal_26 rfl rfl rfl ?_
        refine g_iconst (pc' := 28) (v := nI 1) hC dX10_heal_27 rfl rfl ?_
        refine f_Vi (pc' := 31) (k := 15) (st := []) hC (m_refuse x.2.1 g z0 (uv σ 15 0 (nI 0)) ((nI 1))) k_X10_refuse wM_X10_171 (by decide) (by decide) (ct_15 g (uv σ 15 0 (nI 0))) rfl rfl rfl rfl (Nat.le_of_ble_eq_true rfl) dX10_heal_28 rfl (Nat.zero_le _) (Nat.zero_le _) ?_
        refine g_ret hC dX10_heal_31 rfl ?_
        first | exact ⟨by unfold mhl; rw [cI_f (fun z => c10 z.1)], by unfold mhl; rw [cI_f (fun z => c10 z.1)]⟩ | exact ⟨by unfold mhl; rw [cI_f (fun z => c18 z.2.1)], by unfold mhl; rw [cI_f (fun z => c18 z.2.1)]⟩ | exact ⟨by unfold mhl; rw [cI_f (fun z => z.2.2 c23)], by unfold mhl; rw [cI_f (fun z => z.2.2 c23)]⟩
