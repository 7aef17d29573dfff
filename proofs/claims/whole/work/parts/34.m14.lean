set_option maxHeartbeats 4000000 in
set_option maxRecDepth 20000 in
theorem m_readService (l : Launch) (g : Lay) (z0 : Nat) (σ : St)  (hP : PI σ)  : CTi l yX10_readService cX10_readService 1 (some .boolean) 4 g z0 [.ref (g.2.1 15)] σ (FI (bI ((mSrv σ).1)) ((mSrv σ).2)) := by
  refine CTi.of (by decide) (Nat.le_of_ble_eq_true rfl) ?_
  intro x hxl hxa hC
  have hC : Cx x RX10 cX10_readService 1 (some .boolean) 4 g z0 := hC
  have p1 : PI (sT σ 3633494675) := PI_sT hP _
  have p2 : PI (sN (sT σ 3633494675) (nI 2) (nI 6)) := PI_sN p1 _ _
  have p2b : PI (uv (sN (sT σ 3633494675) (nI 2) (nI 6)) 15 35 ((sN (sT σ 3633494675) (nI 2) (nI 6)).1 15 31)) := PI_hi p2 _ (by decide)
  have p3 : PI (sT (uv (sN (sT σ 3633494675) (nI 2) (nI 6)) 15 35 ((sN (sT σ 3633494675) (nI 2) (nI 6)).1 15 31)) 80186739) := PI_sT p2b _
  have p4 : PI (sN (sT (uv (sN (sT σ 3633494675) (nI 2) (nI 6)) 15 35 ((sN (sT σ 3633494675) (nI 2) (nI 6)).1 15 31)) 80186739) (nI 1) (nI 16)) := PI_sN p3 _ _
  have p4b : PI (uv (sN (sT (uv (sN (sT σ 3633494675) (nI 2) (nI 6)) 15 35 ((sN (sT σ 3633494675) (nI 2) (nI 6)).1 15 31)) 80186739) (nI 1) (nI 16)) 15 36 ((sN (sT (uv (sN (sT σ 3633494675) (nI 2) (nI 6)) 15 35 ((sN (sT σ 3633494675) (nI 2) (nI 6)).1 15 31)) 80186739) (nI 1) (nI 16)).1 15 31)) := PI_hi p4 _ (by decide)
  have p5 : PI (sT (uv (sN (sT (uv (sN (sT σ 3633494675) (nI 2) (nI 6)) 15 35 ((sN (sT σ 3633494675) (nI 2) (nI 6)).1 15 31)) 80186739) (nI 1) (nI 16)) 15 36 ((sN (sT (uv (sN (sT σ 3633494675) (nI 2) (nI 6)) 15 35 ((sN (sT σ 3633494675) (nI 2) (nI 6)).1 15 31)) 80186739) (nI 1) (nI 16)).1 15 31)) 25019487859) := PI_sT p4b _
  have p6 : PI (sN (sT (uv (sN (sT (uv (sN (sT σ 3633494675) (nI 2) (nI 6)) 15 35 ((sN (sT σ 3633494675) (nI 2) (nI 6)).1 15 31)) 80186739) (nI 1) (nI 16)) 15 36 ((sN (sT (uv (sN (sT σ 3633494675) (nI 2) (nI 6)) 15 35 ((sN (sT σ 3633494675) (nI 2) (nI 6)).1 15 31)) 80186739) (nI 1) (nI 16)).1 15 31)) 25019487859) (nI 1) (nI 50)) := PI_sN p5 _ _
  have p6b : PI (uv (sN (sT (uv (sN (sT (uv (sN (sT σ 3633494675) (nI 2) (nI 6)) 15 35 ((sN (sT σ 3633494675) (nI 2) (nI 6)).1 15 31)) 80186739) (nI 1) (nI 16)) 15 36 ((sN (sT (uv (sN (sT σ 3633494675) (nI 2) (nI 6)) 15 35 ((sN (sT σ 3633494675) (nI 2) (nI 6)).1 15 31)) 80186739) (nI 1) (nI 16)).1 15 31)) 25019487859) (nI 1) (nI 50)) 15 37 ((sN (sT (uv (sN (sT (uv (sN (sT σ 3633494675) (nI 2) (nI 6)) 15 35 ((sN (sT σ 3633494675) (nI 2) (nI 6)).1 15 31)) 80186739) (nI 1) (nI 16)) 15 36 ((sN (sT (uv (sN (sT σ 3633494675) (nI 2) (nI 6)) 15 35 ((sN (sT σ 3633494675) (nI 2) (nI 6)).1 15 31)) 80186739) (nI 1) (nI 16)).1 15 31)) 25019487859) (nI 1) (nI 50)).1 15 31)) := PI_hi p6 _ (by decide)
  have p7 : PI (sS (uv (sN (sT (uv (sN (sT (uv (sN (sT σ 3633494675) (nI 2) (nI 6)) 15 35 ((sN (sT σ 3633494675) (nI 2) (nI 6)).1 15 31)) 80186739) (nI 1) (nI 16)) 15 36 ((sN (sT (uv (sN (sT σ 3633494675) (nI 2) (nI 6)) 15 35 ((sN (sT σ 3633494675) (nI 2) (nI 6)).1 15 31)) 80186739) (nI 1) (nI 16)).1 15 31)) 25019487859) (nI 1) (nI 50)) 15 37 ((sN (sT (uv (sN (sT (uv (sN (sT σ 3633494675) (nI 2) (nI 6)) 15 35 ((sN (sT σ 3633494675) (nI 2) (nI 6)).1 15 31)) 80186739) (nI 1) (nI 16)) 15 36 ((sN (sT (uv (sN (sT σ 3633494675) (nI 2) (nI 6)) 15 35 ((sN (sT σ 3633494675) (nI 2) (nI 6)).1 15 31)) 80186739) (nI 1) (nI 16)).1 15 31)) 25019487859) (nI 1) (nI 50)).1 15 31))) := PI_sS p6b
  have hk7 := p7.sk
  have hE7 := p7.2.1.2
  show GG x g z0 1 0 0 (Qi x g z0 (FI (bI ((mSrv σ).1)) ((mSrv σ).2))) σ 0 [(0, .ref (g.2.1 15))] []
  refine g_aload_n (pc' := 1) (j := 0) hC dX10_readService_0 rfl rfl rfl ?_
  refine g_ldc2 (pc' := 4) (v := 3633494675) hC wC_X10_274 dX10_readService_1 rfl ?_
  refine f_Vi (pc' := 7) (k := 15) (st := []) hC (m_takesWord x.2.1 g z0 σ 3633494675 (by first | exact hP | (simp (disch := decide) only [nb, rd_uv, rd_ur, uv_cell, ur_cell]; exact hP) | omega)) k_X10_takesWord wM_X10_276 (by decide) (by decide) (ct_15 g σ) rfl rfl rfl rfl (Nat.le_of_ble_eq_true rfl) dX10_readService_4 rfl (Nat.zero_le _) (Nat.zero_le _) ?_
  refine b_if_eq (pc' := 10) (tgt := 20) hC dX10_readService_7 (by decide) rfl (fun c7 => ?_) (fun c7 => ?_)
  · skip
    refine g_iconst (pc' := 21) (v := nI 0) hC dX10_readService_20 rfl rfl ?_
    refine g_ret hC dX10_readService_21 rfl ?_
    exact ⟨by unfold mSrv; rw [(sq_n (c7)).1], by unfold mSrv; rw [(sq_n (c7)).2]⟩
  · skip
    refine g_aload_n (pc' := 11) (j := 0) hC dX10_readService_10 rfl rfl rfl ?_
    refine g_iconst (pc' := 12) (v := nI 2) hC dX10_readService_11 rfl rfl ?_
    refine g_bipush (pc' := 14) (v := nI 6) hC dX10_readService_12 rfl rfl ?_
    refine f_Vi (pc' := 17) (k := 15) (st := []) hC (m_readNumber x.2.1 g z0 (sT σ 3633494675) ((nI 2)) ((nI 6)) (p1)) k_X10_readNumber wM_X10_280 (by decide) (by decide) (ct_15 g (sT σ 3633494675)) rfl rfl rfl rfl (Nat.le_of_ble_eq_true rfl) dX10_readService_14 rfl (Nat.zero_le _) (Nat.zero_le _) ?_
    refine b_if_ne (pc' := 20) (tgt := 22) hC dX10_readService_17 (by decide) rfl (fun c17 => ?_) (fun c17 => ?_)
    · skip
      refine g_aload_n (pc' := 23) (j := 0) hC dX10_readService_22 rfl rfl rfl ?_
      refine g_aload_n (pc' := 24) (j := 0) hC dX10_readService_23 rfl rfl rfl ?_
      refine gf_X10_31 (pc' := 27) hC wF_X10_271 dX10_readService_24 rfl ?_
      refine pf_X10_35 (pc' := 30) hC wF_X10_283 dX10_readService_27 rfl ?_
      refine g_aload_n (pc' := 31) (j := 0) hC dX10_readService_30 rfl rfl rfl ?_
      refine g_ldc2 (pc' := 34) (v := 80186739) hC wC_X10_286 dX10_readService_31 rfl ?_
      refine f_Vi (pc' := 37) (k := 15) (st := []) hC (m_takesWord x.2.1 g z0 (uv (sN (sT σ 3633494675) (nI 2) (nI 6)) 15 35 ((sN (sT σ 3633494675) (nI 2) (nI 6)).1 15 31)) 80186739 (p2b)) k_X10_takesWord wM_X10_276 (by decide) (by decide) (ct_15 g (uv (sN (sT σ 3633494675) (nI 2) (nI 6)) 15 35 ((sN (sT σ 3633494675) (nI 2) (nI 6)).1 15 31))) rfl rfl rfl rfl (Nat.le_of_ble_eq_true rfl) dX10_readService_34 rfl (Nat.zero_le _) (Nat.zero_le _) ?_
      refine b_if_eq (pc' := 40) (tgt := 50) hC dX10_readService_37 (by decide) rfl (fun c37 => ?_) (fun c37 => ?_)
      · skip
        refine g_iconst (pc' := 51) (v := nI 0) hC dX10_readService_50 rfl rfl ?_
        refine g_ret hC dX10_readService_51 rfl ?_
        exact ⟨by unfold mSrv; rw [(sq_y (c7)).1, (sq_y (c17)).1, (sq_n (c37)).1], by unfold mSrv; rw [(sq_y (c7)).2, (sq_y (c17)).2, (sq_n (c37)).2]⟩
      · skip
        refine g_aload_n (pc' := 41) (j := 0) hC dX10_readService_40 rfl rfl rfl ?_
        refine g_iconst (pc' := 42) (v := nI 1) hC dX10_readService_41 rfl rfl ?_
        refine g_bipush (pc' := 44) (v := nI 16) hC dX10_readService_42 rfl rfl ?_
        refine f_Vi (pc' := 47) (k := 15) (st := []) hC (m_readNumber x.2.1 g z0 (sT (uv (sN (sT σ 3633494675) (nI 2) (nI 6)) 15 35 ((sN (sT σ 3633494675) (nI 2) (nI 6)).1 15 31)) 80186739) ((nI 1)) ((nI 16)) (p3)) k_X10_readNumber wM_X10_280 (by decide) (by decide) (ct_15 g (sT (uv (sN (sT σ 3633494675) (nI 2) (nI 6)) 15 35 ((sN (sT σ 3633494675) (nI 2) (nI 6)).1 15 31)) 80186739)) rfl rfl rfl rfl (Nat.le_of_ble_eq_true rfl) dX10_readService_44 rfl (Nat.zero_le _) (Nat.zero_le _) ?_
        refine b_if_ne (pc' := 50) (tgt := 52) hC dX10_readService_47 (by decide) rfl (fun c47 => ?_) (fun c47 => ?_)
        · skip
          refine g_aload_n (pc' := 53) (j := 0) hC dX10_readService_52 rfl rfl rfl ?_
          refine g_aload_n (pc' := 54) (j := 0) hC dX10_readService_53 rfl rfl rfl ?_
          refine gf_X10_31 (pc' := 57) hC wF_X10_271 dX10_readService_54 rfl ?_
          refine pf_X10_36 (pc' := 60) hC wF_X10_288 dX10_readService_57 rfl ?_
          refine g_aload_n (pc' := 61) (j := 0) hC dX10_readService_60 rfl rfl rfl ?_
          refine g_ldc2 (pc' := 64) (v := 25019487859) hC wC_X10_291 dX10_readService_61 rfl ?_
          refine f_Vi (pc' := 67) (k := 15) (st := []) hC (m_takesWord x.2.1 g z0 (uv (sN (sT (uv (sN (sT σ 3633494675) (nI 2) (nI 6)) 15 35 ((sN (sT σ 3633494675) (nI 2) (nI 6)).1 15 31)) 80186739) (nI 1) (nI 16)) 15 36 ((sN (sT (uv (sN (sT σ 3633494675) (nI 2) (nI 6)) 15 35 ((sN (sT σ 3633494675) (nI 2) (nI 6)).1 15 31)) 80186739) (nI 1) (nI 16)).1 15 31)) 25019487859 (p4b)) k_X10_takesWord wM_X10_276 (by decide) (by decide) (ct_15 g (uv (sN (sT (uv (sN (sT σ 3633494675) (nI 2) (nI 6)) 15 35 ((sN (sT σ 3633494675) (nI 2) (nI 6)).1 15 31)) 80186739) (nI 1) (nI 16)) 15 36 ((sN (sT (uv (sN (sT σ 3633494675) (nI 2) (nI 6)) 15 35 ((sN (sT σ 3633494675) (nI 2) (nI 6)).1 15 31)) 80186739) (nI 1) (nI 16)).1 15 31))) rfl rfl rfl rfl (Nat.le_of_ble_eq_true rfl) dX10_readService_64 rfl (Nat.zero_le _) (Nat.zero_le _) ?_
          refine b_if_eq (pc' := 70) (tgt := 80) hC dX10_readService_67 (by decide) rfl (fun c67 => ?_) (fun c67 => ?_)
          · skip
            refine g_iconst (pc' := 81) (v := nI 0) hC dX10_readService_80 rfl rfl ?_
            refine g_ret hC dX10_readService_81 rfl ?_
            exact ⟨by unfold mSrv; rw [(sq_y (c7)).1, (sq_y (c17)).1, (sq_y (c37)).1, (sq_y (c47)).1, (sq_n (c67)).1], by unfold mSrv; rw [(sq_y (c7)).2, (sq_y (c17)).2, (sq_y (c37)).2, (sq_y (c47)).2, (sq_n (c67)).2]⟩
          · skip
            refine g_aload_n (pc' := 71) (j := 0) hC dX10_readService_70 rfl rfl rfl ?_
            refine g_iconst (pc' := 72) (v := nI 1) hC dX10_readService_71 rfl rfl ?_
            refine g_bipush (pc' := 74) (v := nI 50) hC dX10_readService_72 rfl rfl ?_
            refine f_Vi (pc' := 77) (k := 15) (st := []) hC (m_readNumber x.2.1 g z0 (sT (uv (sN (sT (uv (sN (sT σ 3633494675) (nI 2) (nI 6)) 15 35 ((sN (sT σ 3633494675) (nI 2) (nI 6)).1 15 31)) 80186739) (nI 1) (nI 16)) 15 36 ((sN (sT (uv (sN (sT σ 3633494675) (nI 2) (nI 6)) 15 35 ((sN (sT σ 3633494675) (nI 2) (nI 6)).1 15 31)) 80186739) (nI 1) (nI 16)).1 15 31)) 25019487859) ((nI 1)) ((nI 50)) (p5)) k_X10_readNumber wM_X10_280 (by decide) (by decide) (ct_15 g (sT (uv (sN (sT (uv (sN (sT σ 3633494675) (nI 2) (nI 6)) 15 35 ((sN (sT σ 3633494675) (nI 2) (nI 6)).1 15 31)) 80186739) (nI 1) (nI 16)) 15 36 ((sN (sT (uv (sN (sT σ 3633494675) (nI 2) (nI 6)) 15 35 ((sN (sT σ 3633494675) (nI 2) (nI 6)).1 15 31)) 80186739) (nI 1) (nI 16)).1 15 31)) 25019487859)) rfl rfl rfl rfl (Nat.le_of_ble_eq_true rfl) dX10_readService_74 rfl (Nat.zero_le _) (Nat.zero_le _) ?_
            refine b_if_ne (pc' := 80) (tgt := 82) hC dX10_readService_77 (by decide) rfl (fun c77 => ?_) (fun c77 => ?_)
            · skip
              refine g_aload_n (pc' := 83) (j := 0) hC dX10_readService_82 rfl rfl rfl ?_
              refine g_aload_n (pc' := 84) (j := 0) hC dX10_readService_83 rfl rfl rfl ?_
              refine gf_X10_31 (pc' := 87) hC wF_X10_271 dX10_readService_84 rfl ?_
              refine pf_X10_37 (pc' := 90) hC wF_X10_293 dX10_readService_87 rfl ?_
              refine g_aload_n (pc' := 91) (j := 0) hC dX10_readService_90 rfl rfl rfl ?_
              refine f_Vi (pc' := 94) (k := 15) (st := []) hC (m_readSemicolon x.2.1 g z0 (uv (sN (sT (uv (sN (sT (uv (sN (sT σ 3633494675) (nI 2) (nI 6)) 15 35 ((sN (sT σ 3633494675) (nI 2) (nI 6)).1 15 31)) 80186739) (nI 1) (nI 16)) 15 36 ((sN (sT (uv (sN (sT σ 3633494675) (nI 2) (nI 6)) 15 35 ((sN (sT σ 3633494675) (nI 2) (nI 6)).1 15 31)) 80186739) (nI 1) (nI 16)).1 15 31)) 25019487859) (nI 1) (nI 50)) 15 37 ((sN (sT (uv (sN (sT (uv (sN (sT σ 3633494675) (nI 2) (nI 6)) 15 35 ((sN (sT σ 3633494675) (nI 2) (nI 6)).1 15 31)) 80186739) (nI 1) (nI 16)) 15 36 ((sN (sT (uv (sN (sT σ 3633494675) (nI 2) (nI 6)) 15 35 ((sN (sT σ 3633494675) (nI 2) (nI 6)).1 15 31)) 80186739) (nI 1) (nI 16)).1 15 31)) 25019487859) (nI 1) (nI 50)).1 15 31)) (p6b)) k_X10_readSemicolon wM_X10_296 (by decide) (by decide) (ct_15 g (uv (sN (sT (uv (sN (sT (uv (sN (sT σ 3633494675) (nI 2) (nI 6)) 15 35 ((sN (sT σ 3633494675) (nI 2) (nI 6)).1 15 31)) 80186739) (nI 1) (nI 16)) 15 36 ((sN (sT (uv (sN (sT σ 3633494675) (nI 2) (nI 6)) 15 35 ((sN (sT σ 3633494675) (nI 2) (nI 6)).1 15 31)) 80186739) (nI 1) (nI 16)).1 15 31)) 25019487859) (nI 1) (nI 50)) 15 37 ((sN (sT (uv (sN (sT (uv (sN (sT σ 3633494675) (nI 2) (nI 6)) 15 35 ((sN (sT σ 3633494675) (nI 2) (nI 6)).1 15 31)) 80186739) (nI 1) (nI 16)) 15 36 ((sN (sT (uv (sN (sT σ 3633494675) (nI 2) (nI 6)) 15 35 ((sN (sT σ 3633494675) (nI 2) (nI 6)).1 15 31)) 80186739) (nI 1) (nI 16)).1 15 31)) 25019487859) (nI 1) (nI 50)).1 15 31))) rfl rfl rfl rfl (Nat.le_of_ble_eq_true rfl) dX10_readService_91 rfl (Nat.zero_le _) (Nat.zero_le _) ?_
              refine b_if_eq (pc' := 97) (tgt := 121) hC dX10_readService_94 (by decide) rfl (fun c94 => ?_) (fun c94 => ?_)
              · skip
                refine g_iconst (pc' := 122) (v := nI 0) hC dX10_readService_121 rfl rfl ?_
                refine g_ret hC dX10_readService_122 rfl ?_
                exact ⟨by unfold mSrv; rw [(sq_y (c7)).1, (sq_y (c17)).1, (sq_y (c37)).1, (sq_y (c47)).1, (sq_y (c67)).1, (sq_y (c77)).1, (sq_n (c94)).1], by unfold mSrv; rw [(sq_y (c7)).2, (sq_y (c17)).2, (sq_y (c37)).2, (sq_y (c47)).2, (sq_y (c67)).2, (sq_y (c77)).2, (sq_n (c94)).2]⟩
              · skip
                refine g_aload_n (pc' := 98) (j := 0) hC dX10_readService_97 rfl rfl rfl ?_
                refine f_Vi (pc' := 101) (k := 15) (st := []) hC (m_peek x.2.1 g z0 (sS (uv (sN (sT (uv (sN (sT (uv (sN (sT σ 3633494675) (nI 2) (nI 6)) 15 35 ((sN (sT σ 3633494675) (nI 2) (nI 6)).1 15 31)) 80186739) (nI 1) (nI 16)) 15 36 ((sN (sT (uv (sN (sT σ 3633494675) (nI 2) (nI 6)) 15 35 ((sN (sT σ 3633494675) (nI 2) (nI 6)).1 15 31)) 80186739) (nI 1) (nI 16)).1 15 31)) 25019487859) (nI 1) (nI 50)) 15 37 ((sN (sT (uv (sN (sT (uv (sN (sT σ 3633494675) (nI 2) (nI 6)) 15 35 ((sN (sT σ 3633494675) (nI 2) (nI 6)).1 15 31)) 80186739) (nI 1) (nI 16)) 15 36 ((sN (sT (uv (sN (sT σ 3633494675) (nI 2) (nI 6)) 15 35 ((sN (sT σ 3633494675) (nI 2) (nI 6)).1 15 31)) 80186739) (nI 1) (nI 16)).1 15 31)) 25019487859) (nI 1) (nI 50)).1 15 31))) (p7)) k_X10_peek wM_X10_243 (by decide) (by decide) (ct_15 g (sS (uv (sN (sT (uv (sN (sT (uv (sN (sT σ 3633494675) (nI 2) (nI 6)) 15 35 ((sN (sT σ 3633494675) (nI 2) (nI 6)).1 15 31)) 80186739) (nI 1) (nI 16)) 15 36 ((sN (sT (uv (sN (sT σ 3633494675) (nI 2) (nI 6)) 15 35 ((sN (sT σ 3633494675) (nI 2) (nI 6)).1 15 31)) 80186739) (nI 1) (nI 16)).1 15 31)) 25019487859) (nI 1) (nI 50)) 15 37 ((sN (sT (uv (sN (sT (uv (sN (sT σ 3633494675) (nI 2) (nI 6)) 15 35 ((sN (sT σ 3633494675) (nI 2) (nI 6)).1 15 31)) 80186739) (nI 1) (nI 16)) 15 36 ((sN (sT (uv (sN (sT σ 3633494675) (nI 2) (nI 6)) 15 35 ((sN (sT σ 3633494675) (nI 2) (nI 6)).1 15 31)) 80186739) (nI 1) (nI 16)).1 15 31)) 25019487859) (nI 1) (nI 50)).1 15 31)))) rfl rfl rfl rfl (Nat.le_of_ble_eq_true rfl) dX10_readService_98 rfl (Nat.zero_le _) (Nat.zero_le _) ?_
                refine g_iconst (pc' := 102) (v := (-1)) hC dX10_readService_101 rfl rfl ?_
                refine g_icmp_eq (pc' := 105) (tgt := 117) hC dX10_readService_102 (by decide) rfl (fun c102 => ?_) (fun c102 => ?_)
                · skip
                  refine g_iconst (pc' := 118) (v := nI 1) hC dX10_readService_117 rfl rfl ?_
                  refine g_goto (tgt := 122) hC dX10_readService_118 (by decide) ?_
                  refine g_ret hC dX10_readService_122 rfl ?_
                  exact ⟨by unfold mSrv; rw [(sq_y (c7)).1, (sq_y (c17)).1, (sq_y (c37)).1, (sq_y (c47)).1, (sq_y (c67)).1, (sq_y (c77)).1, (sq_y (c94)).1]; exact (bI_t c102).symm, by unfold mSrv; rw [(sq_y (c7)).2, (sq_y (c17)).2, (sq_y (c37)).2, (sq_y (c47)).2, (sq_y (c67)).2, (sq_y (c77)).2, (sq_y (c94)).2]; exact (cI_t c102).symm⟩
                · skip
                  refine g_aload_n (pc' := 106) (j := 0) hC dX10_readService_105 rfl rfl rfl ?_
                  refine g_iconst (pc' := 107) (v := nI 1) hC dX10_readService_106 rfl rfl ?_
                  refine g_aload_n (pc' := 108) (j := 0) hC dX10_readService_107 rfl rfl rfl ?_
                  refine gf_X10_30 (pc' := 111) hC wF_X10_240 dX10_readService_108 rfl ?_
                  refine gg_topi (b := nI (msk (sS (uv (sN (sT (uv (sN (sT (uv (sN (sT σ 3633494675) (nI 2) (nI 6)) 15 35 ((sN (sT σ 3633494675) (nI 2) (nI 6)).1 15 31)) 80186739) (nI 1) (nI 16)) 15 36 ((sN (sT (uv (sN (sT σ 3633494675) (nI 2) (nI 6)) 15 35 ((sN (sT σ 3633494675) (nI 2) (nI 6)).1 15 31)) 80186739) (nI 1) (nI 16)).1 15 31)) 25019487859) (nI 1) (nI 50)) 15 37 ((sN (sT (uv (sN (sT (uv (sN (sT σ 3633494675) (nI 2) (nI 6)) 15 35 ((sN (sT σ 3633494675) (nI 2) (nI 6)).1 15 31)) 80186739) (nI 1) (nI 16)) 15 36 ((sN (sT (uv (sN (sT σ 3633494675) (nI 2) (nI 6)) 15 35 ((sN (sT σ 3633494675) (nI 2) (nI 6)).1 15 31)) 80186739) (nI 1) (nI 16)).1 15 31)) 25019487859) (nI 1) (nI 50)).1 15 31))))) (uv_same _ _ _ _) ?_
                  refine f_Vi (pc' := 114) (k := 15) (st := []) hC (m_fails x.2.1 g z0 (mpk (sS (uv (sN (sT (uv (sN (sT (uv (sN (sT σ 3633494675) (nI 2) (nI 6)) 15 35 ((sN (sT σ 3633494675) (nI 2) (nI 6)).1 15 31)) 80186739) (nI 1) (nI 16)) 15 36 ((sN (sT (uv (sN (sT σ 3633494675) (nI 2) (nI 6)) 15 35 ((sN (sT σ 3633494675) (nI 2) (nI 6)).1 15 31)) 80186739) (nI 1) (nI 16)).1 15 31)) 25019487859) (nI 1) (nI 50)) 15 37 ((sN (sT (uv (sN (sT (uv (sN (sT σ 3633494675) (nI 2) (nI 6)) 15 35 ((sN (sT σ 3633494675) (nI 2) (nI 6)).1 15 31)) 80186739) (nI 1) (nI 16)) 15 36 ((sN (sT (uv (sN (sT σ 3633494675) (nI 2) (nI 6)) 15 35 ((sN (sT σ 3633494675) (nI 2) (nI 6)).1 15 31)) 80186739) (nI 1) (nI 16)).1 15 31)) 25019487859) (nI 1) (nI 50)).1 15 31)))) ((nI 1)) ((nI (msk (sS (uv (sN (sT (uv (sN (sT (uv (sN (sT σ 3633494675) (nI 2) (nI 6)) 15 35 ((sN (sT σ 3633494675) (nI 2) (nI 6)).1 15 31)) 80186739) (nI 1) (nI 16)) 15 36 ((sN (sT (uv (sN (sT σ 3633494675) (nI 2) (nI 6)) 15 35 ((sN (sT σ 3633494675) (nI 2) (nI 6)).1 15 31)) 80186739) (nI 1) (nI 16)).1 15 31)) 25019487859) (nI 1) (nI 50)) 15 37 ((sN (sT (uv (sN (sT (uv (sN (sT σ 3633494675) (nI 2) (nI 6)) 15 35 ((sN (sT σ 3633494675) (nI 2) (nI 6)).1 15 31)) 80186739) (nI 1) (nI 16)) 15 36 ((sN (sT (uv (sN (sT σ 3633494675) (nI 2) (nI 6)) 15 35 ((sN (sT σ 3633494675) (nI 2) (nI 6)).1 15 31)) 80186739) (nI 1) (nI 16)).1 15 31)) 25019487859) (nI 1) (nI 50)).1 15 31))))))) k_X10_fails wM_X10_253 (by decide) (by decide) (ct_15 g (mpk (sS (uv (sN (sT (uv (sN (sT (uv (sN (sT σ 3633494675) (nI 2) (nI 6)) 15 35 ((sN (sT σ 3633494675) (nI 2) (nI 6)).1 15 31)) 80186739) (nI 1) (nI 16)) 15 36 ((sN (sT (uv (sN (sT σ 3633494675) (nI 2) (nI 6)) 15 35 ((sN (sT σ 3633494675) (nI 2) (nI 6)).1 15 31)) 80186739) (nI 1) (nI 16)).1 15 31)) 25019487859) (nI 1) (nI 50)) 15 37 ((sN (sT (uv (sN (sT (uv (sN (sT σ 3633494675) (nI 2) (nI 6)) 15 35 ((sN (sT σ 3633494675) (nI 2) (nI 6)).1 15 31)) 80186739) (nI 1) (nI 16)) 15 36 ((sN (sT (uv (sN (sT σ 3633494675) (nI 2) (nI 6)) 15 35 ((sN (sT σ 3633494675) (nI 2) (nI 6)).1 15 31)) 80186739) (nI 1) (nI 16)).1 15 31)) 25019487859) (nI 1) (nI 50)).1 15 31))))) rfl rfl rfl rfl (Nat.le_of_ble_eq_true rfl) dX10_readService_111 rfl (Nat.zero_le _) (Nat.zero_le _) ?_
                  refine n_if_eq (pc' := 117) (tgt := 121) hC dX10_readService_114 (by decide) rfl (by omega) (fun c114 => ?_) (fun c114 => ?_)
                  · skip
                    refine g_iconst (pc' := 122) (v := nI 0) hC dX10_readService_121 rfl rfl ?_
                    refine g_ret hC dX10_readService_122 rfl ?_
                    exact ⟨by unfold mSrv; rw [(sq_y (c7)).1, (sq_y (c17)).1, (sq_y (c37)).1, (sq_y (c47)).1, (sq_y (c67)).1, (sq_y (c77)).1, (sq_y (c94)).1]; exact (bI_f c102).symm, by unfold mSrv; rw [(sq_y (c7)).2, (sq_y (c17)).2, (sq_y (c37)).2, (sq_y (c47)).2, (sq_y (c67)).2, (sq_y (c77)).2, (sq_y (c94)).2]; exact (cI_f c102).symm⟩
                  · skip
                    first | exact absurd c114 (by decide) | exact c114.elim
            · skip
              refine g_iconst (pc' := 81) (v := nI 0) hC dX10_readService_80 rfl rfl ?_
              refine g_ret hC dX10_readService_81 rfl ?_
              exact ⟨by unfold mSrv; rw [(sq_y (c7)).1, (sq_y (c17)).1, (sq_y (c37)).1, (sq_y (c47)).1, (sq_y (c67)).1, (sq_n (c77)).1], by unfold mSrv; rw [(sq_y (c7)).2, (sq_y (c17)).2, (sq_y (c37)).2, (sq_y (c47)).2, (sq_y (c67)).2, (sq_n (c77)).2]⟩
        · skip
          refine g_iconst (pc' := 51) (v := nI 0) hC dX10_readService_50 rfl rfl ?_
          refine g_ret hC dX10_readService_51 rfl ?_
          exact ⟨by unfold mSrv; rw [(sq_y (c7)).1, (sq_y (c17)).1, (sq_y (c37)).1, (sq_n (c47)).1], by unfold mSrv; rw [(sq_y (c7)).2, (sq_y (c17)).2, (sq_y (c37)).2, (sq_n (c47)).2]⟩
    · skip
      refine g_iconst (pc' := 21) (v := nI 0) hC dX10_readService_20 rfl rfl ?_
      refine g_ret hC dX10_readService_21 rfl ?_
      exact ⟨by unfold mSrv; rw [(sq_y (c7)).1, (sq_n (c17)).1], by unfold mSrv; rw [(sq_y (c7)).2, (sq_n (c17)).2]⟩
