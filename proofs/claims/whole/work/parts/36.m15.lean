set_option maxHeartbeats 4000000 in
set_option maxRecDepth 20000 in
theorem m_readFork (l : Launch) (g : Lay) (z0 : Nat) (σ : St)  (hP : PI σ) (hs0 : nb σ 15 39 59)  : CTi l yX10_readFork cX10_readFork 2 (some .boolean) 5 g z0 [.ref (g.2.1 15)] σ (FI (bI ((mFk 901 (nI 0) σ).1)) ((mFk 901 (nI 0) σ).2)) := by
  refine CTi.of (by decide) (Nat.le_of_ble_eq_true rfl) ?_
  intro x hxl hxa hC
  have hC : Cx x RX10 cX10_readFork 2 (some .boolean) 5 g z0 := hC
  have hE0 := hP.2.1.2
  have hT0 := hP.1.2
  show GG x g z0 2 0 0 (Qi x g z0 (FI (bI ((mFk 901 (nI 0) σ).1)) ((mFk 901 (nI 0) σ).2))) σ 0 [(0, .ref (g.2.1 15))] []
  refine g_iconst (pc' := 1) (v := nI 0) hC dX10_readFork_0 rfl rfl ?_
  refine g_istore_n (pc' := 2) (lv' := [(1, .int (nI 0)), (0, .ref (g.2.1 15))]) hC dX10_readFork_1 rfl rfl (by decide) rfl ?_
  have L2 : ∀ (fu : Nat) (set : Int32) (τ : St) (n : Nat), (PI τ) → (nb τ 15 39 59) → (rd τ 15 28 - rd τ 15 27 ≤ n) → (mFk 901 (nI 0) σ = mFk (n + 1) set τ) → n < fu → GG x g z0 2 0 0 (Qi x g z0 (FI (bI ((mFk 901 (nI 0) σ).1)) ((mFk 901 (nI 0) σ).2))) τ 2 [(1, .int set), (0, .ref (g.2.1 15))] [] := by
    intro fu
    induction fu with
    | zero => intro set τ n hQ hs hn he hz; exact absurd hz (Nat.not_lt_zero _)
    | succ fu ih2 =>
      intro set τ n hQ hs hn he hf
      have hs2 := hs.2
      have hQ1 : PI (mInto τ 1 (nI 0) (τ.1 15 1 - nI 1)).2 := PI_mInto hQ _ _ _
      have hQ2 := PI_mpk hQ1
      have hk2 := hQ1.sk
      have hE2 := hQ1.2.1.2
      have h28 : rd (mInto τ 1 (nI 0) (τ.1 15 1 - nI 1)).2 15 28 = rd τ 15 28 := (LY_mInto _ _ _ _).r28
      have h28b : rd (mpk (mInto τ 1 (nI 0) (τ.1 15 1 - nI 1)).2) 15 28 = rd (mInto τ 1 (nI 0) (τ.1 15 1 - nI 1)).2 15 28 := rd28_mpk _
      refine g_aload_n (pc' := 3) (j := 1) hC dX10_readFork_2 rfl rfl rfl ?_
      refine g_iconst (pc' := 4) (v := nI 1) hC dX10_readFork_3 rfl rfl ?_
      refine f_Vi (pc' := 7) (k := 15) (st := []) hC (m_readClient x.2.1 g z0 τ 1 (hQ) (by omega) (by first | exact hs | (simp (disch := decide) only [nb, rd_uv, rd_ur, uv_cell, ur_cell]; exact hs) | omega)) k_X10_readClient wM_X10_321 (by decide) (by decide) (ct_15 g τ) rfl rfl rfl rfl (Nat.le_of_ble_eq_true rfl) dX10_readFork_4 rfl (Nat.zero_le _) (Nat.zero_le _) ?_
      refine b_if_ne (pc' := 10) (tgt := 12) hC dX10_readFork_7 (by decide) rfl (fun c7 => ?_) (fun c7 => ?_)
      · skip
        refine g_iload_n (pc' := 13) (j := 0) hC dX10_readFork_12 rfl rfl rfl ?_
        refine g_iconst (pc' := 14) (v := nI 1) hC dX10_readFork_13 rfl rfl ?_
        refine g_aload_n (pc' := 15) (j := 1) hC dX10_readFork_14 rfl rfl rfl ?_
        refine gf_X10_31 (pc' := 18) hC wF_X10_271 dX10_readFork_15 rfl ?_
        refine g_ishl (pc' := 19) hC dX10_readFork_18 rfl ?_
        refine g_ior (pc' := 20) hC dX10_readFork_19 rfl ?_
        refine g_istore_n (pc' := 21) (lv' := [(1, .int (set ||| ((nI 1) <<< ((((mInto τ 1 (nI 0) (τ.1 15 1 - nI 1)).2).1 15 31) &&& 31)))), (0, .ref (g.2.1 15))]) hC dX10_readFork_20 rfl rfl (by decide) rfl ?_
        refine g_aload_n (pc' := 22) (j := 1) hC dX10_readFork_21 rfl rfl rfl ?_
        refine f_Vi (pc' := 25) (k := 15) (st := []) hC (m_peek x.2.1 g z0 ((mInto τ 1 (nI 0) (τ.1 15 1 - nI 1)).2) (hQ1)) k_X10_peek wM_X10_243 (by decide) (by decide) (ct_15 g ((mInto τ 1 (nI 0) (τ.1 15 1 - nI 1)).2)) rfl rfl rfl rfl (Nat.le_of_ble_eq_true rfl) dX10_readFork_22 rfl (Nat.zero_le _) (Nat.zero_le _) ?_
        refine f_Si (pc' := 28) (st := []) hC (m_isDigit x.2.1 g z0 (mpk ((mInto τ 1 (nI 0) (τ.1 15 1 - nI 1)).2)) ((mB ((mInto τ 1 (nI 0) (τ.1 15 1 - nI 1)).2) (msk ((mInto τ 1 (nI 0) (τ.1 15 1 - nI 1)).2))))) k_X10_isDigit wM_X10_268 (by decide) rfl rfl (Nat.le_of_ble_eq_true rfl) dX10_readFork_25 rfl (Nat.zero_le _) (Nat.zero_le _) ?_
        refine b_if_ne (pc' := 31) (tgt := 2) hC dX10_readFork_28 (by decide) rfl (fun c28 => ?_) (fun c28 => ?_)
        · skip
          have hp1 := mInto_at hQ c7
          have h27 : rd (mpk (mInto τ 1 (nI 0) (τ.1 15 1 - nI 1)).2) 15 27 = msk (mInto τ 1 (nI 0) (τ.1 15 1 - nI 1)).2 := (nb_of (m := 900) ((uv_idx _ _ _ _ (by decide)).trans (uv_same _ _ _ _)) (by omega) (by decide)).2
          have hlt := mB_in (dgt_ne c28)
          refine gg_st (σ' := ((mpk ((mInto τ 1 (nI 0) (τ.1 15 1 - nI 1)).2)))) (rfl) ?_
          refine gg_lv (lv' := [(1, .int (set ||| ((nI 1) <<< ((((mInto τ 1 (nI 0) (τ.1 15 1 - nI 1)).2).1 15 31) &&& 31)))), (0, .ref (g.2.1 15))]) ?_ [0, 1] rfl
          exact ih2 (set ||| ((nI 1) <<< ((((mInto τ 1 (nI 0) (τ.1 15 1 - nI 1)).2).1 15 31) &&& 31))) ((mpk ((mInto τ 1 (nI 0) (τ.1 15 1 - nI 1)).2))) (n - 1) (hQ2) (((LY_mInto _ _ _ _).tr (LX_mpk _).ly).n39 hs) (by omega) (by rw [he, show n - 1 + 1 = n by omega]; exact (sq_yy c7).trans (cI_t c28)) (by omega)
        · skip
          refine g_aload_n (pc' := 32) (j := 1) hC dX10_readFork_31 rfl rfl rfl ?_
          refine gf_X10_38 (pc' := 35) hC wF_X10_63 dX10_readFork_32 rfl ?_
          refine g_iconst (pc' := 36) (v := nI 4) hC dX10_readFork_35 rfl rfl ?_
          refine g_aload_n (pc' := 37) (j := 1) hC dX10_readFork_36 rfl rfl rfl ?_
          refine gf_X10_39 (pc' := 40) hC wF_X10_308 dX10_readFork_37 rfl ?_
          refine gg_topi (b := nI (rd τ 15 39)) (((LY_mInto _ _ _ _).tr (LX_mpk _).ly).r39.trans hs.1) ?_
          refine n_imul (pc' := 41) hC dX10_readFork_40 rfl ?_
          refine g_iconst (pc' := 42) (v := nI 1) hC dX10_readFork_41 rfl rfl ?_
          refine n_iadd (pc' := 43) hC dX10_readFork_42 rfl ?_
          refine g_iload_n (pc' := 44) (j := 0) hC dX10_readFork_43 rfl rfl rfl ?_
          refine a_st (pc' := 45) (k := 32) (i := (4 * (rd τ 15 39)) + 1) hC (by decide) (fun σ9 => (ct_32 g σ9)) (by omega) (by decide) dX10_readFork_44 rfl ?_
          refine g_iconst (pc' := 46) (v := nI 1) hC dX10_readFork_45 rfl rfl ?_
          refine g_ret hC dX10_readFork_46 rfl ?_
          exact ⟨by rw [he]; exact ((sq_y c7).1.trans (by rw [cI_f c28]; exact bI_t trivial)).symm, by rw [he]; exact ((sq_y c7).2.trans (by rw [cI_f c28])).symm⟩
      · skip
        refine g_iconst (pc' := 11) (v := nI 0) hC dX10_readFork_10 rfl rfl ?_
        refine g_ret hC dX10_readFork_11 rfl ?_
        exact ⟨by rw [he]; exact (sq_n c7).1.symm, by rw [he]; exact (sq_n c7).2.symm⟩
  refine gg_lv (lv' := [(1, .int (nI 0)), (0, .ref (g.2.1 15))]) ?_ [0, 1] rfl
  exact L2 (900 + 1) ((nI 0)) σ 900 (hP) (hs0) (by omega) (rfl) (by omega)
set_option maxHeartbeats 4000000 in
set_option maxRecDepth 20000 in
theorem m_readRest (l : Launch) (g : Lay) (z0 : Nat) (σ : St) (w : Int32) (hP : PI σ) (hs : nb σ 15 39 59)  : CTi l yX10_readRest cX10_readRest 2 (some .boolean) 6 g z0 [.ref (g.2.1 15), .int w] σ (FI (bI ((mRest σ w).1)) ((mRest σ w).2)) := by
  refine CTi.of (by decide) (Nat.le_of_ble_eq_true rfl) ?_
  intro x hxl hxa hC
  have hC : Cx x RX10 cX10_readRest 2 (some .boolean) 6 g z0 := hC
  show GG x g z0 2 0 0 (Qi x g z0 (FI (bI ((mRest σ w).1)) ((mRest σ w).2))) σ 0 [(0, .ref (g.2.1 15)), (1, .int w)] []
  refine g_iload_n (pc' := 1) (j := 1) hC dX10_readRest_0 rfl rfl rfl ?_
  by_cases t1_2 : w = nI 2
  · skip
    refine gg_topi t1_2 ?_
    refine n_tswIn (tgt := 40) hC dX10_readRest_1 rfl (by decide) (by decide) (by decide) rfl (by decide) ?_
    refine g_aload_n (pc' := 41) (j := 0) hC dX10_readRest_40 rfl rfl rfl ?_
    refine f_Vi (pc' := 44) (k := 15) (st := []) hC (m_readFork x.2.1 g z0 σ (by first | exact hP | (simp (disch := decide) only [nb, rd_uv, rd_ur, uv_cell, ur_cell]; exact hP) | omega) (hs)) k_X10_readFork wM_X10_338 (by decide) (by decide) (ct_15 g σ) rfl rfl rfl rfl (Nat.le_of_ble_eq_true rfl) dX10_readRest_41 rfl (Nat.zero_le _) (Nat.zero_le _) ?_
    refine g_ret hC dX10_readRest_44 (bI_nar _) ?_
    exact ⟨by unfold mRest; rw [cI_t t1_2], by unfold mRest; rw [cI_t t1_2]⟩
  by_cases t1_3 : w = nI 3
  · skip
    refine gg_topi t1_3 ?_
    refine n_tswIn (tgt := 45) hC dX10_readRest_1 rfl (by decide) (by decide) (by decide) rfl (by decide) ?_
    refine g_aload_n (pc' := 46) (j := 0) hC dX10_readRest_45 rfl rfl rfl ?_
    refine g_iconst (pc' := 47) (v := nI 1) hC dX10_readRest_46 rfl rfl ?_
    refine f_Vi (pc' := 50) (k := 15) (st := []) hC (m_readClient x.2.1 g z0 σ 1 (by first | exact hP | (simp (disch := decide) only [nb, rd_uv, rd_ur, uv_cell, ur_cell]; exact hP) | omega) (by omega) (by first | exact hs | (simp (disch := decide) only [nb, rd_uv, rd_ur, uv_cell, ur_cell]; exact hs) | omega)) k_X10_readClient wM_X10_321 (by decide) (by decide) (ct_15 g σ) rfl rfl rfl rfl (Nat.le_of_ble_eq_true rfl) dX10_readRest_47 rfl (Nat.zero_le _) (Nat.zero_le _) ?_
    refine b_if_eq (pc' := 53) (tgt := 65) hC dX10_readRest_50 (by decide) rfl (fun c50 => ?_) (fun c50 => ?_)
    · skip
      refine g_iconst (pc' := 66) (v := nI 0) hC dX10_readRest_65 rfl rfl ?_
      refine g_ret hC dX10_readRest_66 rfl ?_
      exact ⟨by unfold mRest; rw [cI_f t1_2, cI_t t1_3, (sq_n c50).1], by unfold mRest; rw [cI_f t1_2, cI_t t1_3, (sq_n c50).2]⟩
    · skip
      refine g_aload_n (pc' := 54) (j := 0) hC dX10_readRest_53 rfl rfl rfl ?_
      refine g_iconst (pc' := 55) (v := nI 2) hC dX10_readRest_54 rfl rfl ?_
      refine f_Vi (pc' := 58) (k := 15) (st := []) hC (m_readBranch x.2.1 g z0 ((mInto σ 1 (nI 0) (σ.1 15 1 - nI 1)).2) 2 (PI_mInto hP _ _ _) (by omega) ((LY_mInto _ _ _ _).n39 hs)) k_X10_readBranch wM_X10_341 (by decide) (by decide) (ct_15 g ((mInto σ 1 (nI 0) (σ.1 15 1 - nI 1)).2)) rfl rfl rfl rfl (Nat.le_of_ble_eq_true rfl) dX10_readRest_55 rfl (Nat.zero_le _) (Nat.zero_le _) ?_
      refine b_if_eq (pc' := 61) (tgt := 65) hC dX10_readRest_58 (by decide) rfl (fun c58 => ?_) (fun c58 => ?_)
      · skip
        refine g_iconst (pc' := 66) (v := nI 0) hC dX10_readRest_65 rfl rfl ?_
        refine g_ret hC dX10_readRest_66 rfl ?_
        exact ⟨by unfold mRest; rw [cI_f t1_2, cI_t t1_3, (sq_y c50).1]; exact (bI_f c58).symm, by unfold mRest; rw [cI_f t1_2, cI_t t1_3, (sq_y c50).2]⟩
      · skip
        refine g_iconst (pc' := 62) (v := nI 1) hC dX10_readRest_61 rfl rfl ?_
        refine g_goto (tgt := 66) hC dX10_readRest_62 (by decide) ?_
        refine g_ret hC dX10_readRest_66 rfl ?_
        exact ⟨by unfold mRest; rw [cI_f t1_2, cI_t t1_3, (sq_y c50).1]; exact (bI_t c58).symm, by unfold mRest; rw [cI_f t1_2, cI_t t1_3, (sq_y c50).2]⟩
  by_cases t1_4 : w = nI 4
  · skip
    refine gg_topi t1_4 ?_
    refine n_tswIn (tgt := 67) hC dX10_readRest_1 rfl (by decide) (by decide) (by decide) rfl (by decide) ?_
    refine g_aload_n (pc' := 68) (j := 0) hC dX10_readRest_67 rfl rfl rfl ?_
    refine g_iconst (pc' := 69) (v := nI 1) hC dX10_readRest_68 rfl rfl ?_
    refine f_Vi (pc' := 72) (k := 15) (st := []) hC (m_readBranch x.2.1 g z0 σ 1 (by first | exact hP | (simp (disch := decide) only [nb, rd_uv, rd_ur, uv_cell, ur_cell]; exact hP) | omega) (by omega) (by first | exact hs | (simp (disch := decide) only [nb, rd_uv, rd_ur, uv_cell, ur_cell]; exact hs) | omega)) k_X10_readBranch wM_X10_341 (by decide) (by decide) (ct_15 g σ) rfl rfl rfl rfl (Nat.le_of_ble_eq_true rfl) dX10_readRest_69 rfl (Nat.zero_le _) (Nat.zero_le _) ?_
    refine b_if_eq (pc' := 75) (tgt := 91) hC dX10_readRest_72 (by decide) rfl (fun c72 => ?_) (fun c72 => ?_)
    · skip
      refine g_iconst (pc' := 92) (v := nI 0) hC dX10_readRest_91 rfl rfl ?_
      refine g_ret hC dX10_readRest_92 rfl ?_
      exact ⟨by unfold mRest; rw [cI_f t1_2, cI_f t1_3, cI_t t1_4, (sq_n c72).1], by unfold mRest; rw [cI_f t1_2, cI_f t1_3, cI_t t1_4, (sq_n c72).2]⟩
    · skip
      refine g_aload_n (pc' := 76) (j := 0) hC dX10_readRest_75 rfl rfl rfl ?_
      refine g_iconst (pc' := 77) (v := nI 2) hC dX10_readRest_76 rfl rfl ?_
      refine g_iconst (pc' := 78) (v := nI 1) hC dX10_readRest_77 rfl rfl ?_
      refine g_sipush (pc' := 81) (v := nI 200) hC dX10_readRest_78 rfl rfl ?_
      refine f_Vi (pc' := 84) (k := 15) (st := []) hC (m_readInto x.2.1 g z0 ((mInto σ 1 (nI 0) (nI 7)).2) 2 ((nI 1)) ((nI 200)) (PI_mInto hP _ _ _) (by omega) ((LY_mInto _ _ _ _).n39 hs)) k_X10_readInto wM_X10_311 (by decide) (by decide) (ct_15 g ((mInto σ 1 (nI 0) (nI 7)).2)) rfl rfl rfl rfl (Nat.le_of_ble_eq_true rfl) dX10_readRest_81 rfl (Nat.zero_le _) (Nat.zero_le _) ?_
      refine b_if_eq (pc' := 87) (tgt := 91) hC dX10_readRest_84 (by decide) rfl (fun c84 => ?_) (fun c84 => ?_)
      · skip
        refine g_iconst (pc' := 92) (v := nI 0) hC dX10_readRest_91 rfl rfl ?_
        refine g_ret hC dX10_readRest_92 rfl ?_
        exact ⟨by unfold mRest; rw [cI_f t1_2, cI_f t1_3, cI_t t1_4, (sq_y c72).1]; exact (bI_f c84).symm, by unfold mRest; rw [cI_f t1_2, cI_f t1_3, cI_t t1_4, (sq_y c72).2]⟩
      · skip
        refine g_iconst (pc' := 88) (v := nI 1) hC dX10_readRest_87 rfl rfl ?_
        refine g_goto (tgt := 92) hC dX10_readRest_88 (by decide) ?_
        refine g_ret hC dX10_readRest_92 rfl ?_
        exact ⟨by unfold mRest; rw [cI_f t1_2, cI_f t1_3, cI_t t1_4, (sq_y c72).1]; exact (bI_t c84).symm, by unfold mRest; rw [cI_f t1_2, cI_f t1_3, cI_t t1_4, (sq_y c72).2]⟩
  by_cases t1_5 : w = nI 5
  · skip
    refine gg_topi t1_5 ?_
    refine n_tswIn (tgt := 93) hC dX10_readRest_1 rfl (by decide) (by decide) (by decide) rfl (by decide) ?_
    refine g_aload_n (pc' := 94) (j := 0) hC dX10_readRest_93 rfl rfl rfl ?_
    refine g_iconst (pc' := 95) (v := nI 1) hC dX10_readRest_94 rfl rfl ?_
    refine f_Vi (pc' := 98) (k := 15) (st := []) hC (m_readBranch x.2.1 g z0 σ 1 (by first | exact hP | (simp (disch := decide) only [nb, rd_uv, rd_ur, uv_cell, ur_cell]; exact hP) | omega) (by omega) (by first | exact hs | (simp (disch := decide) only [nb, rd_uv, rd_ur, uv_cell, ur_cell]; exact hs) | omega)) k_X10_readBranch wM_X10_341 (by decide) (by decide) (ct_15 g σ) rfl rfl rfl rfl (Nat.le_of_ble_eq_true rfl) dX10_readRest_95 rfl (Nat.zero_le _) (Nat.zero_le _) ?_
    refine b_if_eq (pc' := 101) (tgt := 128) hC dX10_readRest_98 (by decide) rfl (fun c98 => ?_) (fun c98 => ?_)
    · skip
      refine g_iconst (pc' := 129) (v := nI 0) hC dX10_readRest_128 rfl rfl ?_
      refine g_ret hC dX10_readRest_129 rfl ?_
      exact ⟨by unfold mRest; rw [cI_f t1_2, cI_f t1_3, cI_f t1_4, cI_t t1_5, (sq_n c98).1], by unfold mRest; rw [cI_f t1_2, cI_f t1_3, cI_f t1_4, cI_t t1_5, (sq_n c98).2]⟩
    · skip
      refine g_aload_n (pc' := 102) (j := 0) hC dX10_readRest_101 rfl rfl rfl ?_
      refine g_iconst (pc' := 103) (v := nI 2) hC dX10_readRest_102 rfl rfl ?_
      refine g_iconst (pc' := 104) (v := nI 1) hC dX10_readRest_103 rfl rfl ?_
      refine g_sipush (pc' := 107) (v := nI 200) hC dX10_readRest_104 rfl rfl ?_
      refine f_Vi (pc' := 110) (k := 15) (st := []) hC (m_readInto x.2.1 g z0 ((mInto σ 1 (nI 0) (nI 7)).2) 2 ((nI 1)) ((nI 200)) (PI_mInto hP _ _ _) (by omega) ((LY_mInto _ _ _ _).n39 hs)) k_X10_readInto wM_X10_311 (by decide) (by decide) (ct_15 g ((mInto σ 1 (nI 0) (nI 7)).2)) rfl rfl rfl rfl (Nat.le_of_ble_eq_true rfl) dX10_readRest_107 rfl (Nat.zero_le _) (Nat.zero_le _) ?_
      refine b_if_eq (pc' := 113) (tgt := 128) hC dX10_readRest_110 (by decide) rfl (fun c110 => ?_) (fun c110 => ?_)
      · skip
        refine g_iconst (pc' := 129) (v := nI 0) hC dX10_readRest_128 rfl rfl ?_
        refine g_ret hC dX10_readRest_129 rfl ?_
        exact ⟨by unfold mRest; rw [cI_f t1_2, cI_f t1_3, cI_f t1_4, cI_t t1_5, (sq_y c98).1, (sq_n c110).1], by unfold mRest; rw [cI_f t1_2, cI_f t1_3, cI_f t1_4, cI_t t1_5, (sq_y c98).2, (sq_n c110).2]⟩
      · skip
        refine g_aload_n (pc' := 114) (j := 0) hC dX10_readRest_113 rfl rfl rfl ?_
        refine g_iconst (pc' := 115) (v := nI 3) hC dX10_readRest_114 rfl rfl ?_
        refine g_iconst (pc' := 116) (v := nI 0) hC dX10_readRest_115 rfl rfl ?_
        refine g_ldc (pc' := 118) (v := 999999) hC wC_X10_174 dX10_readRest_116 rfl ?_
        refine gg_topi (b := nI 999999) rfl ?_
        refine f_Vi (pc' := 121) (k := 15) (st := []) hC (m_readInto x.2.1 g z0 ((mInto ((mInto σ 1 (nI 0) (nI 7)).2) 2 (nI 1) (nI 200)).2) 3 ((nI 0)) ((nI 999999)) (PI_mInto (PI_mInto hP _ _ _) _ _ _) (by omega) (((LY_mInto _ _ _ _).tr (LY_mInto _ _ _ _)).n39 hs)) k_X10_readInto wM_X10_311 (by decide) (by decide) (ct_15 g ((mInto ((mInto σ 1 (nI 0) (nI 7)).2) 2 (nI 1) (nI 200)).2)) rfl rfl rfl rfl (Nat.le_of_ble_eq_true rfl) dX10_readRest_118 rfl (Nat.zero_le _) (Nat.zero_le _) ?_
        refine b_if_eq (pc' := 124) (tgt := 128) hC dX10_readRest_121 (by decide) rfl (fun c121 => ?_) (fun c121 => ?_)
        · skip
          refine g_iconst (pc' := 129) (v := nI 0) hC dX10_readRest_128 rfl rfl ?_
          refine g_ret hC dX10_readRest_129 rfl ?_
          exact ⟨by unfold mRest; rw [cI_f t1_2, cI_f t1_3, cI_f t1_4, cI_t t1_5, (sq_y c98).1, (sq_y c110).1]; exact (bI_f c121).symm, by unfold mRest; rw [cI_f t1_2, cI_f t1_3, cI_f t1_4, cI_t t1_5, (sq_y c98).2, (sq_y c110).2]⟩
        · skip
          refine g_iconst (pc' := 125) (v := nI 1) hC dX10_readRest_124 rfl rfl ?_
          refine g_goto (tgt := 129) hC dX10_readRest_125 (by decide) ?_
          refine g_ret hC dX10_readRest_129 rfl ?_
          exact ⟨by unfold mRest; rw [cI_f t1_2, cI_f t1_3, cI_f t1_4, cI_t t1_5, (sq_y c98).1, (sq_y c110).1]; exact (bI_t c121).symm, by unfold mRest; rw [cI_f t1_2, cI_f t1_3, cI_f t1_4, cI_t t1_5, (sq_y c98).2, (sq_y c110).2]⟩
  by_cases t1_6 : w = nI 6
  · skip
    refine gg_topi t1_6 ?_
    refine n_tswIn (tgt := 130) hC dX10_readRest_1 rfl (by decide) (by decide) (by decide) rfl (by decide) ?_
    refine g_aload_n (pc' := 131) (j := 0) hC dX10_readRest_130 rfl rfl rfl ?_
    refine g_iconst (pc' := 132) (v := nI 1) hC dX10_readRest_131 rfl rfl ?_
    refine f_Vi (pc' := 135) (k := 15) (st := []) hC (m_readClient x.2.1 g z0 σ 1 (by first | exact hP | (simp (disch := decide) only [nb, rd_uv, rd_ur, uv_cell, ur_cell]; exact hP) | omega) (by omega) (by first | exact hs | (simp (disch := decide) only [nb, rd_uv, rd_ur, uv_cell, ur_cell]; exact hs) | omega)) k_X10_readClient wM_X10_321 (by decide) (by decide) (ct_15 g σ) rfl rfl rfl rfl (Nat.le_of_ble_eq_true rfl) dX10_readRest_132 rfl (Nat.zero_le _) (Nat.zero_le _) ?_
    refine b_if_eq (pc' := 138) (tgt := 150) hC dX10_readRest_135 (by decide) rfl (fun c135 => ?_) (fun c135 => ?_)
    · skip
      refine g_iconst (pc' := 151) (v := nI 0) hC dX10_readRest_150 rfl rfl ?_
      refine g_ret hC dX10_readRest_151 rfl ?_
      exact ⟨by unfold mRest; rw [cI_f t1_2, cI_f t1_3, cI_f t1_4, cI_f t1_5, cI_t t1_6, (sq_n c135).1], by unfold mRest; rw [cI_f t1_2, cI_f t1_3, cI_f t1_4, cI_f t1_5, cI_t t1_6, (sq_n c135).2]⟩
    · skip
      refine g_aload_n (pc' := 139) (j := 0) hC dX10_readRest_138 rfl rfl rfl ?_
      refine g_iconst (pc' := 140) (v := nI 2) hC dX10_readRest_139 rfl rfl ?_
      refine f_Vi (pc' := 143) (k := 15) (st := []) hC (m_readClient x.2.1 g z0 ((mInto σ 1 (nI 0) (σ.1 15 1 - nI 1)).2) 2 (PI_mInto hP _ _ _) (by omega) ((LY_mInto _ _ _ _).n39 hs)) k_X10_readClient wM_X10_321 (by decide) (by decide) (ct_15 g ((mInto σ 1 (nI 0) (σ.1 15 1 - nI 1)).2)) rfl rfl rfl rfl (Nat.le_of_ble_eq_true rfl) dX10_readRest_140 rfl (Nat.zero_le _) (Nat.zero_le _) ?_
      refine b_if_eq (pc' := 146) (tgt := 150) hC dX10_readRest_143 (by decide) rfl (fun c143 => ?_) (fun c143 => ?_)
      · skip
        refine g_iconst (pc' := 151) (v := nI 0) hC dX10_readRest_150 rfl rfl ?_
        refine g_ret hC dX10_readRest_151 rfl ?_
        exact ⟨by unfold mRest; rw [cI_f t1_2, cI_f t1_3, cI_f t1_4, cI_f t1_5, cI_t t1_6, (sq_y c135).1]; exact (bI_f c143).symm, by unfold mRest; rw [cI_f t1_2, cI_f t1_3, cI_f t1_4, cI_f t1_5, cI_t t1_6, (sq_y c135).2]⟩
      · skip
        refine g_iconst (pc' := 147) (v := nI 1) hC dX10_readRest_146 rfl rfl ?_
        refine g_goto (tgt := 151) hC dX10_readRest_147 (by decide) ?_
        refine g_ret hC dX10_readRest_151 rfl ?_
        exact ⟨by unfold mRest; rw [cI_f t1_2, cI_f t1_3, cI_f t1_4, cI_f t1_5, cI_t t1_6, (sq_y c135).1]; exact (bI_t c143).symm, by unfold mRest; rw [cI_f t1_2, cI_f t1_3, cI_f t1_4, cI_f t1_5, cI_t t1_6, (sq_y c135).2]⟩
  by_cases t1_7 : w = nI 7
  · skip
    refine gg_topi t1_7 ?_
    refine n_tswIn (tgt := 152) hC dX10_readRest_1 rfl (by decide) (by decide) (by decide) rfl (by decide) ?_
    refine g_aload_n (pc' := 153) (j := 0) hC dX10_readRest_152 rfl rfl rfl ?_
    refine g_iconst (pc' := 154) (v := nI 1) hC dX10_readRest_153 rfl rfl ?_
    refine f_Vi (pc' := 157) (k := 15) (st := []) hC (m_readClient x.2.1 g z0 σ 1 (by first | exact hP | (simp (disch := decide) only [nb, rd_uv, rd_ur, uv_cell, ur_cell]; exact hP) | omega) (by omega) (by first | exact hs | (simp (disch := decide) only [nb, rd_uv, rd_ur, uv_cell, ur_cell]; exact hs) | omega)) k_X10_readClient wM_X10_321 (by decide) (by decide) (ct_15 g σ) rfl rfl rfl rfl (Nat.le_of_ble_eq_true rfl) dX10_readRest_154 rfl (Nat.zero_le _) (Nat.zero_le _) ?_
    refine g_ret hC dX10_readRest_157 (bI_nar _) ?_
    exact ⟨by unfold mRest; rw [cI_f t1_2, cI_f t1_3, cI_f t1_4, cI_f t1_5, cI_f t1_6, cI_t t1_7], by unfold mRest; rw [cI_f t1_2, cI_f t1_3, cI_f t1_4, cI_f t1_5, cI_f t1_6, cI_t t1_7]⟩
  refine g_tswOut (tgt := 158) hC dX10_readRest_1 (tsw_out2 2 7 (by decide) (by intro j hj0 hj; rcases (show j = 2 ∨ j = 3 ∨ j = 4 ∨ j = 5 ∨ j = 6 ∨ j = 7 by omega) with rfl | rfl | rfl | rfl | rfl | rfl <;> assumption)) (by decide) ?_
  refine g_aload_n (pc' := 159) (j := 0) hC dX10_readRest_158 rfl rfl rfl ?_
  refine g_iconst (pc' := 160) (v := nI 1) hC dX10_readRest_159 rfl rfl ?_
  refine f_Vi (pc' := 163) (k := 15) (st := []) hC (m_readBranch x.2.1 g z0 σ 1 (by first | exact hP | (simp (disch := decide) only [nb, rd_uv, rd_ur, uv_cell, ur_cell]; exact hP) | omega) (by omega) (by first | exact hs | (simp (disch := decide) only [nb, rd_uv, rd_ur, uv_cell, ur_cell]; exact hs) | omega)) k_X10_readBranch wM_X10_341 (by decide) (by decide) (ct_15 g σ) rfl rfl rfl rfl (Nat.le_of_ble_eq_true rfl) dX10_readRest_160 rfl (Nat.zero_le _) (Nat.zero_le _) ?_
  refine b_if_eq (pc' := 166) (tgt := 178) hC dX10_readRest_163 (by decide) rfl (fun c163 => ?_) (fun c163 => ?_)
  · skip
    refine g_iconst (pc' := 179) (v := nI 0) hC dX10_readRest_178 rfl rfl ?_
    refine g_ret hC dX10_readRest_179 rfl ?_
    exact ⟨by unfold mRest; rw [cI_f t1_2, cI_f t1_3, cI_f t1_4, cI_f t1_5, cI_f t1_6, cI_f t1_7, (sq_n c163).1], by unfold mRest; rw [cI_f t1_2, cI_f t1_3, cI_f t1_4, cI_f t1_5, cI_f t1_6, cI_f t1_7, (sq_n c163).2]⟩
  · skip
    refine g_aload_n (pc' := 167) (j := 0) hC dX10_readRest_166 rfl rfl rfl ?_
    refine g_iconst (pc' := 168) (v := nI 2) hC dX10_readRest_167 rfl rfl ?_
    refine f_Vi (pc' := 171) (k := 15) (st := []) hC (m_readBranch x.2.1 g z0 ((mInto σ 1 (nI 0) (nI 7)).2) 2 (PI_mInto hP _ _ _) (by omega) ((LY_mInto _ _ _ _).n39 hs)) k_X10_readBranch wM_X10_341 (by decide) (by decide) (ct_15 g ((mInto σ 1 (nI 0) (nI 7)).2)) rfl rfl rfl rfl (Nat.le_of_ble_eq_true rfl) dX10_readRest_168 rfl (Nat.zero_le _) (Nat.zero_le _) ?_
    refine b_if_eq (pc' := 174) (tgt := 178) hC dX10_readRest_171 (by decide) rfl (fun c171 => ?_) (fun c171 => ?_)
    · skip
      refine g_iconst (pc' := 179) (v := nI 0) hC dX10_readRest_178 rfl rfl ?_
      refine g_ret hC dX10_readRest_179 rfl ?_
      exact ⟨by unfold mRest; rw [cI_f t1_2, cI_f t1_3, cI_f t1_4, cI_f t1_5, cI_f t1_6, cI_f t1_7, (sq_y c163).1]; exact (bI_f c171).symm, by unfold mRest; rw [cI_f t1_2, cI_f t1_3, cI_f t1_4, cI_f t1_5, cI_f t1_6, cI_f t1_7, (sq_y c163).2]⟩
    · skip
      refine g_iconst (pc' := 175) (v := nI 1) hC dX10_readRest_174 rfl rfl ?_
      refine g_goto (tgt := 179) hC dX10_readRest_175 (by decide) ?_
      refine g_ret hC dX10_readRest_179 rfl ?_
      exact ⟨by unfold mRest; rw [cI_f t1_2, cI_f t1_3, cI_f t1_4, cI_f t1_5, cI_f t1_6, cI_f t1_7, (sq_y c163).1]; exact (bI_t c171).symm, by unfold mRest; rw [cI_f t1_2, cI_f t1_3, cI_f t1_4, cI_f t1_5, cI_f t1_6, cI_f t1_7, (sq_y c163).2]⟩
set_option maxHeartbeats 4000000 in
set_option maxRecDepth 20000 in
theorem m_readOperation (l : Launch) (g : Lay) (z0 : Nat) (σ : St)  (hP : PI σ) (hs0 : nb σ 15 39 60)  : CTi l yX10_readOperation cX10_readOperation 3 (some .boolean) 5 g z0 [.ref (g.2.1 15)] σ (FI (bI ((mOp σ).1)) ((mOp σ).2)) := by
  refine CTi.of (by decide) (Nat.le_of_ble_eq_true rfl) ?_
  intro x hxl hxa hC
  have hC : Cx x RX10 cX10_readOperation 3 (some .boolean) 5 g z0 := hC
  have hs2 := hs0.2
  have q1 : PI (sN σ (nI 0) (σ.1 15 1 - nI 1)) := PI_sN hP _ _
  have q2 : PI (mMany (sN σ (nI 0) (σ.1 15 1 - nI 1)) (σ.1 15 27)).2 := PI_mMany q1 _
  have q3 : PI (uv (mMany (sN σ (nI 0) (σ.1 15 1 - nI 1)) (σ.1 15 27)).2 32 (4 * rd σ 15 39 + 1) ((mMany (sN σ (nI 0) (σ.1 15 1 - nI 1)) (σ.1 15 27)).2.1 15 31)) := PI_32 q2 _ _
  have q4 : PI (sW (uv (mMany (sN σ (nI 0) (σ.1 15 1 - nI 1)) (σ.1 15 27)).2 32 (4 * rd σ 15 39 + 1) ((mMany (sN σ (nI 0) (σ.1 15 1 - nI 1)) (σ.1 15 27)).2.1 15 31))) := PI_sW q3
  have hk4 := q3.sk
  have hE4 := q3.2.1.2
  have y2 : LY σ (mMany (sN σ (nI 0) (σ.1 15 1 - nI 1)) (σ.1 15 27)).2 := (LX_sN _ _ _).ly.tr (LY_mMany _ _)
  have y4 : LY σ (sW (uv (mMany (sN σ (nI 0) (σ.1 15 1 - nI 1)) (σ.1 15 27)).2 32 (4 * rd σ 15 39 + 1) ((mMany (sN σ (nI 0) (σ.1 15 1 - nI 1)) (σ.1 15 27)).2.1 15 31))) := (y2.u32 _ _).tr (LX_sW _).ly
  show GG x g z0 3 0 0 (Qi x g z0 (FI (bI ((mOp σ).1)) ((mOp σ).2))) σ 0 [(0, .ref (g.2.1 15))] []
  refine g_aload_n (pc' := 1) (j := 0) hC dX10_readOperation_0 rfl rfl rfl ?_
  refine gf_X10_27 (pc' := 4) hC wF_X10_234 dX10_readOperation_1 rfl ?_
  refine g_istore_n (pc' := 5) (lv' := [(1, .int (σ.1 15 27)), (0, .ref (g.2.1 15))]) hC dX10_readOperation_4 rfl rfl (by decide) rfl ?_
  refine g_aload_n (pc' := 6) (j := 1) hC dX10_readOperation_5 rfl rfl rfl ?_
  refine g_iconst (pc' := 7) (v := nI 0) hC dX10_readOperation_6 rfl rfl ?_
  refine g_aload_n (pc' := 8) (j := 1) hC dX10_readOperation_7 rfl rfl rfl ?_
  refine gf_X10_1 (pc' := 11) hC wF_X10_69 dX10_readOperation_8 rfl ?_
  refine g_iconst (pc' := 12) (v := nI 1) hC dX10_readOperation_11 rfl rfl ?_
  refine g_isub (pc' := 13) hC dX10_readOperation_12 rfl ?_
  refine f_Vi (pc' := 16) (k := 15) (st := []) hC (m_readNumber x.2.1 g z0 σ ((nI 0)) (((σ.1 15 1) - (nI 1))) (by first | exact hP | (simp (disch := decide) only [nb, rd_uv, rd_ur, uv_cell, ur_cell]; exact hP) | omega)) k_X10_readNumber wM_X10_280 (by decide) (by decide) (ct_15 g σ) rfl rfl rfl rfl (Nat.le_of_ble_eq_true rfl) dX10_readOperation_13 rfl (Nat.zero_le _) (Nat.zero_le _) ?_
  refine b_if_eq (pc' := 19) (tgt := 27) hC dX10_readOperation_16 (by decide) rfl (fun c16 => ?_) (fun c16 => ?_)
  · skip
    refine g_iconst (pc' := 28) (v := nI 0) hC dX10_readOperation_27 rfl rfl ?_
    refine g_ret hC dX10_readOperation_28 rfl ?_
    exact ⟨by unfold mOp; rw [(sq_n (c16)).1], by unfold mOp; rw [(sq_n (c16)).2]⟩
  · skip
    refine g_aload_n (pc' := 20) (j := 1) hC dX10_readOperation_19 rfl rfl rfl ?_
    refine g_iload_n (pc' := 21) (j := 0) hC dX10_readOperation_20 rfl rfl rfl ?_
    refine f_Vi (pc' := 24) (k := 15) (st := []) hC (m_isTooMany x.2.1 g z0 (sN σ (nI 0) ((σ.1 15 1) - (nI 1))) ((σ.1 15 27)) ((LX_sN _ _ _).ly.n39 hs0)) k_X10_isTooMany wM_X10_314 (by decide) (by decide) (ct_15 g (sN σ (nI 0) ((σ.1 15 1) - (nI 1)))) rfl rfl rfl rfl (Nat.le_of_ble_eq_true rfl) dX10_readOperation_21 rfl (Nat.zero_le _) (Nat.zero_le _) ?_
    refine b_if_eq (pc' := 27) (tgt := 29) hC dX10_readOperation_24 (by decide) rfl (fun c24 => ?_) (fun c24 => ?_)
    · skip
      have hlt : rd σ 15 39 < 60 := by have h9 : ¬ rd (sN σ (nI 0) (σ.1 15 1 - nI 1)) 15 39 = 60 := c24; rw [(LX_sN _ _ _).ly.d39] at h9; omega
      refine g_aload_n (pc' := 30) (j := 1) hC dX10_readOperation_29 rfl rfl rfl ?_
      refine gf_X10_38 (pc' := 33) hC wF_X10_63 dX10_readOperation_30 rfl ?_
      refine g_iconst (pc' := 34) (v := nI 4) hC dX10_readOperation_33 rfl rfl ?_
      refine g_aload_n (pc' := 35) (j := 1) hC dX10_readOperation_34 rfl rfl rfl ?_
      refine gf_X10_39 (pc' := 38) hC wF_X10_308 dX10_readOperation_35 rfl ?_
      refine gg_topi (b := nI (rd σ 15 39)) (((LX_sN _ _ _).ly.tr (LY_mMany _ _)).r39.trans hs0.1) ?_
      refine n_imul (pc' := 39) hC dX10_readOperation_38 rfl ?_
      refine g_iconst (pc' := 40) (v := nI 1) hC dX10_readOperation_39 rfl rfl ?_
      refine n_iadd (pc' := 41) hC dX10_readOperation_40 rfl ?_
      refine g_aload_n (pc' := 42) (j := 1) hC dX10_readOperation_41 rfl rfl rfl ?_
      refine gf_X10_31 (pc' := 45) hC wF_X10_271 dX10_readOperation_42 rfl ?_
      refine a_st (pc' := 46) (k := 32) (i := (4 * (rd σ 15 39)) + 1) hC (by decide) (fun σ9 => (ct_32 g σ9)) (by omega) (by decide) dX10_readOperation_45 rfl ?_
      refine g_aload_n (pc' := 47) (j := 1) hC dX10_readOperation_46 rfl rfl rfl ?_
      refine f_Vi (pc' := 50) (k := 15) (st := []) hC (m_readWord x.2.1 g z0 (uv ((mMany (sN σ (nI 0) ((σ.1 15 1) - (nI 1))) (σ.1 15 27)).2) 32 ((4 * (rd σ 15 39)) + 1) (((mMany (sN σ (nI 0) ((σ.1 15 1) - (nI 1))) (σ.1 15 27)).2).1 15 31)) (q3)) k_X10_readWord wM_X10_264 (by decide) (by decide) (ct_15 g (uv ((mMany (sN σ (nI 0) ((σ.1 15 1) - (nI 1))) (σ.1 15 27)).2) 32 ((4 * (rd σ 15 39)) + 1) (((mMany (sN σ (nI 0) ((σ.1 15 1) - (nI 1))) (σ.1 15 27)).2).1 15 31))) rfl rfl rfl rfl (Nat.le_of_ble_eq_true rfl) dX10_readOperation_47 rfl (Nat.zero_le _) (Nat.zero_le _) ?_
      refine b_if_ne (pc' := 53) (tgt := 55) hC dX10_readOperation_50 (by decide) rfl (fun c50 => ?_) (fun c50 => ?_)
      · skip
        refine g_aload_n (pc' := 56) (j := 1) hC dX10_readOperation_55 rfl rfl rfl ?_
        refine gf_X10_34 (pc' := 59) hC wF_X10_256 dX10_readOperation_56 rfl ?_
        refine g_ldc2 (pc' := 62) (v := 790941875) hC wC_X10_317 dX10_readOperation_59 rfl ?_
        refine g_lcmp (pc' := 63) hC dX10_readOperation_62 rfl ?_
        refine c_if_eq (pc' := 66) (tgt := 87) hC dX10_readOperation_63 (by decide) rfl (fun c63 => ?_) (fun c63 => ?_)
        · skip
          refine g_aload_n (pc' := 88) (j := 1) hC dX10_readOperation_87 rfl rfl rfl ?_
          refine gf_X10_34 (pc' := 91) hC wF_X10_256 dX10_readOperation_88 rfl ?_
          refine g_ldc2 (pc' := 94) (v := 790941875) hC wC_X10_317 dX10_readOperation_91 rfl ?_
          refine g_lcmp (pc' := 95) hC dX10_readOperation_94 rfl ?_
          refine c_if_ne (pc' := 98) (tgt := 102) hC dX10_readOperation_95 (by decide) rfl (fun c95 => ?_) (fun c95 => ?_)
          · skip
            exact absurd c63 c95
          · skip
            refine g_iconst (pc' := 99) (v := nI 1) hC dX10_readOperation_98 rfl rfl ?_
            refine g_goto (tgt := 103) hC dX10_readOperation_99 (by decide) ?_
            refine g_istore_n (pc' := 104) (lv' := [(2, .int (nI 1)), (1, .int (σ.1 15 27)), (0, .ref (g.2.1 15))]) hC dX10_readOperation_103 rfl rfl (by decide) rfl ?_
            refine g_aload_n (pc' := 105) (j := 2) hC dX10_readOperation_104 rfl rfl rfl ?_
            refine gf_X10_38 (pc' := 108) hC wF_X10_63 dX10_readOperation_105 rfl ?_
            refine g_iconst (pc' := 109) (v := nI 4) hC dX10_readOperation_108 rfl rfl ?_
            refine g_aload_n (pc' := 110) (j := 2) hC dX10_readOperation_109 rfl rfl rfl ?_
            refine gf_X10_39 (pc' := 113) hC wF_X10_308 dX10_readOperation_110 rfl ?_
            refine gg_topi (b := nI (rd σ 15 39)) ((((LX_sN _ _ _).ly.tr (LY_mMany _ _)).u32 _ _ |>.tr (LX_sW _).ly).r39.trans hs0.1) ?_
            refine n_imul (pc' := 114) hC dX10_readOperation_113 rfl ?_
            refine g_iload_n (pc' := 115) (j := 0) hC dX10_readOperation_114 rfl rfl rfl ?_
            refine n_if_eq (pc' := 118) (tgt := 122) hC dX10_readOperation_115 (by decide) rfl (by omega) (fun c115 => ?_) (fun c115 => ?_)
            · skip
              first | exact absurd c115 (by decide) | exact c115.elim
            · skip
              refine g_iconst (pc' := 119) (v := nI 0) hC dX10_readOperation_118 rfl rfl ?_
              refine g_goto (tgt := 123) hC dX10_readOperation_119 (by decide) ?_
              refine a_st (pc' := 124) (k := 32) (i := 4 * (rd σ 15 39)) hC (by decide) (fun σ9 => (ct_32 g σ9)) (by omega) (by decide) dX10_readOperation_123 rfl ?_
              refine g_aload_n (pc' := 125) (j := 2) hC dX10_readOperation_124 rfl rfl rfl ?_
              refine g_iconst (pc' := 126) (v := nI 2) hC dX10_readOperation_125 rfl rfl ?_
              refine g_iconst (pc' := 127) (v := nI 0) hC dX10_readOperation_126 rfl rfl ?_
              refine g_aload_n (pc' := 128) (j := 2) hC dX10_readOperation_127 rfl rfl rfl ?_
              refine gf_X10_2 (pc' := 131) hC wF_X10_76 dX10_readOperation_128 rfl ?_
              refine gg_topi (b := (sW (uv ((mMany (sN σ (nI 0) ((σ.1 15 1) - (nI 1))) (σ.1 15 27)).2) 32 ((4 * (rd σ 15 39)) + 1) (((mMany (sN σ (nI 0) ((σ.1 15 1) - (nI 1))) (σ.1 15 27)).2).1 15 31))).1 15 2) (uv_cell _ _ _ _ (by decide)) ?_
              refine g_iconst (pc' := 132) (v := nI 1) hC dX10_readOperation_131 rfl rfl ?_
              refine g_isub (pc' := 133) hC dX10_readOperation_132 rfl ?_
              refine f_Vi (pc' := 136) (k := 15) (st := []) hC (m_readInto x.2.1 g z0 (uv (sW (uv ((mMany (sN σ (nI 0) ((σ.1 15 1) - (nI 1))) (σ.1 15 27)).2) 32 ((4 * (rd σ 15 39)) + 1) (((mMany (sN σ (nI 0) ((σ.1 15 1) - (nI 1))) (σ.1 15 27)).2).1 15 31))) 32 (4 * (rd σ 15 39)) (nI 0)) 2 ((nI 0)) ((((sW (uv ((mMany (sN σ (nI 0) ((σ.1 15 1) - (nI 1))) (σ.1 15 27)).2) 32 ((4 * (rd σ 15 39)) + 1) (((mMany (sN σ (nI 0) ((σ.1 15 1) - (nI 1))) (σ.1 15 27)).2).1 15 31))).1 15 2) - (nI 1))) (PI_32 q4 _ _) (by omega) (nb_cg (y4.u32 _ _).r39 hs0 (by omega))) k_X10_readInto wM_X10_311 (by decide) (by decide) (ct_15 g (uv (sW (uv ((mMany (sN σ (nI 0) ((σ.1 15 1) - (nI 1))) (σ.1 15 27)).2) 32 ((4 * (rd σ 15 39)) + 1) (((mMany (sN σ (nI 0) ((σ.1 15 1) - (nI 1))) (σ.1 15 27)).2).1 15 31))) 32 (4 * (rd σ 15 39)) (nI 0))) rfl rfl rfl rfl (Nat.le_of_ble_eq_true rfl) dX10_readOperation_133 rfl (Nat.zero_le _) (Nat.zero_le _) ?_
              refine b_if_eq (pc' := 139) (tgt := 158) hC dX10_readOperation_136 (by decide) rfl (fun c136 => ?_) (fun c136 => ?_)
              · skip
                refine g_iconst (pc' := 159) (v := nI 0) hC dX10_readOperation_158 rfl rfl ?_
                refine g_ret hC dX10_readOperation_159 rfl ?_
                exact ⟨by unfold mOp; rw [(sq_y (c16)).1, (sq_y (c24)).1]; unfold mOp3; rw [(sq_y c50).1, cI_t (show wok _ from Or.inl c63)]; unfold mOp4; rw [cI_t c95, (sq_n c136).1], by unfold mOp; rw [(sq_y (c16)).2, (sq_y (c24)).2]; unfold mOp3; rw [(sq_y c50).2, cI_t (show wok _ from Or.inl c63)]; unfold mOp4; rw [cI_t c95, (sq_n c136).2]⟩
              · skip
                refine g_iload_n (pc' := 140) (j := 0) hC dX10_readOperation_139 rfl rfl rfl ?_
                refine n_if_eq (pc' := 143) (tgt := 154) hC dX10_readOperation_140 (by decide) rfl (by omega) (fun c140 => ?_) (fun c140 => ?_)
                · skip
                  first | exact absurd c140 (by decide) | exact c140.elim
                · skip
                  refine g_aload_n (pc' := 144) (j := 2) hC dX10_readOperation_143 rfl rfl rfl ?_
                  refine g_iconst (pc' := 145) (v := nI 3) hC dX10_readOperation_144 rfl rfl ?_
                  refine g_iconst (pc' := 146) (v := nI 0) hC dX10_readOperation_145 rfl rfl ?_
                  refine g_ldc (pc' := 148) (v := 999999) hC wC_X10_174 dX10_readOperation_146 rfl ?_
                  refine gg_topi (b := nI 999999) rfl ?_
                  refine f_Vi (pc' := 151) (k := 15) (st := []) hC (m_readInto x.2.1 g z0 ((mInto (uv (sW (uv ((mMany (sN σ (nI 0) ((σ.1 15 1) - (nI 1))) (σ.1 15 27)).2) 32 ((4 * (rd σ 15 39)) + 1) (((mMany (sN σ (nI 0) ((σ.1 15 1) - (nI 1))) (σ.1 15 27)).2).1 15 31))) 32 (4 * (rd σ 15 39)) (nI 0)) 2 (nI 0) (((sW (uv ((mMany (sN σ (nI 0) ((σ.1 15 1) - (nI 1))) (σ.1 15 27)).2) 32 ((4 * (rd σ 15 39)) + 1) (((mMany (sN σ (nI 0) ((σ.1 15 1) - (nI 1))) (σ.1 15 27)).2).1 15 31))).1 15 2) - (nI 1))).2) 3 ((nI 0)) ((nI 999999)) (PI_mInto (PI_32 q4 _ _) _ _ _) (by omega) (nb_cg ((y4.u32 _ _).tr (LY_mInto _ _ _ _)).r39 hs0 (by omega))) k_X10_readInto wM_X10_311 (by decide) (by decide) (ct_15 g ((mInto (uv (sW (uv ((mMany (sN σ (nI 0) ((σ.1 15 1) - (nI 1))) (σ.1 15 27)).2) 32 ((4 * (rd σ 15 39)) + 1) (((mMany (sN σ (nI 0) ((σ.1 15 1) - (nI 1))) (σ.1 15 27)).2).1 15 31))) 32 (4 * (rd σ 15 39)) (nI 0)) 2 (nI 0) (((sW (uv ((mMany (sN σ (nI 0) ((σ.1 15 1) - (nI 1))) (σ.1 15 27)).2) 32 ((4 * (rd σ 15 39)) + 1) (((mMany (sN σ (nI 0) ((σ.1 15 1) - (nI 1))) (σ.1 15 27)).2).1 15 31))).1 15 2) - (nI 1))).2)) rfl rfl rfl rfl (Nat.le_of_ble_eq_true rfl) dX10_readOperation_148 rfl (Nat.zero_le _) (Nat.zero_le _) ?_
                  refine b_if_eq (pc' := 154) (tgt := 158) hC dX10_readOperation_151 (by decide) rfl (fun c151 => ?_) (fun c151 => ?_)
                  · skip
                    refine g_iconst (pc' := 159) (v := nI 0) hC dX10_readOperation_158 rfl rfl ?_
                    refine g_ret hC dX10_readOperation_159 rfl ?_
                    exact ⟨by unfold mOp; rw [(sq_y (c16)).1, (sq_y (c24)).1]; unfold mOp3; rw [(sq_y c50).1, cI_t (show wok _ from Or.inl c63)]; unfold mOp4; rw [cI_t c95, (sq_y c136).1]; exact (bI_f c151).symm, by unfold mOp; rw [(sq_y (c16)).2, (sq_y (c24)).2]; unfold mOp3; rw [(sq_y c50).2, cI_t (show wok _ from Or.inl c63)]; unfold mOp4; rw [cI_t c95, (sq_y c136).2]⟩
                  · skip
                    refine g_iconst (pc' := 155) (v := nI 1) hC dX10_readOperation_154 rfl rfl ?_
                    refine g_goto (tgt := 159) hC dX10_readOperation_155 (by decide) ?_
                    refine g_ret hC dX10_readOperation_159 rfl ?_
                    exact ⟨by unfold mOp; rw [(sq_y (c16)).1, (sq_y (c24)).1]; unfold mOp3; rw [(sq_y c50).1, cI_t (show wok _ from Or.inl c63)]; unfold mOp4; rw [cI_t c95, (sq_y c136).1]; exact (bI_t c151).symm, by unfold mOp; rw [(sq_y (c16)).2, (sq_y (c24)).2]; unfold mOp3; rw [(sq_y c50).2, cI_t (show wok _ from Or.inl c63)]; unfold mOp4; rw [cI_t c95, (sq_y c136).2]⟩
        · skip
          refine g_aload_n (pc' := 67) (j := 1) hC dX10_readOperation_66 rfl rfl rfl ?_
          refine gf_X10_34 (pc' := 70) hC wF_X10_256 dX10_readOperation_67 rfl ?_
          refine g_ldc2 (pc' := 73) (v := 19039379) hC wC_X10_319 dX10_readOperation_70 rfl ?_
          refine g_lcmp (pc' := 74) hC dX10_readOperation_73 rfl ?_
          refine c_if_eq (pc' := 77) (tgt := 87) hC dX10_readOperation_74 (by decide) rfl (fun c74 => ?_) (fun c74 => ?_)
          · skip
            refine g_aload_n (pc' := 88) (j := 1) hC dX10_readOperation_87 rfl rfl rfl ?_
            refine gf_X10_34 (pc' := 91) hC wF_X10_256 dX10_readOperation_88 rfl ?_
            refine g_ldc2 (pc' := 94) (v := 790941875) hC wC_X10_317 dX10_readOperation_91 rfl ?_
            refine g_lcmp (pc' := 95) hC dX10_readOperation_94 rfl ?_
            refine c_if_ne (pc' := 98) (tgt := 102) hC dX10_readOperation_95 (by decide) rfl (fun c95 => ?_) (fun c95 => ?_)
            · skip
              refine g_iconst (pc' := 103) (v := nI 0) hC dX10_readOperation_102 rfl rfl ?_
              refine g_istore_n (pc' := 104) (lv' := [(2, .int (nI 0)), (1, .int (σ.1 15 27)), (0, .ref (g.2.1 15))]) hC dX10_readOperation_103 rfl rfl (by decide) rfl ?_
              refine g_aload_n (pc' := 105) (j := 2) hC dX10_readOperation_104 rfl rfl rfl ?_
              refine gf_X10_38 (pc' := 108) hC wF_X10_63 dX10_readOperation_105 rfl ?_
              refine g_iconst (pc' := 109) (v := nI 4) hC dX10_readOperation_108 rfl rfl ?_
              refine g_aload_n (pc' := 110) (j := 2) hC dX10_readOperation_109 rfl rfl rfl ?_
              refine gf_X10_39 (pc' := 113) hC wF_X10_308 dX10_readOperation_110 rfl ?_
              refine gg_topi (b := nI (rd σ 15 39)) ((((LX_sN _ _ _).ly.tr (LY_mMany _ _)).u32 _ _ |>.tr (LX_sW _).ly).r39.trans hs0.1) ?_
              refine n_imul (pc' := 114) hC dX10_readOperation_113 rfl ?_
              refine g_iload_n (pc' := 115) (j := 0) hC dX10_readOperation_114 rfl rfl rfl ?_
              refine n_if_eq (pc' := 118) (tgt := 122) hC dX10_readOperation_115 (by decide) rfl (by omega) (fun c115 => ?_) (fun c115 => ?_)
              · skip
                refine g_iconst (pc' := 123) (v := nI 1) hC dX10_readOperation_122 rfl rfl ?_
                refine a_st (pc' := 124) (k := 32) (i := 4 * (rd σ 15 39)) hC (by decide) (fun σ9 => (ct_32 g σ9)) (by omega) (by decide) dX10_readOperation_123 rfl ?_
                refine g_aload_n (pc' := 125) (j := 2) hC dX10_readOperation_124 rfl rfl rfl ?_
                refine g_iconst (pc' := 126) (v := nI 2) hC dX10_readOperation_125 rfl rfl ?_
                refine g_iconst (pc' := 127) (v := nI 0) hC dX10_readOperation_126 rfl rfl ?_
                refine g_aload_n (pc' := 128) (j := 2) hC dX10_readOperation_127 rfl rfl rfl ?_
                refine gf_X10_2 (pc' := 131) hC wF_X10_76 dX10_readOperation_128 rfl ?_
                refine gg_topi (b := (sW (uv ((mMany (sN σ (nI 0) ((σ.1 15 1) - (nI 1))) (σ.1 15 27)).2) 32 ((4 * (rd σ 15 39)) + 1) (((mMany (sN σ (nI 0) ((σ.1 15 1) - (nI 1))) (σ.1 15 27)).2).1 15 31))).1 15 2) (uv_cell _ _ _ _ (by decide)) ?_
                refine g_iconst (pc' := 132) (v := nI 1) hC dX10_readOperation_131 rfl rfl ?_
                refine g_isub (pc' := 133) hC dX10_readOperation_132 rfl ?_
                refine f_Vi (pc' := 136) (k := 15) (st := []) hC (m_readInto x.2.1 g z0 (uv (sW (uv ((mMany (sN σ (nI 0) ((σ.1 15 1) - (nI 1))) (σ.1 15 27)).2) 32 ((4 * (rd σ 15 39)) + 1) (((mMany (sN σ (nI 0) ((σ.1 15 1) - (nI 1))) (σ.1 15 27)).2).1 15 31))) 32 (4 * (rd σ 15 39)) (nI 1)) 2 ((nI 0)) ((((sW (uv ((mMany (sN σ (nI 0) ((σ.1 15 1) - (nI 1))) (σ.1 15 27)).2) 32 ((4 * (rd σ 15 39)) + 1) (((mMany (sN σ (nI 0) ((σ.1 15 1) - (nI 1))) (σ.1 15 27)).2).1 15 31))).1 15 2) - (nI 1))) (PI_32 q4 _ _) (by omega) (nb_cg (y4.u32 _ _).r39 hs0 (by omega))) k_X10_readInto wM_X10_311 (by decide) (by decide) (ct_15 g (uv (sW (uv ((mMany (sN σ (nI 0) ((σ.1 15 1) - (nI 1))) (σ.1 15 27)).2) 32 ((4 * (rd σ 15 39)) + 1) (((mMany (sN σ (nI 0) ((σ.1 15 1) - (nI 1))) (σ.1 15 27)).2).1 15 31))) 32 (4 * (rd σ 15 39)) (nI 1))) rfl rfl rfl rfl (Nat.le_of_ble_eq_true rfl) dX10_readOperation_133 rfl (Nat.zero_le _) (Nat.zero_le _) ?_
                refine b_if_eq (pc' := 139) (tgt := 158) hC dX10_readOperation_136 (by decide) rfl (fun c136 => ?_) (fun c136 => ?_)
                · skip
                  refine g_iconst (pc' := 159) (v := nI 0) hC dX10_readOperation_158 rfl rfl ?_
                  refine g_ret hC dX10_readOperation_159 rfl ?_
                  exact ⟨by unfold mOp; rw [(sq_y (c16)).1, (sq_y (c24)).1]; unfold mOp3; rw [(sq_y c50).1, cI_t (show wok _ from Or.inr c74)]; unfold mOp4; rw [cI_f c95]; exact (bI_f c136).symm, by unfold mOp; rw [(sq_y (c16)).2, (sq_y (c24)).2]; unfold mOp3; rw [(sq_y c50).2, cI_t (show wok _ from Or.inr c74)]; unfold mOp4; rw [cI_f c95]⟩
                · skip
                  refine g_iload_n (pc' := 140) (j := 0) hC dX10_readOperation_139 rfl rfl rfl ?_
                  refine n_if_eq (pc' := 143) (tgt := 154) hC dX10_readOperation_140 (by decide) rfl (by omega) (fun c140 => ?_) (fun c140 => ?_)
                  · skip
                    refine g_iconst (pc' := 155) (v := nI 1) hC dX10_readOperation_154 rfl rfl ?_
                    refine g_goto (tgt := 159) hC dX10_readOperation_155 (by decide) ?_
                    refine g_ret hC dX10_readOperation_159 rfl ?_
                    exact ⟨by unfold mOp; rw [(sq_y (c16)).1, (sq_y (c24)).1]; unfold mOp3; rw [(sq_y c50).1, cI_t (show wok _ from Or.inr c74)]; unfold mOp4; rw [cI_f c95]; exact (bI_t c136).symm, by unfold mOp; rw [(sq_y (c16)).2, (sq_y (c24)).2]; unfold mOp3; rw [(sq_y c50).2, cI_t (show wok _ from Or.inr c74)]; unfold mOp4; rw [cI_f c95]⟩
                  · skip
                    first | exact absurd c140 (by decide) | exact c140.elim
              · skip
                first | exact absurd c115 (by decide) | exact c115.elim
            · skip
              exact absurd c95 c63
          · skip
            refine g_aload_n (pc' := 78) (j := 1) hC dX10_readOperation_77 rfl rfl rfl ?_
            refine g_iconst (pc' := 79) (v := nI 1) hC dX10_readOperation_78 rfl rfl ?_
            refine g_aload_n (pc' := 80) (j := 1) hC dX10_readOperation_79 rfl rfl rfl ?_
            refine gf_X10_30 (pc' := 83) hC wF_X10_240 dX10_readOperation_80 rfl ?_
            refine gg_topi (b := nI (msk (uv (mMany (sN σ (nI 0) (σ.1 15 1 - nI 1)) (σ.1 15 27)).2 32 (4 * rd σ 15 39 + 1) ((mMany (sN σ (nI 0) (σ.1 15 1 - nI 1)) (σ.1 15 27)).2.1 15 31)))) (sW_tok c50) ?_
            refine f_Vi (pc' := 86) (k := 15) (st := []) hC (m_fails x.2.1 g z0 (sW (uv ((mMany (sN σ (nI 0) ((σ.1 15 1) - (nI 1))) (σ.1 15 27)).2) 32 ((4 * (rd σ 15 39)) + 1) (((mMany (sN σ (nI 0) ((σ.1 15 1) - (nI 1))) (σ.1 15 27)).2).1 15 31))) ((nI 1)) ((nI (msk (uv (mMany (sN σ (nI 0) (σ.1 15 1 - nI 1)) (σ.1 15 27)).2 32 (4 * rd σ 15 39 + 1) ((mMany (sN σ (nI 0) (σ.1 15 1 - nI 1)) (σ.1 15 27)).2.1 15 31)))))) k_X10_fails wM_X10_253 (by decide) (by decide) (ct_15 g (sW (uv ((mMany (sN σ (nI 0) ((σ.1 15 1) - (nI 1))) (σ.1 15 27)).2) 32 ((4 * (rd σ 15 39)) + 1) (((mMany (sN σ (nI 0) ((σ.1 15 1) - (nI 1))) (σ.1 15 27)).2).1 15 31)))) rfl rfl rfl rfl (Nat.le_of_ble_eq_true rfl) dX10_readOperation_83 rfl (Nat.zero_le _) (Nat.zero_le _) ?_
            refine g_ret hC dX10_readOperation_86 rfl ?_
            exact ⟨by unfold mOp; rw [(sq_y (c16)).1, (sq_y (c24)).1]; unfold mOp3; rw [(sq_y c50).1, cI_f (fun z => z.elim c63 c74)]; exact (bI_f id).symm, by unfold mOp; rw [(sq_y (c16)).2, (sq_y (c24)).2]; unfold mOp3; rw [(sq_y c50).2, cI_f (fun z => z.elim c63 c74)]⟩
      · skip
        refine g_iconst (pc' := 54) (v := nI 0) hC dX10_readOperation_53 rfl rfl ?_
        refine g_ret hC dX10_readOperation_54 rfl ?_
        exact ⟨by unfold mOp; rw [(sq_y (c16)).1, (sq_y (c24)).1]; unfold mOp3; rw [(sq_n c50).1], by unfold mOp; rw [(sq_y (c16)).2, (sq_y (c24)).2]; unfold mOp3; rw [(sq_n c50).2]⟩
    · skip
      refine g_iconst (pc' := 28) (v := nI 0) hC dX10_readOperation_27 rfl rfl ?_
      refine g_ret hC dX10_readOperation_28 rfl ?_
      exact ⟨by unfold mOp; rw [(sq_y (c16)).1, (sq_n (fun z => z c24)).1], by unfold mOp; rw [(sq_y (c16)).2, (sq_n (fun z => z c24)).2]⟩
