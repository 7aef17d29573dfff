set_option maxHeartbeats 4000000 in
set_option maxRecDepth 20000 in
theorem m_readStep (l : Launch) (g : Lay) (z0 : Nat) (σ : St)  (hP : PI σ) (hs0 : nb σ 15 39 60)  : CTi l yX10_readStep cX10_readStep 2 (some .boolean) 7 g z0 [.ref (g.2.1 15)] σ (FI (bI ((mStep σ).1)) ((mStep σ).2)) := by
  refine CTi.of (by decide) (Nat.le_of_ble_eq_true rfl) ?_
  intro x hxl hxa hC
  have hC : Cx x RX10 cX10_readStep 2 (some .boolean) 7 g z0 := hC
  have hk0 := hP.sk
  have hE0 := hP.2.1.2
  have q1 := PI_mpk hP
  have qW : PI (sW (mpk σ)) := PI_sW q1
  have hW2 := qW.2.2.1.2
  have yW : LY σ (sW (mpk σ)) := (LX_mpk σ).ly.tr (LX_sW _).ly
  have hsW : nb (sW (mpk σ)) 15 39 60 := yW.n39 hs0
  have hsW2 := hsW.2
  show GG x g z0 2 0 0 (Qi x g z0 (FI (bI ((mStep σ).1)) ((mStep σ).2))) σ 0 [(0, .ref (g.2.1 15))] []
  refine g_aload_n (pc' := 1) (j := 0) hC dX10_readStep_0 rfl rfl rfl ?_
  refine f_Vi (pc' := 4) (k := 15) (st := []) hC (m_peek x.2.1 g z0 σ (by first | exact hP | (simp (disch := decide) only [nb, rd_uv, rd_ur, uv_cell, ur_cell]; exact hP) | omega)) k_X10_peek wM_X10_243 (by decide) (by decide) (ct_15 g σ) rfl rfl rfl rfl (Nat.le_of_ble_eq_true rfl) dX10_readStep_1 rfl (Nat.zero_le _) (Nat.zero_le _) ?_
  refine f_Si (pc' := 7) (st := []) hC (m_isDigit x.2.1 g z0 (mpk σ) ((mB σ (msk σ)))) k_X10_isDigit wM_X10_268 (by decide) rfl rfl (Nat.le_of_ble_eq_true rfl) dX10_readStep_4 rfl (Nat.zero_le _) (Nat.zero_le _) ?_
  refine b_if_eq (pc' := 10) (tgt := 30) hC dX10_readStep_7 (by decide) rfl (fun c7 => ?_) (fun c7 => ?_)
  · skip
    refine g_aload_n (pc' := 31) (j := 0) hC dX10_readStep_30 rfl rfl rfl ?_
    refine f_Vi (pc' := 34) (k := 15) (st := []) hC (m_readWord x.2.1 g z0 (mpk σ) (q1)) k_X10_readWord wM_X10_264 (by decide) (by decide) (ct_15 g (mpk σ)) rfl rfl rfl rfl (Nat.le_of_ble_eq_true rfl) dX10_readStep_31 rfl (Nat.zero_le _) (Nat.zero_le _) ?_
    refine b_if_ne (pc' := 37) (tgt := 39) hC dX10_readStep_34 (by decide) rfl (fun c34 => ?_) (fun c34 => ?_)
    · skip
      refine g_aload_n (pc' := 40) (j := 0) hC dX10_readStep_39 rfl rfl rfl ?_
      refine g_aload_n (pc' := 41) (j := 0) hC dX10_readStep_40 rfl rfl rfl ?_
      refine gf_X10_34 (pc' := 44) hC wF_X10_256 dX10_readStep_41 rfl ?_
      refine f_Vi (pc' := 47) (k := 15) (st := []) hC (m_stepOf x.2.1 g z0 (sW (mpk σ)) (((sW (mpk σ)).2.2 15 34))) k_X10_stepOf wM_X10_347 (by decide) (by decide) (ct_15 g (sW (mpk σ))) rfl rfl rfl rfl (Nat.le_of_ble_eq_true rfl) dX10_readStep_44 rfl (Nat.zero_le _) (Nat.zero_le _) ?_
      refine g_istore_n (pc' := 48) (lv' := [(1, .int (stp ((sW (mpk σ)).2.2 15 34))), (0, .ref (g.2.1 15))]) hC dX10_readStep_47 rfl rfl (by decide) rfl ?_
      refine g_iload_n (pc' := 49) (j := 0) hC dX10_readStep_48 rfl rfl rfl ?_
      refine g_iconst (pc' := 50) (v := (-1)) hC dX10_readStep_49 rfl rfl ?_
      refine g_icmp_ne (pc' := 53) (tgt := 63) hC dX10_readStep_50 (by decide) rfl (fun c50 => ?_) (fun c50 => ?_)
      · skip
        refine g_aload_n (pc' := 64) (j := 1) hC dX10_readStep_63 rfl rfl rfl ?_
        refine g_aload_n (pc' := 65) (j := 1) hC dX10_readStep_64 rfl rfl rfl ?_
        refine gf_X10_30 (pc' := 68) hC wF_X10_240 dX10_readStep_65 rfl ?_
        refine gg_topi (b := nI (rd (sW (mpk σ)) 15 30)) (qW.2.2.1.1) ?_
        refine f_Vi (pc' := 71) (k := 15) (st := []) hC (m_isTooMany x.2.1 g z0 (sW (mpk σ)) ((nI (rd (sW (mpk σ)) 15 30))) (hsW)) k_X10_isTooMany wM_X10_314 (by decide) (by decide) (ct_15 g (sW (mpk σ))) rfl rfl rfl rfl (Nat.le_of_ble_eq_true rfl) dX10_readStep_68 rfl (Nat.zero_le _) (Nat.zero_le _) ?_
        refine b_if_eq (pc' := 74) (tgt := 76) hC dX10_readStep_71 (by decide) rfl (fun c71 => ?_) (fun c71 => ?_)
        · skip
          have hlt : rd (sW (mpk σ)) 15 39 < 60 := by have h9 : ¬ rd (sW (mpk σ)) 15 39 = 60 := c71; omega
          have q5 : PI ((mMany (sW (mpk σ)) (nI (rd (sW (mpk σ)) 15 30))).2) := PI_mMany qW _
          refine g_aload_n (pc' := 77) (j := 1) hC dX10_readStep_76 rfl rfl rfl ?_
          refine gf_X10_38 (pc' := 80) hC wF_X10_63 dX10_readStep_77 rfl ?_
          refine g_iconst (pc' := 81) (v := nI 4) hC dX10_readStep_80 rfl rfl ?_
          refine g_aload_n (pc' := 82) (j := 1) hC dX10_readStep_81 rfl rfl rfl ?_
          refine gf_X10_39 (pc' := 85) hC wF_X10_308 dX10_readStep_82 rfl ?_
          refine gg_topi (b := nI (rd (sW (mpk σ)) 15 39)) ((LY_mMany _ _).r39.trans hsW.1) ?_
          refine n_imul (pc' := 86) hC dX10_readStep_85 rfl ?_
          refine g_iload_n (pc' := 87) (j := 0) hC dX10_readStep_86 rfl rfl rfl ?_
          refine a_st (pc' := 88) (k := 32) (i := 4 * (rd (sW (mpk σ)) 15 39)) hC (by decide) (fun σ9 => (ct_32 g σ9)) (by omega) (by decide) dX10_readStep_87 rfl ?_
          refine g_aload_n (pc' := 89) (j := 1) hC dX10_readStep_88 rfl rfl rfl ?_
          refine g_iload_n (pc' := 90) (j := 0) hC dX10_readStep_89 rfl rfl rfl ?_
          refine f_Vi (pc' := 93) (k := 15) (st := []) hC (m_readRest x.2.1 g z0 (uv ((mMany (sW (mpk σ)) (nI (rd (sW (mpk σ)) 15 30))).2) 32 (4 * (rd (sW (mpk σ)) 15 39)) (stp ((sW (mpk σ)).2.2 15 34))) ((stp ((sW (mpk σ)).2.2 15 34))) (PI_32 q5 _ _) (nb_cg ((LY_mMany _ _).u32 _ _).r39 hsW (by omega))) k_X10_readRest wM_X10_350 (by decide) (by decide) (ct_15 g (uv ((mMany (sW (mpk σ)) (nI (rd (sW (mpk σ)) 15 30))).2) 32 (4 * (rd (sW (mpk σ)) 15 39)) (stp ((sW (mpk σ)).2.2 15 34)))) rfl rfl rfl rfl (Nat.le_of_ble_eq_true rfl) dX10_readStep_90 rfl (Nat.zero_le _) (Nat.zero_le _) ?_
          refine b_if_eq (pc' := 96) (tgt := 107) hC dX10_readStep_93 (by decide) rfl (fun c93 => ?_) (fun c93 => ?_)
          · skip
            refine g_iconst (pc' := 108) (v := nI 0) hC dX10_readStep_107 rfl rfl ?_
            refine g_ret hC dX10_readStep_108 rfl ?_
            exact ⟨by unfold mStep; rw [cI_f c7, (sq_y c34).1]; unfold mSt2; rw [cI_f c50, (sq_y c71).1, (sq_n c93).1], by unfold mStep; rw [cI_f c7, (sq_y c34).2]; unfold mSt2; rw [cI_f c50, (sq_y c71).2, (sq_n c93).2]⟩
          · skip
            refine g_aload_n (pc' := 97) (j := 1) hC dX10_readStep_96 rfl rfl rfl ?_
            refine f_Vi (pc' := 100) (k := 15) (st := []) hC (m_readSemicolon x.2.1 g z0 ((mRest (uv ((mMany (sW (mpk σ)) (nI (rd (sW (mpk σ)) 15 30))).2) 32 (4 * (rd (sW (mpk σ)) 15 39)) (stp ((sW (mpk σ)).2.2 15 34))) (stp ((sW (mpk σ)).2.2 15 34))).2) (PI_mRest (PI_32 q5 _ _) _)) k_X10_readSemicolon wM_X10_296 (by decide) (by decide) (ct_15 g ((mRest (uv ((mMany (sW (mpk σ)) (nI (rd (sW (mpk σ)) 15 30))).2) 32 (4 * (rd (sW (mpk σ)) 15 39)) (stp ((sW (mpk σ)).2.2 15 34))) (stp ((sW (mpk σ)).2.2 15 34))).2)) rfl rfl rfl rfl (Nat.le_of_ble_eq_true rfl) dX10_readStep_97 rfl (Nat.zero_le _) (Nat.zero_le _) ?_
            refine b_if_eq (pc' := 103) (tgt := 107) hC dX10_readStep_100 (by decide) rfl (fun c100 => ?_) (fun c100 => ?_)
            · skip
              refine g_iconst (pc' := 108) (v := nI 0) hC dX10_readStep_107 rfl rfl ?_
              refine g_ret hC dX10_readStep_108 rfl ?_
              exact ⟨by unfold mStep; rw [cI_f c7, (sq_y c34).1]; unfold mSt2; rw [cI_f c50, (sq_y c71).1, (sq_y c93).1]; exact (bI_f c100).symm, by unfold mStep; rw [cI_f c7, (sq_y c34).2]; unfold mSt2; rw [cI_f c50, (sq_y c71).2, (sq_y c93).2]⟩
            · skip
              refine g_iconst (pc' := 104) (v := nI 1) hC dX10_readStep_103 rfl rfl ?_
              refine g_goto (tgt := 108) hC dX10_readStep_104 (by decide) ?_
              refine g_ret hC dX10_readStep_108 rfl ?_
              exact ⟨by unfold mStep; rw [cI_f c7, (sq_y c34).1]; unfold mSt2; rw [cI_f c50, (sq_y c71).1, (sq_y c93).1]; exact (bI_t c100).symm, by unfold mStep; rw [cI_f c7, (sq_y c34).2]; unfold mSt2; rw [cI_f c50, (sq_y c71).2, (sq_y c93).2]⟩
        · skip
          refine g_iconst (pc' := 75) (v := nI 0) hC dX10_readStep_74 rfl rfl ?_
          refine g_ret hC dX10_readStep_75 rfl ?_
          exact ⟨by unfold mStep; rw [cI_f c7, (sq_y c34).1]; unfold mSt2; rw [cI_f c50, (sq_n (fun z => z c71)).1], by unfold mStep; rw [cI_f c7, (sq_y c34).2]; unfold mSt2; rw [cI_f c50, (sq_n (fun z => z c71)).2]⟩
      · skip
        refine g_aload_n (pc' := 54) (j := 1) hC dX10_readStep_53 rfl rfl rfl ?_
        refine g_iconst (pc' := 55) (v := nI 1) hC dX10_readStep_54 rfl rfl ?_
        refine g_aload_n (pc' := 56) (j := 1) hC dX10_readStep_55 rfl rfl rfl ?_
        refine gf_X10_30 (pc' := 59) hC wF_X10_240 dX10_readStep_56 rfl ?_
        refine gg_topi (b := nI (rd (sW (mpk σ)) 15 30)) (qW.2.2.1.1) ?_
        refine f_Vi (pc' := 62) (k := 15) (st := []) hC (m_fails x.2.1 g z0 (sW (mpk σ)) ((nI 1)) ((nI (rd (sW (mpk σ)) 15 30)))) k_X10_fails wM_X10_253 (by decide) (by decide) (ct_15 g (sW (mpk σ))) rfl rfl rfl rfl (Nat.le_of_ble_eq_true rfl) dX10_readStep_59 rfl (Nat.zero_le _) (Nat.zero_le _) ?_
        refine g_ret hC dX10_readStep_62 rfl ?_
        exact ⟨by unfold mStep; rw [cI_f c7, (sq_y c34).1]; unfold mSt2; rw [cI_t c50]; exact (bI_f id).symm, by unfold mStep; rw [cI_f c7, (sq_y c34).2]; unfold mSt2; rw [cI_t c50]⟩
    · skip
      refine g_iconst (pc' := 38) (v := nI 0) hC dX10_readStep_37 rfl rfl ?_
      refine g_ret hC dX10_readStep_38 rfl ?_
      exact ⟨by unfold mStep; rw [cI_f c7, (sq_n c34).1], by unfold mStep; rw [cI_f c7, (sq_n c34).2]⟩
  · skip
    refine g_aload_n (pc' := 11) (j := 0) hC dX10_readStep_10 rfl rfl rfl ?_
    refine f_Vi (pc' := 14) (k := 15) (st := []) hC (m_readOperation x.2.1 g z0 (mpk σ) (q1) ((LX_mpk σ).ly.n39 hs0)) k_X10_readOperation wM_X10_344 (by decide) (by decide) (ct_15 g (mpk σ)) rfl rfl rfl rfl (Nat.le_of_ble_eq_true rfl) dX10_readStep_11 rfl (Nat.zero_le _) (Nat.zero_le _) ?_
    refine b_if_eq (pc' := 17) (tgt := 28) hC dX10_readStep_14 (by decide) rfl (fun c14 => ?_) (fun c14 => ?_)
    · skip
      refine g_iconst (pc' := 29) (v := nI 0) hC dX10_readStep_28 rfl rfl ?_
      refine g_ret hC dX10_readStep_29 rfl ?_
      exact ⟨by unfold mStep; rw [cI_t c7, (sq_n c14).1], by unfold mStep; rw [cI_t c7, (sq_n c14).2]⟩
    · skip
      refine g_aload_n (pc' := 18) (j := 0) hC dX10_readStep_17 rfl rfl rfl ?_
      refine f_Vi (pc' := 21) (k := 15) (st := []) hC (m_readSemicolon x.2.1 g z0 ((mOp (mpk σ)).2) (PI_mOp q1)) k_X10_readSemicolon wM_X10_296 (by decide) (by decide) (ct_15 g ((mOp (mpk σ)).2)) rfl rfl rfl rfl (Nat.le_of_ble_eq_true rfl) dX10_readStep_18 rfl (Nat.zero_le _) (Nat.zero_le _) ?_
      refine b_if_eq (pc' := 24) (tgt := 28) hC dX10_readStep_21 (by decide) rfl (fun c21 => ?_) (fun c21 => ?_)
      · skip
        refine g_iconst (pc' := 29) (v := nI 0) hC dX10_readStep_28 rfl rfl ?_
        refine g_ret hC dX10_readStep_29 rfl ?_
        exact ⟨by unfold mStep; rw [cI_t c7, (sq_y c14).1]; exact (bI_f c21).symm, by unfold mStep; rw [cI_t c7, (sq_y c14).2]⟩
      · skip
        refine g_iconst (pc' := 25) (v := nI 1) hC dX10_readStep_24 rfl rfl ?_
        refine g_goto (tgt := 29) hC dX10_readStep_25 (by decide) ?_
        refine g_ret hC dX10_readStep_29 rfl ?_
        exact ⟨by unfold mStep; rw [cI_t c7, (sq_y c14).1]; exact (bI_t c21).symm, by unfold mStep; rw [cI_t c7, (sq_y c14).2]⟩
set_option maxHeartbeats 4000000 in
set_option maxRecDepth 20000 in
theorem m_readScript (l : Launch) (g : Lay) (z0 : Nat) (σ : St)  (hP : PI σ)  : CTi l yX10_readScript cX10_readScript 1 (some .boolean) 8 g z0 [.ref (g.2.1 15)] σ (FI (bI ((mSc 61 (uv σ 15 39 (nI 0))).1)) ((mSc 61 (uv σ 15 39 (nI 0))).2)) := by
  refine CTi.of (by decide) (Nat.le_of_ble_eq_true rfl) ?_
  intro x hxl hxa hC
  have hC : Cx x RX10 cX10_readScript 1 (some .boolean) 8 g z0 := hC
  have k0 := nb_of (σ := uv σ 15 39 (nI 0)) (m := 60) (uv_same _ _ _ _) (by omega) (by decide)
  have k02 := k0.2
  have hP0 : PI (uv σ 15 39 (nI 0)) := PI_hi hP _ (by decide)
  show GG x g z0 1 0 0 (Qi x g z0 (FI (bI ((mSc 61 (uv σ 15 39 (nI 0))).1)) ((mSc 61 (uv σ 15 39 (nI 0))).2))) σ 0 [(0, .ref (g.2.1 15))] []
  refine g_aload_n (pc' := 1) (j := 0) hC dX10_readScript_0 rfl rfl rfl ?_
  refine g_iconst (pc' := 2) (v := nI 0) hC dX10_readScript_1 rfl rfl ?_
  refine pf_X10_39 (pc' := 5) hC wF_X10_308 dX10_readScript_2 rfl ?_
  have L5 : ∀ (fu : Nat) (τ : St) (n : Nat), (PI τ) → (nb τ 15 39 60) → (rd τ 15 39 + n = 60) → (mSc 61 (uv σ 15 39 (nI 0)) = mSc (n + 1) τ) → n < fu → GG x g z0 1 0 0 (Qi x g z0 (FI (bI ((mSc 61 (uv σ 15 39 (nI 0))).1)) ((mSc 61 (uv σ 15 39 (nI 0))).2))) τ 5 [(0, .ref (g.2.1 15))] [] := by
    intro fu
    induction fu with
    | zero => intro τ n hQ hs hn he hz; exact absurd hz (Nat.not_lt_zero _)
    | succ fu ih5 =>
      intro τ n hQ hs hn he hf
      have hs2 := hs.2
      have q1 := PI_mpk hQ
      have q2 := PI_mStep q1
      have y2 : LY τ (mStep (mpk τ)).2 := (LX_mpk τ).ly.tr (LY_mStep _)
      refine g_aload_n (pc' := 6) (j := 0) hC dX10_readScript_5 rfl rfl rfl ?_
      refine f_Vi (pc' := 9) (k := 15) (st := []) hC (m_peek x.2.1 g z0 τ (hQ)) k_X10_peek wM_X10_243 (by decide) (by decide) (ct_15 g τ) rfl rfl rfl rfl (Nat.le_of_ble_eq_true rfl) dX10_readScript_6 rfl (Nat.zero_le _) (Nat.zero_le _) ?_
      refine g_iconst (pc' := 10) (v := (-1)) hC dX10_readScript_9 rfl rfl ?_
      refine g_icmp_eq (pc' := 13) (tgt := 35) hC dX10_readScript_10 (by decide) rfl (fun c10 => ?_) (fun c10 => ?_)
      · skip
        refine g_iconst (pc' := 36) (v := nI 1) hC dX10_readScript_35 rfl rfl ?_
        refine g_ret hC dX10_readScript_36 rfl ?_
        exact ⟨by rw [he]; exact (by show _ = bI (cI _ _ _ : Prop × St).1; rw [cI_t c10]; exact (bI_t trivial).symm), by rw [he]; exact (by show _ = (cI _ _ _ : Prop × St).2; rw [cI_t c10])⟩
      · skip
        refine g_aload_n (pc' := 14) (j := 0) hC dX10_readScript_13 rfl rfl rfl ?_
        refine f_Vi (pc' := 17) (k := 15) (st := []) hC (m_readStep x.2.1 g z0 (mpk τ) (q1) ((LX_mpk τ).ly.n39 hs)) k_X10_readStep wM_X10_353 (by decide) (by decide) (ct_15 g (mpk τ)) rfl rfl rfl rfl (Nat.le_of_ble_eq_true rfl) dX10_readScript_14 rfl (Nat.zero_le _) (Nat.zero_le _) ?_
        refine b_if_ne (pc' := 20) (tgt := 22) hC dX10_readScript_17 (by decide) rfl (fun c17 => ?_) (fun c17 => ?_)
        · skip
          have hlt : ¬ rd τ 15 39 = 60 := by have := mStep_lt c17; rw [(LX_mpk τ).ly.d39] at this; exact this
          have hnb := nb_of (σ := uv (mStep (mpk τ)).2 15 39 (nI (rd τ 15 39 + 1))) (m := 60) (uv_same _ _ _ _) (by omega) (by decide)
          have hnb2 := hnb.2
          refine g_aload_n (pc' := 23) (j := 0) hC dX10_readScript_22 rfl rfl rfl ?_
          refine g_aload_n (pc' := 24) (j := 0) hC dX10_readScript_23 rfl rfl rfl ?_
          refine gf_X10_39 (pc' := 27) hC wF_X10_308 dX10_readScript_24 rfl ?_
          refine gg_topi (b := nI (rd τ 15 39)) (((LX_mpk τ).ly.tr (LY_mStep _)).r39.trans hs.1) ?_
          refine g_iconst (pc' := 28) (v := nI 1) hC dX10_readScript_27 rfl rfl ?_
          refine n_iadd (pc' := 29) hC dX10_readScript_28 rfl ?_
          refine pf_X10_39 (pc' := 32) hC wF_X10_308 dX10_readScript_29 rfl ?_
          refine g_goto (tgt := 5) hC dX10_readScript_32 (by decide) ?_
          refine gg_st (σ' := ((uv ((mStep (mpk τ)).2) 15 39 (nI ((rd τ 15 39) + 1))))) (rfl) ?_
          refine gg_lv (lv' := [(0, .ref (g.2.1 15))]) ?_ [0] rfl
          exact ih5 ((uv ((mStep (mpk τ)).2) 15 39 (nI ((rd τ 15 39) + 1)))) (n - 1) (PI_hi q2 _ (by decide)) (hnb.1) (by omega) (by rw [he, show n - 1 + 1 = n by omega]; exact (cI_f c10).trans (cI_t c17)) (by omega)
        · skip
          refine g_iconst (pc' := 21) (v := nI 0) hC dX10_readScript_20 rfl rfl ?_
          refine g_ret hC dX10_readScript_21 rfl ?_
          exact ⟨by rw [he]; exact (by show _ = bI (cI _ _ _ : Prop × St).1; rw [cI_f c10, cI_f c17]; exact (bI_f id).symm), by rw [he]; exact (by show _ = (cI _ _ _ : Prop × St).2; rw [cI_f c10, cI_f c17])⟩
  refine gg_st (σ' := ((uv σ 15 39 (nI 0)))) (rfl) ?_
  refine gg_lv (lv' := [(0, .ref (g.2.1 15))]) ?_ [0] rfl
  exact L5 (60 + 1) ((uv σ 15 39 (nI 0))) 60 (hP0) (k0.1) (by omega) (rfl) (by omega)
set_option maxHeartbeats 4000000 in
set_option maxRecDepth 20000 in
theorem m_load (l : Launch) (g : Lay) (z0 : Nat) (σ : St) (len : Int32) (hM : MI σ) (hT : nb σ 15 30 900)  : CTi l yX10_load cX10_load 2 (some .int) 5 g z0 [.ref (g.2.1 15), .int len] σ (FI ((mld σ len).1) ((mld σ len).2)) := by
  refine CTi.of (by decide) (Nat.le_of_ble_eq_true rfl) ?_
  intro x hxl hxa hC
  have hC : Cx x RX10 cX10_load 2 (some .int) 5 g z0 := hC
  have hM0 := MI_m0 hM
  have hb2 := hM.2.1.2.2.2
  show GG x g z0 2 0 0 (Qi x g z0 (FI ((mld σ len).1) ((mld σ len).2))) σ 0 [(0, .ref (g.2.1 15)), (1, .int len)] []
  refine g_aload_n (pc' := 1) (j := 0) hC dX10_load_0 rfl rfl rfl ?_
  refine g_iconst (pc' := 2) (v := nI 0) hC dX10_load_1 rfl rfl ?_
  refine pf_X10_0 (pc' := 5) hC wF_X10_66 dX10_load_2 rfl ?_
  refine g_iload_n (pc' := 6) (j := 1) hC dX10_load_5 rfl rfl rfl ?_
  refine g_iconst (pc' := 7) (v := nI 0) hC dX10_load_6 rfl rfl ?_
  refine g_aload_n (pc' := 8) (j := 0) hC dX10_load_7 rfl rfl rfl ?_
  refine gf_X10_26 (pc' := 11) hC wF_X10_219 dX10_load_8 rfl ?_
  refine gg_topi (b := nI (rd σ 15 26)) ((uv_idx _ _ _ _ (by decide)).trans (hM.2.1.2.2.1)) ?_
  refine f_Si (pc' := 14) (st := []) hC (m_in x.2.1 g z0 (uv σ 15 0 (nI 0)) len ((nI 0)) ((nI (rd σ 15 26)))) k_X10_in wM_X10_72 (by decide) rfl rfl (Nat.le_of_ble_eq_true rfl) dX10_load_11 rfl (Nat.zero_le _) (Nat.zero_le _) ?_
  refine b_if_ne (pc' := 17) (tgt := 23) hC dX10_load_14 (by decide) rfl (fun c14 => ?_) (fun c14 => ?_)
  · skip
    obtain ⟨hl1, -, hl2⟩ := in_n (by decide) (by omega) c14.1 c14.2
    have c14b : nI 0 ≤ len ∧ len ≤ σ.1 15 26 := ⟨c14.1, hM.2.1.2.2.1 ▸ c14.2⟩
    have q0 : PI (mopn (uv σ 15 0 (nI 0)) len) := by rw [hl1]; exact PI_mopn (by omega) (nb_cg (uv_idx _ _ _ _ (by decide)) hT hT.2)
    refine g_aload_n (pc' := 24) (j := 0) hC dX10_load_23 rfl rfl rfl ?_
    refine g_iload_n (pc' := 25) (j := 1) hC dX10_load_24 rfl rfl rfl ?_
    refine f_Vv (pc' := 28) (k := 15) (st := []) hC (m_opensText x.2.1 g z0 (uv σ 15 0 (nI 0)) len) k_X10_opensText wM_X10_299 (by decide) (by decide) (ct_15 g (uv σ 15 0 (nI 0))) rfl rfl rfl rfl (Nat.le_of_ble_eq_true rfl) dX10_load_25 rfl (Nat.zero_le _) (Nat.zero_le _) ?_
    refine g_aload_n (pc' := 29) (j := 0) hC dX10_load_28 rfl rfl rfl ?_
    refine f_Vi (pc' := 32) (k := 15) (st := []) hC (m_readService x.2.1 g z0 (mopn (uv σ 15 0 (nI 0)) len) (q0)) k_X10_readService wM_X10_302 (by decide) (by decide) (ct_15 g (mopn (uv σ 15 0 (nI 0)) len)) rfl rfl rfl rfl (Nat.le_of_ble_eq_true rfl) dX10_load_29 rfl (Nat.zero_le _) (Nat.zero_le _) ?_
    refine b_if_ne (pc' := 35) (tgt := 41) hC dX10_load_32 (by decide) rfl (fun c32 => ?_) (fun c32 => ?_)
    · skip
      obtain ⟨a, b, c, e1, e2, e3, r1, r2, r3, r4, r5, r6⟩ := mSrv_ok c32
      have hMs : MI (mset (mSrv (mopn (uv σ 15 0 (nI 0)) len)).2) := MI_mset (MI_mopn hM0 len) (LZ_mSrv _) e1 e2 e3 r2 r4 ⟨r5, r6⟩
      refine g_aload_n (pc' := 42) (j := 0) hC dX10_load_41 rfl rfl rfl ?_
      refine g_aload_n (pc' := 43) (j := 0) hC dX10_load_42 rfl rfl rfl ?_
      refine gf_X10_35 (pc' := 46) hC wF_X10_283 dX10_load_43 rfl ?_
      refine pf_X10_1 (pc' := 49) hC wF_X10_69 dX10_load_46 rfl ?_
      refine g_aload_n (pc' := 50) (j := 0) hC dX10_load_49 rfl rfl rfl ?_
      refine g_aload_n (pc' := 51) (j := 0) hC dX10_load_50 rfl rfl rfl ?_
      refine gf_X10_36 (pc' := 54) hC wF_X10_288 dX10_load_51 rfl ?_
      refine gg_topi (b := ((mSrv (mopn (uv σ 15 0 (nI 0)) len)).2).1 15 36) (uv_idx _ _ _ _ (by decide)) ?_
      refine pf_X10_2 (pc' := 57) hC wF_X10_76 dX10_load_54 rfl ?_
      refine g_aload_n (pc' := 58) (j := 0) hC dX10_load_57 rfl rfl rfl ?_
      refine g_aload_n (pc' := 59) (j := 0) hC dX10_load_58 rfl rfl rfl ?_
      refine gf_X10_37 (pc' := 62) hC wF_X10_293 dX10_load_59 rfl ?_
      refine gg_topi (b := ((mSrv (mopn (uv σ 15 0 (nI 0)) len)).2).1 15 37) ((uv_idx _ _ _ _ (by decide)).trans (uv_idx _ _ _ _ (by decide))) ?_
      refine pf_X10_3 (pc' := 65) hC wF_X10_158 dX10_load_62 rfl ?_
      refine g_aload_n (pc' := 66) (j := 0) hC dX10_load_65 rfl rfl rfl ?_
      refine f_Vv (pc' := 69) (k := 15) (st := []) hC (m_startAnew x.2.1 g z0 (uv (uv (uv ((mSrv (mopn (uv σ 15 0 (nI 0)) len)).2) 15 1 (((mSrv (mopn (uv σ 15 0 (nI 0)) len)).2).1 15 35)) 15 2 (((mSrv (mopn (uv σ 15 0 (nI 0)) len)).2).1 15 36)) 15 3 (((mSrv (mopn (uv σ 15 0 (nI 0)) len)).2).1 15 37)) (hMs)) k_X10_startAnew wM_X10_305 (by decide) (by decide) (ct_15 g (uv (uv (uv ((mSrv (mopn (uv σ 15 0 (nI 0)) len)).2) 15 1 (((mSrv (mopn (uv σ 15 0 (nI 0)) len)).2).1 15 35)) 15 2 (((mSrv (mopn (uv σ 15 0 (nI 0)) len)).2).1 15 36)) 15 3 (((mSrv (mopn (uv σ 15 0 (nI 0)) len)).2).1 15 37))) rfl rfl rfl rfl (Nat.le_of_ble_eq_true rfl) dX10_load_66 rfl (Nat.zero_le _) (Nat.zero_le _) ?_
      refine g_aload_n (pc' := 70) (j := 0) hC dX10_load_69 rfl rfl rfl ?_
      refine gf_X10_1 (pc' := 73) hC wF_X10_69 dX10_load_70 rfl ?_
      refine g_ret hC dX10_load_73 rfl ?_
      exact ⟨by unfold mld; rw [cI_t (c14b), cI_t (c32)]; rfl, by unfold mld; rw [cI_t (c14b), cI_t (c32)]; rfl⟩
    · skip
      refine g_aload_n (pc' := 36) (j := 0) hC dX10_load_35 rfl rfl rfl ?_
      refine g_iconst (pc' := 37) (v := nI 2) hC dX10_load_36 rfl rfl ?_
      refine f_Vi (pc' := 40) (k := 15) (st := []) hC (m_refuse x.2.1 g z0 ((mSrv (mopn (uv σ 15 0 (nI 0)) len)).2) ((nI 2))) k_X10_refuse wM_X10_171 (by decide) (by decide) (ct_15 g ((mSrv (mopn (uv σ 15 0 (nI 0)) len)).2)) rfl rfl rfl rfl (Nat.le_of_ble_eq_true rfl) dX10_load_37 rfl (Nat.zero_le _) (Nat.zero_le _) ?_
      refine g_ret hC dX10_load_40 rfl ?_
      exact ⟨by unfold mld; rw [cI_t (c14b), cI_f (c32)], by unfold mld; rw [cI_t (c14b), cI_f (c32)]⟩
  · skip
    have c14b : ¬ (nI 0 ≤ len ∧ len ≤ σ.1 15 26) := fun z => c14 ⟨z.1, hM.2.1.2.2.1 ▸ z.2⟩
    refine g_aload_n (pc' := 18) (j := 0) hC dX10_load_17 rfl rfl rfl ?_
    refine g_iconst (pc' := 19) (v := nI 1) hC dX10_load_18 rfl rfl ?_
    refine f_Vi (pc' := 22) (k := 15) (st := []) hC (m_refuse x.2.1 g z0 (uv σ 15 0 (nI 0)) ((nI 1))) k_X10_refuse wM_X10_171 (by decide) (by decide) (ct_15 g (uv σ 15 0 (nI 0))) rfl rfl rfl rfl (Nat.le_of_ble_eq_true rfl) dX10_load_19 rfl (Nat.zero_le _) (Nat.zero_le _) ?_
    refine g_ret hC dX10_load_22 rfl ?_
    exact ⟨by unfold mld; rw [cI_f (c14b)], by unfold mld; rw [cI_f (c14b)]⟩
set_option maxHeartbeats 4000000 in
set_option maxRecDepth 20000 in
theorem m_doesStep (l : Launch) (g : Lay) (z0 : Nat) (σ : St) (k : Nat) (hJ : MJ σ) (hk : k < 60)  : CTi l yX10_doesStep cX10_doesStep 5 (some .int) 6 g z0 [.ref (g.2.1 15), .int (nI k)] σ (FI ((mDo σ k).1) ((mDo σ k).2)) := by
  refine CTi.of (by decide) (Nat.le_of_ble_eq_true rfl) ?_
  intro x hxl hxa hC
  have hC : Cx x RX10 cX10_doesStep 5 (some .int) 6 g z0 := hC
  show GG x g z0 5 0 0 (Qi x g z0 (FI ((mDo σ k).1) ((mDo σ k).2))) σ 0 [(0, .ref (g.2.1 15)), (1, .int (nI k))] []
  refine g_aload_n (pc' := 1) (j := 0) hC dX10_doesStep_0 rfl rfl rfl ?_
  refine gf_X10_38 (pc' := 4) hC wF_X10_63 dX10_doesStep_1 rfl ?_
  refine g_iconst (pc' := 5) (v := nI 4) hC dX10_doesStep_4 rfl rfl ?_
  refine g_iload_n (pc' := 6) (j := 1) hC dX10_doesStep_5 rfl rfl rfl ?_
  refine n_imul (pc' := 7) hC dX10_doesStep_6 rfl ?_
  refine g_iconst (pc' := 8) (v := nI 1) hC dX10_doesStep_7 rfl rfl ?_
  refine n_iadd (pc' := 9) hC dX10_doesStep_8 rfl ?_
  refine a_ld (pc' := 10) (k := 32) (i := (4 * k) + 1) hC (by decide) (ct_32 g σ) (by omega) (by decide) dX10_doesStep_9 rfl ?_
  refine g_istore_n (pc' := 11) (lv' := [(2, .int (σ.1 32 ((4 * k) + 1))), (0, .ref (g.2.1 15)), (1, .int (nI k))]) hC dX10_doesStep_10 rfl rfl (by decide) rfl ?_
  refine g_aload_n (pc' := 12) (j := 1) hC dX10_doesStep_11 rfl rfl rfl ?_
  refine gf_X10_38 (pc' := 15) hC wF_X10_63 dX10_doesStep_12 rfl ?_
  refine g_iconst (pc' := 16) (v := nI 4) hC dX10_doesStep_15 rfl rfl ?_
  refine g_iload_n (pc' := 17) (j := 2) hC dX10_doesStep_16 rfl rfl rfl ?_
  refine n_imul (pc' := 18) hC dX10_doesStep_17 rfl ?_
  refine g_iconst (pc' := 19) (v := nI 2) hC dX10_doesStep_18 rfl rfl ?_
  refine n_iadd (pc' := 20) hC dX10_doesStep_19 rfl ?_
  refine a_ld (pc' := 21) (k := 32) (i := (4 * k) + 2) hC (by decide) (ct_32 g σ) (by omega) (by decide) dX10_doesStep_20 rfl ?_
  refine g_istore_n (pc' := 22) (lv' := [(3, .int (σ.1 32 ((4 * k) + 2))), (2, .int (σ.1 32 ((4 * k) + 1))), (0, .ref (g.2.1 15)), (1, .int (nI k))]) hC dX10_doesStep_21 rfl rfl (by decide) rfl ?_
  refine g_aload_n (pc' := 23) (j := 2) hC dX10_doesStep_22 rfl rfl rfl ?_
  refine gf_X10_38 (pc' := 26) hC wF_X10_63 dX10_doesStep_23 rfl ?_
  refine g_iconst (pc' := 27) (v := nI 4) hC dX10_doesStep_26 rfl rfl ?_
  refine g_iload_n (pc' := 28) (j := 3) hC dX10_doesStep_27 rfl rfl rfl ?_
  refine n_imul (pc' := 29) hC dX10_doesStep_28 rfl ?_
  refine g_iconst (pc' := 30) (v := nI 3) hC dX10_doesStep_29 rfl rfl ?_
  refine n_iadd (pc' := 31) hC dX10_doesStep_30 rfl ?_
  refine a_ld (pc' := 32) (k := 32) (i := (4 * k) + 3) hC (by decide) (ct_32 g σ) (by omega) (by decide) dX10_doesStep_31 rfl ?_
  refine g_istore (pc' := 34) (lv' := [(4, .int (σ.1 32 ((4 * k) + 3))), (3, .int (σ.1 32 ((4 * k) + 2))), (2, .int (σ.1 32 ((4 * k) + 1))), (0, .ref (g.2.1 15)), (1, .int (nI k))]) hC dX10_doesStep_32 rfl (by decide) rfl ?_
  refine g_aload_n (pc' := 35) (j := 3) hC dX10_doesStep_34 rfl rfl rfl ?_
  refine gf_X10_38 (pc' := 38) hC wF_X10_63 dX10_doesStep_35 rfl ?_
  refine g_iconst (pc' := 39) (v := nI 4) hC dX10_doesStep_38 rfl rfl ?_
  refine g_iload_n (pc' := 40) (j := 4) hC dX10_doesStep_39 rfl rfl rfl ?_
  refine n_imul (pc' := 41) hC dX10_doesStep_40 rfl ?_
  refine a_ld (pc' := 42) (k := 32) (i := 4 * k) hC (by decide) (ct_32 g σ) (by omega) (by decide) dX10_doesStep_41 rfl ?_
  by_cases t42_0 : σ.1 32 (4 * k) = nI 0
  · skip
    refine gg_topi t42_0 ?_
    refine n_tswIn (tgt := 88) hC dX10_doesStep_42 rfl (by decide) (by decide) (by decide) rfl (by decide) ?_
    refine g_aload_n (pc' := 89) (j := 3) hC dX10_doesStep_88 rfl rfl rfl ?_
    refine g_iload_n (pc' := 90) (j := 2) hC dX10_doesStep_89 rfl rfl rfl ?_
    refine g_iload_n (pc' := 91) (j := 1) hC dX10_doesStep_90 rfl rfl rfl ?_
    refine g_iload (pc' := 93) (j := 0) hC dX10_doesStep_91 rfl rfl ?_
    refine f_Vi (pc' := 96) (k := 15) (st := []) hC (m_write x.2.1 g z0 σ ((σ.1 32 ((4 * k) + 1))) ((σ.1 32 ((4 * k) + 2))) ((σ.1 32 ((4 * k) + 3))) (hJ.1)) k_X10_write wM_X10_356 (by decide) (by decide) (ct_15 g σ) rfl rfl rfl rfl (Nat.le_of_ble_eq_true rfl) dX10_doesStep_93 rfl (Nat.zero_le _) (Nat.zero_le _) ?_
    refine g_ret hC dX10_doesStep_96 rfl ?_
    exact ⟨by unfold mDo; rw [cI_t (t42_0)], by unfold mDo; rw [cI_t (t42_0)]⟩
  by_cases t42_1 : σ.1 32 (4 * k) = nI 1
  · skip
    refine gg_topi t42_1 ?_
    refine n_tswIn (tgt := 97) hC dX10_doesStep_42 rfl (by decide) (by decide) (by decide) rfl (by decide) ?_
    refine g_aload_n (pc' := 98) (j := 3) hC dX10_doesStep_97 rfl rfl rfl ?_
    refine g_iload_n (pc' := 99) (j := 2) hC dX10_doesStep_98 rfl rfl rfl ?_
    refine g_iload_n (pc' := 100) (j := 1) hC dX10_doesStep_99 rfl rfl rfl ?_
    refine f_Vi (pc' := 103) (k := 15) (st := []) hC (m_read x.2.1 g z0 σ ((σ.1 32 ((4 * k) + 1))) ((σ.1 32 ((4 * k) + 2))) (hJ.1)) k_X10_read wM_X10_360 (by decide) (by decide) (ct_15 g σ) rfl rfl rfl rfl (Nat.le_of_ble_eq_true rfl) dX10_doesStep_100 rfl (Nat.zero_le _) (Nat.zero_le _) ?_
    refine g_ret hC dX10_doesStep_103 rfl ?_
    exact ⟨by unfold mDo; rw [cI_f (t42_0), cI_t (t42_1)], by unfold mDo; rw [cI_f (t42_0), cI_t (t42_1)]⟩
  by_cases t42_2 : σ.1 32 (4 * k) = nI 2
  · skip
    refine gg_topi t42_2 ?_
    refine n_tswIn (tgt := 104) hC dX10_doesStep_42 rfl (by decide) (by decide) (by decide) rfl (by decide) ?_
    refine g_aload_n (pc' := 105) (j := 3) hC dX10_doesStep_104 rfl rfl rfl ?_
    refine g_iload_n (pc' := 106) (j := 2) hC dX10_doesStep_105 rfl rfl rfl ?_
    refine f_Vi (pc' := 109) (k := 15) (st := []) hC (m_fork x.2.1 g z0 σ ((σ.1 32 ((4 * k) + 1))) (hJ.1) (hJ.2)) k_X10_fork wM_X10_363 (by decide) (by decide) (ct_15 g σ) rfl rfl rfl rfl (Nat.le_of_ble_eq_true rfl) dX10_doesStep_106 rfl (Nat.zero_le _) (Nat.zero_le _) ?_
    refine g_ret hC dX10_doesStep_109 rfl ?_
    exact ⟨by unfold mDo; rw [cI_f (t42_0), cI_f (t42_1), cI_t (t42_2)], by unfold mDo; rw [cI_f (t42_0), cI_f (t42_1), cI_t (t42_2)]⟩
  by_cases t42_3 : σ.1 32 (4 * k) = nI 3
  · skip
    refine gg_topi t42_3 ?_
    refine n_tswIn (tgt := 110) hC dX10_doesStep_42 rfl (by decide) (by decide) (by decide) rfl (by decide) ?_
    refine g_aload_n (pc' := 111) (j := 3) hC dX10_doesStep_110 rfl rfl rfl ?_
    refine g_iload_n (pc' := 112) (j := 2) hC dX10_doesStep_111 rfl rfl rfl ?_
    refine g_iload_n (pc' := 113) (j := 1) hC dX10_doesStep_112 rfl rfl rfl ?_
    refine f_Vi (pc' := 116) (k := 15) (st := []) hC (m_move x.2.1 g z0 σ ((σ.1 32 ((4 * k) + 1))) ((σ.1 32 ((4 * k) + 2))) (hJ.1)) k_X10_move wM_X10_366 (by decide) (by decide) (ct_15 g σ) rfl rfl rfl rfl (Nat.le_of_ble_eq_true rfl) dX10_doesStep_113 rfl (Nat.zero_le _) (Nat.zero_le _) ?_
    refine g_ret hC dX10_doesStep_116 rfl ?_
    exact ⟨by unfold mDo; rw [cI_f (t42_0), cI_f (t42_1), cI_f (t42_2), cI_t (t42_3)], by unfold mDo; rw [cI_f (t42_0), cI_f (t42_1), cI_f (t42_2), cI_t (t42_3)]⟩
  by_cases t42_4 : σ.1 32 (4 * k) = nI 4
  · skip
    refine gg_topi t42_4 ?_
    refine n_tswIn (tgt := 117) hC dX10_doesStep_42 rfl (by decide) (by decide) (by decide) rfl (by decide) ?_
    refine g_aload_n (pc' := 118) (j := 3) hC dX10_doesStep_117 rfl rfl rfl ?_
    refine g_iload_n (pc' := 119) (j := 2) hC dX10_doesStep_118 rfl rfl rfl ?_
    refine g_iload_n (pc' := 120) (j := 1) hC dX10_doesStep_119 rfl rfl rfl ?_
    refine f_Vi (pc' := 123) (k := 15) (st := []) hC (m_rewind x.2.1 g z0 σ ((σ.1 32 ((4 * k) + 1))) ((σ.1 32 ((4 * k) + 2))) (hJ.1)) k_X10_rewind wM_X10_369 (by decide) (by decide) (ct_15 g σ) rfl rfl rfl rfl (Nat.le_of_ble_eq_true rfl) dX10_doesStep_120 rfl (Nat.zero_le _) (Nat.zero_le _) ?_
    refine g_ret hC dX10_doesStep_123 rfl ?_
    exact ⟨by unfold mDo; rw [cI_f (t42_0), cI_f (t42_1), cI_f (t42_2), cI_f (t42_3), cI_t (t42_4)], by unfold mDo; rw [cI_f (t42_0), cI_f (t42_1), cI_f (t42_2), cI_f (t42_3), cI_t (t42_4)]⟩
  by_cases t42_5 : σ.1 32 (4 * k) = nI 5
  · skip
    refine gg_topi t42_5 ?_
    refine n_tswIn (tgt := 124) hC dX10_doesStep_42 rfl (by decide) (by decide) (by decide) rfl (by decide) ?_
    refine g_aload_n (pc' := 125) (j := 3) hC dX10_doesStep_124 rfl rfl rfl ?_
    refine g_iload_n (pc' := 126) (j := 2) hC dX10_doesStep_125 rfl rfl rfl ?_
    refine g_iload_n (pc' := 127) (j := 1) hC dX10_doesStep_126 rfl rfl rfl ?_
    refine g_iload (pc' := 129) (j := 0) hC dX10_doesStep_127 rfl rfl ?_
    refine f_Vi (pc' := 132) (k := 15) (st := []) hC (m_corrupt x.2.1 g z0 σ ((σ.1 32 ((4 * k) + 1))) ((σ.1 32 ((4 * k) + 2))) ((σ.1 32 ((4 * k) + 3))) (hJ.1)) k_X10_corrupt wM_X10_372 (by decide) (by decide) (ct_15 g σ) rfl rfl rfl rfl (Nat.le_of_ble_eq_true rfl) dX10_doesStep_129 rfl (Nat.zero_le _) (Nat.zero_le _) ?_
    refine g_ret hC dX10_doesStep_132 rfl ?_
    exact ⟨by unfold mDo; rw [cI_f (t42_0), cI_f (t42_1), cI_f (t42_2), cI_f (t42_3), cI_f (t42_4), cI_t (t42_5)], by unfold mDo; rw [cI_f (t42_0), cI_f (t42_1), cI_f (t42_2), cI_f (t42_3), cI_f (t42_4), cI_t (t42_5)]⟩
  by_cases t42_6 : σ.1 32 (4 * k) = nI 6
  · skip
    refine gg_topi t42_6 ?_
    refine n_tswIn (tgt := 133) hC dX10_doesStep_42 rfl (by decide) (by decide) (by decide) rfl (by decide) ?_
    refine g_aload_n (pc' := 134) (j := 3) hC dX10_doesStep_133 rfl rfl rfl ?_
    refine g_iload_n (pc' := 135) (j := 2) hC dX10_doesStep_134 rfl rfl rfl ?_
    refine g_iload_n (pc' := 136) (j := 1) hC dX10_doesStep_135 rfl rfl rfl ?_
    refine f_Vi (pc' := 139) (k := 15) (st := []) hC (m_exchange x.2.1 g z0 σ ((σ.1 32 ((4 * k) + 1))) ((σ.1 32 ((4 * k) + 2))) (hJ.1)) k_X10_exchange wM_X10_375 (by decide) (by decide) (ct_15 g σ) rfl rfl rfl rfl (Nat.le_of_ble_eq_true rfl) dX10_doesStep_136 rfl (Nat.zero_le _) (Nat.zero_le _) ?_
    refine g_ret hC dX10_doesStep_139 rfl ?_
    exact ⟨by unfold mDo; rw [cI_f (t42_0), cI_f (t42_1), cI_f (t42_2), cI_f (t42_3), cI_f (t42_4), cI_f (t42_5), cI_t (t42_6)], by unfold mDo; rw [cI_f (t42_0), cI_f (t42_1), cI_f (t42_2), cI_f (t42_3), cI_f (t42_4), cI_f (t42_5), cI_t (t42_6)]⟩
  by_cases t42_7 : σ.1 32 (4 * k) = nI 7
  · skip
    refine gg_topi t42_7 ?_
    refine n_tswIn (tgt := 140) hC dX10_doesStep_42 rfl (by decide) (by decide) (by decide) rfl (by decide) ?_
    refine g_aload_n (pc' := 141) (j := 3) hC dX10_doesStep_140 rfl rfl rfl ?_
    refine g_iload_n (pc' := 142) (j := 2) hC dX10_doesStep_141 rfl rfl rfl ?_
    refine f_Vi (pc' := 145) (k := 15) (st := []) hC (m_post x.2.1 g z0 σ ((σ.1 32 ((4 * k) + 1))) (hJ.1)) k_X10_post wM_X10_378 (by decide) (by decide) (ct_15 g σ) rfl rfl rfl rfl (Nat.le_of_ble_eq_true rfl) dX10_doesStep_142 rfl (Nat.zero_le _) (Nat.zero_le _) ?_
    refine g_ret hC dX10_doesStep_145 rfl ?_
    exact ⟨by unfold mDo; rw [cI_f (t42_0), cI_f (t42_1), cI_f (t42_2), cI_f (t42_3), cI_f (t42_4), cI_f (t42_5), cI_f (t42_6), cI_t (t42_7)], by unfold mDo; rw [cI_f (t42_0), cI_f (t42_1), cI_f (t42_2), cI_f (t42_3), cI_f (t42_4), cI_f (t42_5), cI_f (t42_6), cI_t (t42_7)]⟩
  refine g_tswOut (tgt := 146) hC dX10_doesStep_42 (tsw_out 7 (by decide) (by intro j hj; rcases (show j = 0 ∨ j = 1 ∨ j = 2 ∨ j = 3 ∨ j = 4 ∨ j = 5 ∨ j = 6 ∨ j = 7 by omega) with rfl | rfl | rfl | rfl | rfl | rfl | rfl | rfl <;> assumption)) (by decide) ?_
  refine g_aload_n (pc' := 147) (j := 3) hC dX10_doesStep_146 rfl rfl rfl ?_
  refine g_iload_n (pc' := 148) (j := 2) hC dX10_doesStep_147 rfl rfl rfl ?_
  refine g_iload_n (pc' := 149) (j := 1) hC dX10_doesStep_148 rfl rfl rfl ?_
  refine f_Vi (pc' := 152) (k := 15) (st := []) hC (m_heal x.2.1 g z0 σ ((σ.1 32 ((4 * k) + 1))) ((σ.1 32 ((4 * k) + 2))) (hJ.1)) k_X10_heal wM_X10_380 (by decide) (by decide) (ct_15 g σ) rfl rfl rfl rfl (Nat.le_of_ble_eq_true rfl) dX10_doesStep_149 rfl (Nat.zero_le _) (Nat.zero_le _) ?_
  refine g_ret hC dX10_doesStep_152 rfl ?_
  exact ⟨by unfold mDo; rw [cI_f (t42_0), cI_f (t42_1), cI_f (t42_2), cI_f (t42_3), cI_f (t42_4), cI_f (t42_5), cI_f (t42_6), cI_f (t42_7)], by unfold mDo; rw [cI_f (t42_0), cI_f (t42_1), cI_f (t42_2), cI_f (t42_3), cI_f (t42_4), cI_f (t42_5), cI_f (t42_6), cI_f (t42_7)]⟩
set_option maxHeartbeats 4000000 in
set_option maxRecDepth 20000 in
theorem m_run (l : Launch) (g : Lay) (z0 : Nat) (σ : St) (len : Int32) (hJ : MJ σ) (hT : nb σ 15 30 900)  : CTi l yX10_run cX10_run 4 (some .int) 9 g z0 [.ref (g.2.1 15), .int len] σ (FI ((mrn σ len).1) ((mrn σ len).2)) := by
  refine CTi.of (by decide) (Nat.le_of_ble_eq_true rfl) ?_
  intro x hxl hxa hC
  have hC : Cx x RX10 cX10_run 4 (some .int) 9 g z0 := hC
  have hM := hJ.1
  have hM0 := MI_m0 hM
  have hb2 := hM.2.1.2.2.2
  have hC6 := hM.1.1.2
  show GG x g z0 4 0 0 (Qi x g z0 (FI ((mrn σ len).1) ((mrn σ len).2))) σ 0 [(0, .ref (g.2.1 15)), (1, .int len)] []
  refine g_aload_n (pc' := 1) (j := 0) hC dX10_run_0 rfl rfl rfl ?_
  refine g_iconst (pc' := 2) (v := nI 0) hC dX10_run_1 rfl rfl ?_
  refine pf_X10_0 (pc' := 5) hC wF_X10_66 dX10_run_2 rfl ?_
  refine g_iload_n (pc' := 6) (j := 1) hC dX10_run_5 rfl rfl rfl ?_
  refine g_iconst (pc' := 7) (v := nI 0) hC dX10_run_6 rfl rfl ?_
  refine g_aload_n (pc' := 8) (j := 0) hC dX10_run_7 rfl rfl rfl ?_
  refine gf_X10_26 (pc' := 11) hC wF_X10_219 dX10_run_8 rfl ?_
  refine gg_topi (b := nI (rd σ 15 26)) ((uv_idx _ _ _ _ (by decide)).trans (hM.2.1.2.2.1)) ?_
  refine f_Si (pc' := 14) (st := []) hC (m_in x.2.1 g z0 (uv σ 15 0 (nI 0)) len ((nI 0)) ((nI (rd σ 15 26)))) k_X10_in wM_X10_72 (by decide) rfl rfl (Nat.le_of_ble_eq_true rfl) dX10_run_11 rfl (Nat.zero_le _) (Nat.zero_le _) ?_
  refine b_if_ne (pc' := 17) (tgt := 23) hC dX10_run_14 (by decide) rfl (fun c14 => ?_) (fun c14 => ?_)
  · skip
    obtain ⟨hl1, -, hl2⟩ := in_n (by decide) (by omega) c14.1 c14.2
    have c14b : nI 0 ≤ len ∧ len ≤ σ.1 15 26 := ⟨c14.1, hM.2.1.2.2.1 ▸ c14.2⟩
    have q0 : PI (mopn (uv σ 15 0 (nI 0)) len) := by rw [hl1]; exact PI_mopn (by omega) (nb_cg (uv_idx _ _ _ _ (by decide)) hT hT.2)
    refine g_aload_n (pc' := 24) (j := 0) hC dX10_run_23 rfl rfl rfl ?_
    refine gf_X10_1 (pc' := 27) hC wF_X10_69 dX10_run_24 rfl ?_
    refine gg_topi (b := nI (rd σ 15 1)) ((uv_idx _ _ _ _ (by decide)).trans (hM.1.1.1)) ?_
    refine n_if_ne (pc' := 30) (tgt := 41) hC dX10_run_27 (by decide) rfl (by omega) (fun c27 => ?_) (fun c27 => ?_)
    · skip
      refine g_aload_n (pc' := 42) (j := 0) hC dX10_run_41 rfl rfl rfl ?_
      refine g_iload_n (pc' := 43) (j := 1) hC dX10_run_42 rfl rfl rfl ?_
      refine f_Vv (pc' := 46) (k := 15) (st := []) hC (m_opensText x.2.1 g z0 (uv σ 15 0 (nI 0)) len) k_X10_opensText wM_X10_299 (by decide) (by decide) (ct_15 g (uv σ 15 0 (nI 0))) rfl rfl rfl rfl (Nat.le_of_ble_eq_true rfl) dX10_run_43 rfl (Nat.zero_le _) (Nat.zero_le _) ?_
      refine g_aload_n (pc' := 47) (j := 0) hC dX10_run_46 rfl rfl rfl ?_
      refine f_Vi (pc' := 50) (k := 15) (st := []) hC (m_readScript x.2.1 g z0 (mopn (uv σ 15 0 (nI 0)) len) (q0)) k_X10_readScript wM_X10_383 (by decide) (by decide) (ct_15 g (mopn (uv σ 15 0 (nI 0)) len)) rfl rfl rfl rfl (Nat.le_of_ble_eq_true rfl) dX10_run_47 rfl (Nat.zero_le _) (Nat.zero_le _) ?_
      refine b_if_ne (pc' := 53) (tgt := 59) hC dX10_run_50 (by decide) rfl (fun c50 => ?_) (fun c50 => ?_)
      · skip
        have k0 := nb_of (σ := uv (mopn (uv σ 15 0 (nI 0)) len) 15 39 (nI 0)) (m := 60) (uv_same _ _ _ _) (by omega) (by decide)
        have hSc := mSc_ok 61 (uv (mopn (uv σ 15 0 (nI 0)) len) 15 39 (nI 0)) (PI_hi q0 _ (by decide)) k0.1 (by rw [k0.2])
        have h39 : rd (mrq σ len).2 15 39 ≤ 60 := hSc.2.2.2
        have hJ0 := mrq_J hJ len
        have hJ1 : MJ (uv (mrq σ len).2 15 5 (nI 0)) := MJ_u5 hJ0
        have h05 : rd (uv (mrq σ len).2 15 5 (nI 0)) 15 5 = 0 := (nb_of (m := 60) (uv_same _ _ _ _) (by omega) (by decide)).2
        refine g_aload_n (pc' := 60) (j := 0) hC dX10_run_59 rfl rfl rfl ?_
        refine g_iconst (pc' := 61) (v := nI 0) hC dX10_run_60 rfl rfl ?_
        refine pf_X10_5 (pc' := 64) hC wF_X10_123 dX10_run_61 rfl ?_
        refine g_iconst (pc' := 65) (v := nI 0) hC dX10_run_64 rfl rfl ?_
        refine g_istore_n (pc' := 66) (lv' := [(2, .int (nI 0)), (0, .ref (g.2.1 15)), (1, .int len)]) hC dX10_run_65 rfl rfl (by decide) rfl ?_
        have L66 : ∀ (fu : Nat) (k : Nat), (k ≤ rd (mrq σ len).2 15 39) → (rd (mrq σ len).2 15 39 - k) < fu → GG x g z0 4 0 0 (Qi x g z0 (FI ((mrn σ len).1) ((mrn σ len).2))) (mRk k (uv (mrq σ len).2 15 5 (nI 0))) 66 [(2, .int (nI k)), (0, .ref (g.2.1 15)), (1, .int len)] [] := by
          intro fu
          induction fu with
          | zero => intro k hk hz; exact absurd hz (Nat.not_lt_zero _)
          | succ fu ih66 =>
            intro k hk hf
            obtain ⟨hR1, hR2, hR3⟩ := mRk_ok hJ1 h05 k (by omega)
            have hD := MK_mDo hR1 k
            have hD5 : rd (mDo (mRk k (uv (mrq σ len).2 15 5 (nI 0))) k).2 15 5 = rd (mRk k (uv (mrq σ len).2 15 5 (nI 0))) 15 5 := by unfold rd; rw [hD.2.1 15 5 (by omega)]
            refine g_iload_n (pc' := 67) (j := 0) hC dX10_run_66 rfl rfl rfl ?_
            refine g_aload_n (pc' := 68) (j := 1) hC dX10_run_67 rfl rfl rfl ?_
            refine gf_X10_39 (pc' := 71) hC wF_X10_308 dX10_run_68 rfl ?_
            refine gg_topi (b := nI (rd (mrq σ len).2 15 39)) ((hR2.1 15 39 (by omega)).trans ((uv_idx _ _ _ _ (by decide)).trans hSc.2.2.1)) ?_
            refine n_icmp_ge (pc' := 74) (tgt := 110) hC dX10_run_71 (by decide) rfl (by omega) (by omega) (fun c71 => ?_) (fun c71 => ?_)
            · skip
              have hkk : k = rd (mrq σ len).2 15 39 := by omega
              have hR9 : (mRk k (uv (mrq σ len).2 15 5 (nI 0))).1 15 5 = nI (rd (mre (mrq σ len).2) 15 5) := by rw [hkk]; exact (mRk_ok hJ1 h05 (rd (mrq σ len).2 15 39) h39).1.1.1.2.2.2.2.1
              refine g_aload_n (pc' := 111) (j := 1) hC dX10_run_110 rfl rfl rfl ?_
              refine g_iconst (pc' := 112) (v := nI 0) hC dX10_run_111 rfl rfl ?_
              refine pf_X10_0 (pc' := 115) hC wF_X10_66 dX10_run_112 rfl ?_
              refine g_aload_n (pc' := 116) (j := 1) hC dX10_run_115 rfl rfl rfl ?_
              refine gf_X10_39 (pc' := 119) hC wF_X10_308 dX10_run_116 rfl ?_
              refine gg_topi (b := nI (rd (mrq σ len).2 15 39)) ((uv_idx _ _ _ _ (by decide)).trans ((hR2.1 15 39 (by omega)).trans ((uv_idx _ _ _ _ (by decide)).trans hSc.2.2.1))) ?_
              refine g_aload_n (pc' := 120) (j := 1) hC dX10_run_119 rfl rfl rfl ?_
              refine gf_X10_5 (pc' := 123) hC wF_X10_123 dX10_run_120 rfl ?_
              refine gg_topi (b := nI (rd (mre (mrq σ len).2) 15 5)) ((uv_idx _ _ _ _ (by decide)).trans (hR9)) ?_
              refine n_isub (pc' := 124) hC dX10_run_123 rfl (by have := (mRk_ok hJ1 h05 (rd (mrq σ len).2 15 39) h39).2.2; exact this) ?_
              refine g_ret hC dX10_run_124 rfl ?_
              exact ⟨by unfold mrn; rw [cI_t (c14b), cI_f (c27), cI_t (show (mrq σ len).1 from c50)], by unfold mrn; rw [cI_t (c14b), cI_f (c27), cI_t (show (mrq σ len).1 from c50)]; rw [hkk]; rfl⟩
            · skip
              refine g_aload_n (pc' := 75) (j := 1) hC dX10_run_74 rfl rfl rfl ?_
              refine g_iload_n (pc' := 76) (j := 0) hC dX10_run_75 rfl rfl rfl ?_
              refine f_Vi (pc' := 79) (k := 15) (st := []) hC (m_doesStep x.2.1 g z0 (mRk k (uv (mrq σ len).2 15 5 (nI 0))) k (hR1) (by omega)) k_X10_doesStep wM_X10_386 (by decide) (by decide) (ct_15 g (mRk k (uv (mrq σ len).2 15 5 (nI 0)))) rfl rfl rfl rfl (Nat.le_of_ble_eq_true rfl) dX10_run_76 rfl (Nat.zero_le _) (Nat.zero_le _) ?_
              refine g_istore_n (pc' := 80) (lv' := [(3, .int ((mDo (mRk k (uv (mrq σ len).2 15 5 (nI 0))) k).1)), (2, .int (nI k)), (0, .ref (g.2.1 15)), (1, .int len)]) hC dX10_run_79 rfl rfl (by decide) rfl ?_
              refine g_aload_n (pc' := 81) (j := 2) hC dX10_run_80 rfl rfl rfl ?_
              refine g_aload_n (pc' := 82) (j := 2) hC dX10_run_81 rfl rfl rfl ?_
              refine gf_X10_0 (pc' := 85) hC wF_X10_66 dX10_run_82 rfl ?_
              refine g_if_le (pc' := 88) (tgt := 97) hC dX10_run_85 (by decide) rfl (fun c85 => ?_) (fun c85 => ?_)
              · skip
                refine g_aload_n (pc' := 98) (j := 2) hC dX10_run_97 rfl rfl rfl ?_
                refine gf_X10_5 (pc' := 101) hC wF_X10_123 dX10_run_98 rfl ?_
                refine gg_topi (b := nI (rd (mDo (mRk k (uv (mrq σ len).2 15 5 (nI 0))) k).2 15 5)) (hD.1.1.1.2.2.2.2.1) ?_
                refine pf_X10_5 (pc' := 104) hC wF_X10_123 dX10_run_101 rfl ?_
                refine g_iinc (pc' := 107) (j := 1) (u := nI (k + 1)) (lv' := [(2, .int (nI (k + 1))), (3, .int ((mDo (mRk k (uv (mrq σ len).2 15 5 (nI 0))) k).1)), (0, .ref (g.2.1 15)), (1, .int len)]) hC dX10_run_104 rfl rfl (nI_add k 1) (by decide) rfl ?_
                refine g_goto (tgt := 66) hC dX10_run_107 (by decide) ?_
                refine gg_st (σ' := (mRk ((k + 1)) (uv (mrq σ len).2 15 5 (nI 0)))) (by show _ = mRf _; unfold mRf; first | rw [cI_t c85] | rw [cI_f c85]) ?_
                refine gg_lv (lv' := [(2, .int (nI (k + 1))), (0, .ref (g.2.1 15)), (1, .int len)]) ?_ [0, 2, 3] rfl
                exact ih66 ((k + 1)) (by omega) (by omega)
              · skip
                refine g_aload_n (pc' := 89) (j := 2) hC dX10_run_88 rfl rfl rfl ?_
                refine gf_X10_5 (pc' := 92) hC wF_X10_123 dX10_run_89 rfl ?_
                refine gg_topi (b := nI (rd (mDo (mRk k (uv (mrq σ len).2 15 5 (nI 0))) k).2 15 5)) (hD.1.1.1.2.2.2.2.1) ?_
                refine g_iconst (pc' := 93) (v := nI 1) hC dX10_run_92 rfl rfl ?_
                refine n_iadd (pc' := 94) hC dX10_run_93 rfl ?_
                refine g_goto (tgt := 101) hC dX10_run_94 (by decide) ?_
                refine pf_X10_5 (pc' := 104) hC wF_X10_123 dX10_run_101 rfl ?_
                refine g_iinc (pc' := 107) (j := 1) (u := nI (k + 1)) (lv' := [(2, .int (nI (k + 1))), (3, .int ((mDo (mRk k (uv (mrq σ len).2 15 5 (nI 0))) k).1)), (0, .ref (g.2.1 15)), (1, .int len)]) hC dX10_run_104 rfl rfl (nI_add k 1) (by decide) rfl ?_
                refine g_goto (tgt := 66) hC dX10_run_107 (by decide) ?_
                refine gg_st (σ' := (mRk ((k + 1)) (uv (mrq σ len).2 15 5 (nI 0)))) (by show _ = mRf _; unfold mRf; first | rw [cI_t c85] | rw [cI_f c85]) ?_
                refine gg_lv (lv' := [(2, .int (nI (k + 1))), (0, .ref (g.2.1 15)), (1, .int len)]) ?_ [0, 2, 3] rfl
                exact ih66 ((k + 1)) (by omega) (by omega)
        refine gg_st (σ' := (mRk 0 (uv (mrq σ len).2 15 5 (nI 0)))) (rfl) ?_
        refine gg_lv (lv' := [(2, .int (nI 0)), (0, .ref (g.2.1 15)), (1, .int len)]) ?_ [0, 1, 2] rfl
        exact L66 (rd (mrq σ len).2 15 39 - 0 + 1) 0 (by omega) (by omega)
      · skip
        refine g_aload_n (pc' := 54) (j := 0) hC dX10_run_53 rfl rfl rfl ?_
        refine g_iconst (pc' := 55) (v := nI 2) hC dX10_run_54 rfl rfl ?_
        refine f_Vi (pc' := 58) (k := 15) (st := []) hC (m_refuse x.2.1 g z0 ((mSc 61 (uv (mopn (uv σ 15 0 (nI 0)) len) 15 39 (nI 0))).2) ((nI 2))) k_X10_refuse wM_X10_171 (by decide) (by decide) (ct_15 g ((mSc 61 (uv (mopn (uv σ 15 0 (nI 0)) len) 15 39 (nI 0))).2)) rfl rfl rfl rfl (Nat.le_of_ble_eq_true rfl) dX10_run_55 rfl (Nat.zero_le _) (Nat.zero_le _) ?_
        refine g_ret hC dX10_run_58 rfl ?_
        exact ⟨by unfold mrn; rw [cI_t (c14b), cI_f (c27), cI_f (show ¬ (mrq σ len).1 from c50)], by unfold mrn; rw [cI_t (c14b), cI_f (c27), cI_f (show ¬ (mrq σ len).1 from c50)]; rfl⟩
    · skip
      refine g_aload_n (pc' := 31) (j := 0) hC dX10_run_30 rfl rfl rfl ?_
      refine g_iconst (pc' := 32) (v := nI 0) hC dX10_run_31 rfl rfl ?_
      refine pf_X10_26 (pc' := 35) hC wF_X10_219 dX10_run_32 rfl ?_
      refine g_aload_n (pc' := 36) (j := 0) hC dX10_run_35 rfl rfl rfl ?_
      refine g_iconst (pc' := 37) (v := nI 2) hC dX10_run_36 rfl rfl ?_
      refine f_Vi (pc' := 40) (k := 15) (st := []) hC (m_refuse x.2.1 g z0 (uv (uv σ 15 0 (nI 0)) 15 26 (nI 0)) ((nI 2))) k_X10_refuse wM_X10_171 (by decide) (by decide) (ct_15 g (uv (uv σ 15 0 (nI 0)) 15 26 (nI 0))) rfl rfl rfl rfl (Nat.le_of_ble_eq_true rfl) dX10_run_37 rfl (Nat.zero_le _) (Nat.zero_le _) ?_
      refine g_ret hC dX10_run_40 rfl ?_
      exact ⟨by unfold mrn; rw [cI_t (c14b), cI_t (c27)], by unfold mrn; rw [cI_t (c14b), cI_t (c27)]⟩
  · skip
    have c14b : ¬ (nI 0 ≤ len ∧ len ≤ σ.1 15 26) := fun z => c14 ⟨z.1, hM.2.1.2.2.1 ▸ z.2⟩
    refine g_aload_n (pc' := 18) (j := 0) hC dX10_run_17 rfl rfl rfl ?_
    refine g_iconst (pc' := 19) (v := nI 1) hC dX10_run_18 rfl rfl ?_
    refine f_Vi (pc' := 22) (k := 15) (st := []) hC (m_refuse x.2.1 g z0 (uv σ 15 0 (nI 0)) ((nI 1))) k_X10_refuse wM_X10_171 (by decide) (by decide) (ct_15 g (uv σ 15 0 (nI 0))) rfl rfl rfl rfl (Nat.le_of_ble_eq_true rfl) dX10_run_19 rfl (Nat.zero_le _) (Nat.zero_le _) ?_
    refine g_ret hC dX10_run_22 rfl ?_
    exact ⟨by unfold mrn; rw [cI_f (c14b)], by unfold mrn; rw [cI_f (c14b)]⟩
