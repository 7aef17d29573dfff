set_option maxHeartbeats 4000000 in
set_option maxRecDepth 20000 in
theorem m_readFork (l : Launch) (g : Lay) (z0 : Nat) (σ : St)  (hP : PI σ) (hs0 : nb σ 15 39 59)  : CTi l yX10_readFork cX10_readFork 2 (some .boolean) 5 g z0 [.ref (g.2.1 15)] σ (FI (bI ((mFk 901 (nI 0) σ).1)) ((mFk 901 (nI 0) σ).2)) := by
  refine CTi.of (by decide) (Nat.le_of_ble_eq_true rfl) ?_
  intro x hxl hxa hC
  have hC : Cx x RX10 cX10_readFork 2 (some .boolean) 5 g z0 := hC
  have hE0 := hP.2.1.2
  have hT0 := hP.1.2
  show GG x g z0 2 0 0 (Qi x g z0 (FI (bI ((mFk 901 (nI 0) σ).1)) ((mFk 901 (nI 0) σ).2))) σ 0 [(0, .ref (g.2.1 15))] []
  refine g_iconst (pc' := 1) (v := nI 0) hC dX10_readFork_0 rfl rfl ?_
  refine g_istore_n (pc' := 2) (lv' := [(1, .int (nI 0)), (0, .ref (g.2.1 15))]) hC dX10_readFork_1 rfl rfl (by decide) rfl ?_
  have L2 : ∀ (fu : Nat) (set : Int32) (τ : St) (n : Nat), (PI τ) → (nb τ 15 39 59) → (rd τ 15 28 - rd τ 15 27 ≤ n) → (mFk 901 (nI 0) σ = mFk (n + 1) set τ) → n < fu → GG x g z0 2 0 0 (Qi x g z0 (FI (bI ((mFk 901 (nI 0) σ).1)) ((mFk 901 (nI 0) σ).2))) τ 2 [(1, .int set), (0, .ref (g.2.1 15))] [] := by
    intro fu
    induction fu with
    | zero => intro set τ n hQ hs hn he hz; exact absurd hz (Nat.not_lt_zero _)
    | succ fu ih2 =>
      intro set τ n hQ hs hn he hf
      have hs2 := hs.2
      have hQ1 : PI (mInto τ 1 (nI 0) (τ.1 15 1 - nI 1)).2 := PI_mInto hQ _ _ _
      have hQ2 := PI_mpk hQ1
      have hk2 := hQ1.sk
      have hE2 := hQ1.2.1.2
      have h28 : rd (mInto τ 1 (nI 0) (τ.1 15 1 - nI 1)).2 15 28 = rd τ 15 28 := (LY_mInto _ _ _ _).r28
      have h28b : rd (mpk (mInto τ 1 (nI 0) (τ.1 15 1 - nI 1)).2) 15 28 = rd (mInto τ 1 (nI 0) (τ.1 15 1 - nI 1)).2 15 28 := rd28_mpk _
      refine g_aload_n (pc' := 3) (j := 1) hC dX10_readFork_2 rfl rfl rfl ?_
      refine g_iconst (pc' := 4) (v := nI 1) hC dX10_readFork_3 rfl rfl ?_
      refine f_Vi (pc' := 7) (k := 15) (st := []) hC (m_readClient x.2.1 g z0 τ 1 (hQ) (by omega) (by first | exact hs | (simp (disch := decide) only [nb, rd_uv, rd_ur, uv_cell, ur_cell]; exact hs) | omega)) k_X10_readClient wM_X10_321 (by decide) (by decide) (ct_15 g τ) rfl rfl rfl rfl (Nat.le_of_ble_eq_true rfl) dX10_readFork_4 rfl (Nat.zero_le _) (Nat.zero_le _) ?_
      refine b_if_ne (pc' := 10) (tgt := 12) hC dX10_readFork_7 (by decide) rfl (fun c7 => ?_) (fun c7 => ?_)
      · skip
        refine g_iload_n (pc' := 13) (j := 0) hC dX10_readFork_12 rfl rfl rfl ?_
        refine g_iconst (pc' := 14) (v := nI 1) hC dX10_readFork_13 rfl rfl ?_
        refine g_aload_n (pc' := 15) (j := 1) hC dX10_readFork_14 rfl rfl rfl ?_
        refine gf_X10_31 (pc' := 18) hC wF_X10_271 dX10_readFork_15 rfl ?_
        refine g_ishl (pc' := 19) hC dX10_readFork_18 rfl ?_
        refine g_ior (pc' := 20) hC dX10_readFork_19 rfl ?_
        refine g_istore_n (pc' := 21) (lv' := [(1, .int (set ||| ((nI 1) <<< ((((mInto τ 1 (nI 0) (τ.1 15 1 - nI 1)).2).1 15 31) &&& 31)))), (0, .ref (g.2.1 15))]) hC dX10_readFork_20 rfl rfl (by decide) rfl ?_
        refine g_aload_n (pc' := 22) (j := 1) hC dX10_readFork_21 rfl rfl rfl ?_
        refine f_Vi (pc' := 25) (k := 15) (st := []) hC (m_peek x.2.1 g z0 ((mInto τ 1 (nI 0) (τ.1 15 1 - nI 1)).2) (hQ1)) k_X10_peek wM_X10_243 (by decide) (by decide) (ct_15 g ((mInto τ 1 (nI 0) (τ.1 15 1 - nI 1)).2)) rfl rfl rfl rfl (Nat.le_of_ble_eq_true rfl) dX10_readFork_22 rfl (Nat.zero_le _) (Nat.zero_le _) ?_
        refine f_Si (pc' := 28) (st := []) hC (m_isDigit x.2.1 g z0 (mpk ((mInto τ 1 (nI 0) (τ.1 15 1 - nI 1)).2)) ((mB ((mInto τ 1 (nI 0) (τ.1 15 1 - nI 1)).2) (msk ((mInto τ 1 (nI 0) (τ.1 15 1 - nI 1)).2))))) k_X10_isDigit wM_X10_268 (by decide) rfl rfl (Nat.le_of_ble_eq_true rfl) dX10_readFork_25 rfl (Nat.zero_le _) (Nat.zero_le _) ?_
        refine b_if_ne (pc' := 31) (tgt := 2) hC dX10_readFork_28 (by decide) rfl (fun c28 => ?_) (fun c28 => ?_)
        · skip
          have hp1 := mInto_at hQ c7
          have h27 : rd (mpk (mInto τ 1 (nI 0) (τ.1 15 1 - nI 1)).2) 15 27 = msk (mInto τ 1 (nI 0) (τ.1 15 1 - nI 1)).2 := (nb_of (m := 900) ((uv_idx _ _ _ _ (by decide)).trans (uv_same _ _ _ _)) (by omega) (by decide)).2
          have hlt := mB_in (dgt_ne c28)
          refine gg_st (σ' := ((mpk ((mInto τ 1 (nI 0) (τ.1 15 1 - nI 1)).2)))) (rfl) ?_
          refine gg_lv (lv' := [(1, .int (set ||| ((nI 1) <<< ((((mInto τ 1 (nI 0) (τ.1 15 1 - nI 1)).2).1 15 31) &&& 31)))), (0, .ref (g.2.1 15))]) ?_ [0, 1] rfl
          exact ih2 (set ||| ((nI 1) <<< ((((mInto τ 1 (nI 0) (τ.1 15 1 - nI 1)).2).1 15 31) &&& 31))) ((mpk ((mInto τ 1 (nI 0) (τ.1 15 1 - nI 1)).2))) (n - 1) (hQ2) (((LY_mInto _ _ _ _).tr (LX_mpk _).ly).n39 hs) (by omega) (by rw [he, show n - 1 + 1 = n by omega]; exact (sq_yy c7).trans (cI_t c28)) (by omega)
        · skip
          refine g_aload_n (pc' := 32) (j := 1) hC dX10_readFork_31 rfl rfl rfl ?_
          refine gf_X10_38 (pc' := 35) hC wF_X10_63 dX10_readFork_32 rfl ?_
          refine g_iconst (pc' := 36) (v := nI 4) hC dX10_readFork_35 rfl rfl ?_
          refine g_aload_n (pc' := 37) (j := 1) hC dX10_readFork_36 rfl rfl rfl ?_
          refine gf_X10_39 (pc' := 40) hC wF_X10_308 dX10_readFork_37 rfl ?_
          refine gg_topi (b := nI (rd τ 15 39)) (((LY_mInto _ _ _ _).tr (LX_mpk _).ly).r39.trans hs.1) ?_
          refine n_imul (pc' := 41) hC dX10_readFork_40 rfl ?_
          refine g_iconst (pc' := 42) (v := nI 1) hC dX10_readFork_41 rfl rfl ?_
          refine n_iadd (pc' := 43) hC dX10_readFork_42 rfl ?_
          refine g_iload_n (pc' := 44) (j := 0) hC dX10_readFork_43 rfl rfl rfl ?_
          refine a_st (pc' := 45) (k := 32) (i := (4 * (rd τ 15 39)) + 1) hC (by decide) (fun σ9 => (ct_32 g σ9)) (by omega) (by decide) dX10_readFork_44 rfl ?_
          refine g_iconst (pc' := 46) (v := nI 1) hC dX10_readFork_45 rfl rfl ?_
          refine g_ret hC dX10_readFork_46 rfl ?_
          exact ⟨by rw [he]; exact ((sq_y c7).1.trans (by rw [cI_f c28]; exact bI_t trivial)).symm, by rw [he]; exact ((sq_y c7).2.trans (by rw [cI_f c28])).symm⟩
      · skip
        refine g_iconst (pc' := 11) (v := nI 0) hC dX10_readFork_10 rfl rfl ?_
        refine g_ret hC dX10_readFork_11 rfl ?_
        exact ⟨by rw [he]; exact (sq_n c7).1.symm, by rw [he]; exact (sq_n c7).2.symm⟩
  refine gg_lv (lv' := [(1, .int (nI 0)), (0, .ref (g.2.1 15))]) ?_ [0, 1] rfl
  exact L2 (900 + 1) ((nI 0)) σ 900 (hP) (hs0) (by omega) (rfl) (by omega)
