set_option maxHeartbeats 4000000 in
set_option maxRecDepth 20000 in
theorem m_corrupt (l : Launch) (g : Lay) (z0 : Nat) (σ : St) (b : Int32) (n : Int32) (v : Int32) (hM : MI σ)  : CTi l yX10_corrupt cX10_corrupt 6 (some .int) 3 g z0 [.ref (g.2.1 15), .int b, .int n, .int v] σ (FI ((mco σ b n v).1) ((mco σ b n v).2)) := by
  refine CTi.of (by decide) (Nat.le_of_ble_eq_true rfl) ?_
  intro x hxl hxa hC
  have hC : Cx x RX10 cX10_corrupt 6 (some .int) 3 g z0 := hC
  have hM0 := MI_m0 hM
  show GG x g z0 6 0 0 (Qi x g z0 (FI ((mco σ b n v).1) ((mco σ b n v).2))) σ 0 [(0, .ref (g.2.1 15)), (1, .int b), (2, .int n), (3, .int v)] []
  refine g_aload_n (pc' := 1) (j := 0) hC dX10_corrupt_0 rfl rfl rfl ?_
  refine g_iconst (pc' := 2) (v := nI 0) hC dX10_corrupt_1 rfl rfl ?_
  refine pf_X10_0 (pc' := 5) hC wF_X10_66 dX10_corrupt_2 rfl ?_
  refine g_aload_n (pc' := 6) (j := 0) hC dX10_corrupt_5 rfl rfl rfl ?_
  refine g_iload_n (pc' := 7) (j := 1) hC dX10_corrupt_6 rfl rfl rfl ?_
  refine g_iload_n (pc' := 8) (j := 2) hC dX10_corrupt_7 rfl rfl rfl ?_
  refine f_Vi (pc' := 11) (k := 15) (st := []) hC (m_isEntry x.2.1 g z0 (uv σ 15 0 (nI 0)) b n (hM0)) k_X10_isEntry wM_X10_199 (by decide) (by decide) (ct_15 g (uv σ 15 0 (nI 0))) rfl rfl rfl rfl (Nat.le_of_ble_eq_true rfl) dX10_corrupt_8 rfl (Nat.zero_le _) (Nat.zero_le _) ?_
  refine gg_topi (b := bI (mex σ b n)) (by simp (disch := decide) only [mh_uv, mh_ur, mcomp_uv, rd_uv, rd_ur, uv_cell, ur_cell, uv_idx, uv_fun, rd_idx, ne_eq, not_false_eq_true, mex]) ?_
  refine b_if_ne (pc' := 14) (tgt := 20) hC dX10_corrupt_11 (by decide) rfl (fun c11 => ?_) (fun c11 => ?_)
  · skip
    refine g_iload_n (pc' := 21) (j := 3) hC dX10_corrupt_20 rfl rfl rfl ?_
    refine g_iconst (pc' := 22) (v := nI 0) hC dX10_corrupt_21 rfl rfl ?_
    refine g_ldc (pc' := 24) (v := 999999) hC wC_X10_174 dX10_corrupt_22 rfl ?_
    refine gg_topi (b := nI 999999) rfl ?_
    refine f_Si (pc' := 27) (st := []) hC (m_in x.2.1 g z0 (uv σ 15 0 (nI 0)) v ((nI 0)) ((nI 999999))) k_X10_in wM_X10_72 (by decide) rfl rfl (Nat.le_of_ble_eq_true rfl) dX10_corrupt_24 rfl (Nat.zero_le _) (Nat.zero_le _) ?_
    refine b_if_ne (pc' := 30) (tgt := 36) hC dX10_corrupt_27 (by decide) rfl (fun c27 => ?_) (fun c27 => ?_)
    · skip
      obtain ⟨hbN, hbL, hbM, hnN, hn1, hn2, hn3⟩ := hM.en c11
      refine gg_lve (lv' := [(0, .ref (g.2.1 15)), (1, .int (nI (cn b))), (2, .int n), (3, .int v)]) (by rw [← hbN]) ?_
      refine gg_lve (lv' := [(0, .ref (g.2.1 15)), (1, .int (nI (cn b))), (2, .int (nI (cn n))), (3, .int v)]) (by rw [← hnN]) ?_
      refine g_iload_n (pc' := 37) (j := 1) hC dX10_corrupt_36 rfl rfl rfl ?_
      refine g_iload_n (pc' := 38) (j := 2) hC dX10_corrupt_37 rfl rfl rfl ?_
      refine f_Si (pc' := 41) (st := []) hC (m_at x.2.1 g z0 (uv σ 15 0 (nI 0)) ((cn b)) ((cn n)) (by omega)) k_X10_at wM_X10_86 (by decide) rfl rfl (Nat.le_of_ble_eq_true rfl) dX10_corrupt_38 rfl (Nat.zero_le _) (Nat.zero_le _) ?_
      refine g_istore (pc' := 43) (lv' := [(4, .int (nI (200 * (cn b) + (cn n) - 1))), (0, .ref (g.2.1 15)), (1, .int (nI (cn b))), (2, .int (nI (cn n))), (3, .int v)]) hC dX10_corrupt_41 rfl (by decide) rfl ?_
      refine g_aload_n (pc' := 44) (j := 1) hC dX10_corrupt_43 rfl rfl rfl ?_
      refine gf_X10_7 (pc' := 47) hC wF_X10_13 dX10_corrupt_44 rfl ?_
      refine g_iload (pc' := 49) (j := 0) hC dX10_corrupt_47 rfl rfl ?_
      refine a_ld (pc' := 50) (k := 17) (i := 200 * (cn b) + (cn n) - 1) hC (by decide) (ct_17 g (uv σ 15 0 (nI 0))) (by omega) (by decide) dX10_corrupt_49 rfl ?_
      refine gg_topi (b := σ.1 17 (200 * (cn b) + (cn n) - 1)) (uv_cell _ _ _ _ (by decide)) ?_
      refine g_iconst (pc' := 51) (v := nI 1) hC dX10_corrupt_50 rfl rfl ?_
      refine g_icmp_eq (pc' := 54) (tgt := 60) hC dX10_corrupt_51 (by decide) rfl (fun c51 => ?_) (fun c51 => ?_)
      · skip
        refine g_aload_n (pc' := 61) (j := 1) hC dX10_corrupt_60 rfl rfl rfl ?_
        refine gf_X10_10 (pc' := 64) hC wF_X10_22 dX10_corrupt_61 rfl ?_
        refine g_iload (pc' := 66) (j := 0) hC dX10_corrupt_64 rfl rfl ?_
        refine a_ld (pc' := 67) (k := 20) (i := 200 * (cn b) + (cn n) - 1) hC (by decide) (ct_20 g (uv σ 15 0 (nI 0))) (by omega) (by decide) dX10_corrupt_66 rfl ?_
        refine gg_topi (b := σ.1 20 (200 * (cn b) + (cn n) - 1)) (uv_cell _ _ _ _ (by decide)) ?_
        refine g_istore (pc' := 69) (lv' := [(5, .int (σ.1 20 (200 * (cn b) + (cn n) - 1))), (4, .int (nI (200 * (cn b) + (cn n) - 1))), (0, .ref (g.2.1 15)), (1, .int (nI (cn b))), (2, .int (nI (cn n))), (3, .int v)]) hC dX10_corrupt_67 rfl (by decide) rfl ?_
        refine g_aload_n (pc' := 70) (j := 2) hC dX10_corrupt_69 rfl rfl rfl ?_
        refine gf_X10_10 (pc' := 73) hC wF_X10_22 dX10_corrupt_70 rfl ?_
        refine g_iload (pc' := 75) (j := 1) hC dX10_corrupt_73 rfl rfl ?_
        refine g_iload_n (pc' := 76) (j := 5) hC dX10_corrupt_75 rfl rfl rfl ?_
        refine a_st (pc' := 77) (k := 20) (i := 200 * (cn b) + (cn n) - 1) hC (by decide) (fun σ9 => (ct_20 g σ9)) (by omega) (by decide) dX10_corrupt_76 rfl ?_
        refine g_iload (pc' := 79) (j := 0) hC dX10_corrupt_77 rfl rfl ?_
        refine g_ret hC dX10_corrupt_79 rfl ?_
        exact ⟨by unfold mco; rw [cI_t (c11), cI_t (c27), cI_t (c51)], by unfold mco; rw [cI_t (c11), cI_t (c27), cI_t (c51)]⟩
      · skip
        refine g_aload_n (pc' := 55) (j := 1) hC dX10_corrupt_54 rfl rfl rfl ?_
        refine g_iconst (pc' := 56) (v := nI 3) hC dX10_corrupt_55 rfl rfl ?_
        refine f_Vi (pc' := 59) (k := 15) (st := []) hC (m_refuse x.2.1 g z0 (uv σ 15 0 (nI 0)) ((nI 3))) k_X10_refuse wM_X10_171 (by decide) (by decide) (ct_15 g (uv σ 15 0 (nI 0))) rfl rfl rfl rfl (Nat.le_of_ble_eq_true rfl) dX10_corrupt_56 rfl (Nat.zero_le _) (Nat.zero_le _) ?_
        refine g_ret hC dX10_corrupt_59 rfl ?_
        exact ⟨by unfold mco; rw [cI_t (c11), cI_t (c27), cI_f (c51)], by unfold mco; rw [cI_t (c11), cI_t (c27), cI_f (c51)]⟩
    · skip
      refine g_aload_n (pc' := 31) (j := 0) hC dX10_corrupt_30 rfl rfl rfl ?_
      refine g_iconst (pc' := 32) (v := nI 2) hC dX10_corrupt_31 rfl rfl ?_
      refine f_Vi (pc' := 35) (k := 15) (st := []) hC (m_refuse x.2.1 g z0 (uv σ 15 0 (nI 0)) ((nI 2))) k_X10_refuse wM_X10_171 (by decide) (by decide) (ct_15 g (uv σ 15 0 (nI 0))) rfl rfl rfl rfl (Nat.le_of_ble_eq_true rfl) dX10_corrupt_32 rfl (Nat.zero_le _) (Nat.zero_le _) ?_
      refine g_ret hC dX10_corrupt_35 rfl ?_
      exact ⟨by unfold mco; rw [cI_t (c11), cI_f (c27)], by unfold mco; rw [cI_t (c11), cI_f (c27)]⟩
  · skip
    refine g_aload_n (pc' := 15) (j := 0) hC dX10_corrupt_14 rfl rfl rfl ?_
    refine g_iconst (pc' := 16) (v := nI 1) hC dX10_corrupt_15 rfl rfl ?_
    refine f_Vi (pc' := 19) (k := 15) (st := []) hC (m_refuse x.2.1 g z0 (uv σ 15 0 (nI 0)) ((nI 1))) k_X10_refuse wM_X10_171 (by decide) (by decide) (ct_15 g (uv σ 15 0 (nI 0))) rfl rfl rfl rfl (Nat.le_of_ble_eq_true rfl) dX10_corrupt_16 rfl (Nat.zero_le _) (Nat.zero_le _) ?_
    refine g_ret hC dX10_corrupt_19 rfl ?_
    exact ⟨by unfold mco; rw [cI_f (c11)], by unfold mco; rw [cI_f (c11)]⟩
set_option maxHeartbeats 4000000 in
set_option maxRecDepth 20000 in
theorem m_common (l : Launch) (g : Lay) (z0 : Nat) (σ : St) (ua : Nat) (ub : Nat) (hx : ua < 8) (hy : ub < 8) (hLx : nb σ 16 ua 200) (hLy : nb σ 16 ub 200)  : CTi l yX10_common cX10_common 4 (some .int) 2 g z0 [.ref (g.2.1 15), .int (nI ua), .int (nI ub)] σ (FI (nI (mcom σ ua ub)) σ) := by
  refine CTi.of (by decide) (Nat.le_of_ble_eq_true rfl) ?_
  intro x hxl hxa hC
  have hC : Cx x RX10 cX10_common 4 (some .int) 2 g z0 := hC
  have hLx2 := hLx.2
  have hLy2 := hLy.2
  show GG x g z0 4 0 0 (Qi x g z0 (FI (nI (mcom σ ua ub)) σ)) σ 0 [(0, .ref (g.2.1 15)), (1, .int (nI ua)), (2, .int (nI ub))] []
  refine g_iconst (pc' := 1) (v := nI 0) hC dX10_common_0 rfl rfl ?_
  refine g_istore_n (pc' := 2) (lv' := [(3, .int (nI 0)), (0, .ref (g.2.1 15)), (1, .int (nI ua)), (2, .int (nI ub))]) hC dX10_common_1 rfl rfl (by decide) rfl ?_
  have L2 : ∀ (fu : Nat) (n : Nat), (n ≤ rd σ 16 ua) → (∀ j, j < n → ¬ ¬ (j < rd σ 16 ua ∧ j < rd σ 16 ub ∧ mh σ ua (j + 1) = mh σ ub (j + 1))) → (rd σ 16 ua - n) < fu → GG x g z0 4 0 0 (Qi x g z0 (FI (nI (mcom σ ua ub)) σ)) σ 2 [(3, .int (nI n)), (0, .ref (g.2.1 15)), (1, .int (nI ua)), (2, .int (nI ub))] [] := by
    intro fu
    induction fu with
    | zero => intro n hn hmin hz; exact absurd hz (Nat.not_lt_zero _)
    | succ fu ih2 =>
      intro n hn hmin hf
      refine g_iload_n (pc' := 3) (j := 0) hC dX10_common_2 rfl rfl rfl ?_
      refine g_aload_n (pc' := 4) (j := 1) hC dX10_common_3 rfl rfl rfl ?_
      refine gf_X10_6 (pc' := 7) hC wF_X10_7 dX10_common_4 rfl ?_
      refine g_iload_n (pc' := 8) (j := 2) hC dX10_common_7 rfl rfl rfl ?_
      refine a_ld (pc' := 9) (k := 16) (i := ua) hC (by decide) (ct_16 g σ) (by omega) (by decide) dX10_common_8 rfl ?_
      refine gg_topi (b := nI (rd σ 16 ua)) (hLx.1) ?_
      refine n_icmp_ge (pc' := 12) (tgt := 48) hC dX10_common_9 (by decide) rfl (by omega) (by omega) (fun c9 => ?_) (fun c9 => ?_)
      · skip
        refine g_iload_n (pc' := 49) (j := 0) hC dX10_common_48 rfl rfl rfl ?_
        refine g_ret hC dX10_common_49 rfl ?_
        refine ⟨congrArg nI (lst_eq (fun z => ?_) hmin).symm, rfl⟩; first | exact c38 z.2.2 | (have := z.1; omega) | (have := z.2.1; omega)
      · skip
        refine g_iload_n (pc' := 13) (j := 0) hC dX10_common_12 rfl rfl rfl ?_
        refine g_aload_n (pc' := 14) (j := 1) hC dX10_common_13 rfl rfl rfl ?_
        refine gf_X10_6 (pc' := 17) hC wF_X10_7 dX10_common_14 rfl ?_
        refine g_iload_n (pc' := 18) (j := 3) hC dX10_common_17 rfl rfl rfl ?_
        refine a_ld (pc' := 19) (k := 16) (i := ub) hC (by decide) (ct_16 g σ) (by omega) (by decide) dX10_common_18 rfl ?_
        refine gg_topi (b := nI (rd σ 16 ub)) (hLy.1) ?_
        refine n_icmp_ge (pc' := 22) (tgt := 48) hC dX10_common_19 (by decide) rfl (by omega) (by omega) (fun c19 => ?_) (fun c19 => ?_)
        · skip
          refine g_iload_n (pc' := 49) (j := 0) hC dX10_common_48 rfl rfl rfl ?_
          refine g_ret hC dX10_common_49 rfl ?_
          refine ⟨congrArg nI (lst_eq (fun z => ?_) hmin).symm, rfl⟩; first | exact c38 z.2.2 | (have := z.1; omega) | (have := z.2.1; omega)
        · skip
          refine g_aload_n (pc' := 23) (j := 1) hC dX10_common_22 rfl rfl rfl ?_
          refine g_iload_n (pc' := 24) (j := 2) hC dX10_common_23 rfl rfl rfl ?_
          refine g_iload_n (pc' := 25) (j := 0) hC dX10_common_24 rfl rfl rfl ?_
          refine g_iconst (pc' := 26) (v := nI 1) hC dX10_common_25 rfl rfl ?_
          refine n_iadd (pc' := 27) hC dX10_common_26 rfl ?_
          refine f_Vi (pc' := 30) (k := 15) (st := []) hC (m_hashOf x.2.1 g z0 σ ua ((n + 1)) (by omega) (by omega)) k_X10_hashOf wM_X10_95 (by decide) (by decide) (ct_15 g σ) rfl rfl rfl rfl (Nat.le_of_ble_eq_true rfl) dX10_common_27 rfl (Nat.zero_le _) (Nat.zero_le _) ?_
          refine g_aload_n (pc' := 31) (j := 1) hC dX10_common_30 rfl rfl rfl ?_
          refine g_iload_n (pc' := 32) (j := 3) hC dX10_common_31 rfl rfl rfl ?_
          refine g_iload_n (pc' := 33) (j := 0) hC dX10_common_32 rfl rfl rfl ?_
          refine g_iconst (pc' := 34) (v := nI 1) hC dX10_common_33 rfl rfl ?_
          refine n_iadd (pc' := 35) hC dX10_common_34 rfl ?_
          refine f_Vi (pc' := 38) (k := 15) (st := [.int (mh σ ua (n + 1))]) hC (m_hashOf x.2.1 g z0 σ ub ((n + 1)) (by omega) (by omega)) k_X10_hashOf wM_X10_95 (by decide) (by decide) (ct_15 g σ) rfl rfl rfl rfl (Nat.le_of_ble_eq_true rfl) dX10_common_35 rfl (Nat.zero_le _) (Nat.zero_le _) ?_
          refine g_icmp_ne (pc' := 41) (tgt := 48) hC dX10_common_38 (by decide) rfl (fun c38 => ?_) (fun c38 => ?_)
          · skip
            refine g_iload_n (pc' := 49) (j := 0) hC dX10_common_48 rfl rfl rfl ?_
            refine g_ret hC dX10_common_49 rfl ?_
            refine ⟨congrArg nI (lst_eq (fun z => ?_) hmin).symm, rfl⟩; first | exact c38 z.2.2 | (have := z.1; omega) | (have := z.2.1; omega)
          · skip
            refine g_iload_n (pc' := 42) (j := 0) hC dX10_common_41 rfl rfl rfl ?_
            refine g_iconst (pc' := 43) (v := nI 1) hC dX10_common_42 rfl rfl ?_
            refine n_iadd (pc' := 44) hC dX10_common_43 rfl ?_
            refine g_istore_n (pc' := 45) (lv' := [(3, .int (nI (n + 1))), (0, .ref (g.2.1 15)), (1, .int (nI ua)), (2, .int (nI ub))]) hC dX10_common_44 rfl rfl (by decide) rfl ?_
            refine g_goto (tgt := 2) hC dX10_common_45 (by decide) ?_
            refine gg_lv (lv' := [(3, .int (nI (n + 1))), (0, .ref (g.2.1 15)), (1, .int (nI ua)), (2, .int (nI ub))]) ?_ [0, 1, 2, 3] rfl
            exact ih2 (n + 1) (by omega) (lt_s hmin (fun z => z ⟨by omega, by omega, c38⟩)) (by omega)
  refine gg_lv (lv' := [(3, .int (nI 0)), (0, .ref (g.2.1 15)), (1, .int (nI ua)), (2, .int (nI ub))]) ?_ [0, 1, 2, 3] rfl
  exact L2 (rd σ 16 ua - 0 + 1) 0 (by omega) (lt_0) (by omega)
set_option maxHeartbeats 4000000 in
set_option maxRecDepth 20000 in
theorem m_touched (l : Launch) (g : Lay) (z0 : Nat) (σ : St) (b : Nat) (lo : Nat) (wa : Int32) (hb : b < 8) (hlo : lo ≤ rd σ 16 b) (hL : nb σ 16 b 200)  : CTi l yX10_touched cX10_touched 8 (some .int) 1 g z0 [.ref (g.2.1 15), .int (nI b), .int (nI lo), .int wa] σ (FI (mts σ b lo wa (rd σ 16 b - lo)) σ) := by
  refine CTi.of (by decide) (Nat.le_of_ble_eq_true rfl) ?_
  intro x hxl hxa hC
  have hC : Cx x RX10 cX10_touched 8 (some .int) 1 g z0 := hC
  have hL2 := hL.2
  show GG x g z0 8 0 0 (Qi x g z0 (FI (mts σ b lo wa (rd σ 16 b - lo)) σ)) σ 0 [(0, .ref (g.2.1 15)), (1, .int (nI b)), (2, .int (nI lo)), (3, .int wa)] []
  refine g_iconst (pc' := 1) (v := nI 0) hC dX10_touched_0 rfl rfl ?_
  refine g_istore (pc' := 3) (lv' := [(4, .int (nI 0)), (0, .ref (g.2.1 15)), (1, .int (nI b)), (2, .int (nI lo)), (3, .int wa)]) hC dX10_touched_1 rfl (by decide) rfl ?_
  refine g_iload_n (pc' := 4) (j := 3) hC dX10_touched_3 rfl rfl rfl ?_
  refine g_iconst (pc' := 5) (v := nI 1) hC dX10_touched_4 rfl rfl ?_
  refine n_iadd (pc' := 6) hC dX10_touched_5 rfl ?_
  refine g_istore (pc' := 8) (lv' := [(5, .int (nI (lo + 1))), (4, .int (nI 0)), (0, .ref (g.2.1 15)), (1, .int (nI b)), (2, .int (nI lo)), (3, .int wa)]) hC dX10_touched_6 rfl (by decide) rfl ?_
  have L8 : ∀ (fu : Nat) (i : Nat), (i ≤ rd σ 16 b - lo) → (rd σ 16 b - lo - i) < fu → GG x g z0 8 0 0 (Qi x g z0 (FI (mts σ b lo wa (rd σ 16 b - lo)) σ)) σ 8 [(5, .int (nI (lo + 1 + i))), (4, .int (mts σ b lo wa i)), (0, .ref (g.2.1 15)), (1, .int (nI b)), (2, .int (nI lo)), (3, .int wa)] [] := by
    intro fu
    induction fu with
    | zero => intro i hi hz; exact absurd hz (Nat.not_lt_zero _)
    | succ fu ih8 =>
      intro i hi hf
      refine g_iload (pc' := 10) (j := 0) hC dX10_touched_8 rfl rfl ?_
      refine g_aload_n (pc' := 11) (j := 2) hC dX10_touched_10 rfl rfl rfl ?_
      refine gf_X10_6 (pc' := 14) hC wF_X10_7 dX10_touched_11 rfl ?_
      refine g_iload_n (pc' := 15) (j := 3) hC dX10_touched_14 rfl rfl rfl ?_
      refine a_ld (pc' := 16) (k := 16) (i := b) hC (by decide) (ct_16 g σ) (by omega) (by decide) dX10_touched_15 rfl ?_
      refine gg_topi (b := nI (rd σ 16 b)) (hL.1) ?_
      refine n_icmp_gt (pc' := 19) (tgt := 89) hC dX10_touched_16 (by decide) rfl (by omega) (by omega) (fun c16 => ?_) (fun c16 => ?_)
      · skip
        refine g_iload (pc' := 91) (j := 1) hC dX10_touched_89 rfl rfl ?_
        refine g_ret hC dX10_touched_91 rfl ?_
        exact ⟨by rw [show rd σ 16 b - lo = i by omega], rfl⟩
      · skip
        have e17 : σ.1 17 (200 * b + (lo + 1 + i) - 1) = σ.1 17 (200 * b + (lo + i)) := congrArg _ (by omega)
        have e19 : σ.1 19 (200 * b + (lo + 1 + i) - 1) = σ.1 19 (200 * b + (lo + i)) := congrArg _ (by omega)
        refine g_iload_n (pc' := 20) (j := 3) hC dX10_touched_19 rfl rfl rfl ?_
        refine g_iload (pc' := 22) (j := 0) hC dX10_touched_20 rfl rfl ?_
        refine f_Si (pc' := 25) (st := []) hC (m_at x.2.1 g z0 σ b ((lo + 1 + i)) (by omega)) k_X10_at wM_X10_86 (by decide) rfl rfl (Nat.le_of_ble_eq_true rfl) dX10_touched_22 rfl (Nat.zero_le _) (Nat.zero_le _) ?_
        refine g_istore (pc' := 27) (lv' := [(6, .int (nI (200 * b + (lo + 1 + i) - 1))), (5, .int (nI (lo + 1 + i))), (4, .int (mts σ b lo wa i)), (0, .ref (g.2.1 15)), (1, .int (nI b)), (2, .int (nI lo)), (3, .int wa)]) hC dX10_touched_25 rfl (by decide) rfl ?_
        refine g_aload_n (pc' := 28) (j := 3) hC dX10_touched_27 rfl rfl rfl ?_
        refine gf_X10_7 (pc' := 31) hC wF_X10_13 dX10_touched_28 rfl ?_
        refine g_iload (pc' := 33) (j := 0) hC dX10_touched_31 rfl rfl ?_
        refine a_ld (pc' := 34) (k := 17) (i := 200 * b + (lo + 1 + i) - 1) hC (by decide) (ct_17 g σ) (by omega) (by decide) dX10_touched_33 rfl ?_
        refine g_iconst (pc' := 35) (v := nI 1) hC dX10_touched_34 rfl rfl ?_
        refine g_icmp_eq (pc' := 38) (tgt := 52) hC dX10_touched_35 (by decide) rfl (fun c35 => ?_) (fun c35 => ?_)
        · skip
          refine g_iconst (pc' := 53) (v := nI 1) hC dX10_touched_52 rfl rfl ?_
          refine g_goto (tgt := 57) hC dX10_touched_53 (by decide) ?_
          refine g_istore (pc' := 59) (lv' := [(7, .int (nI 1)), (6, .int (nI (200 * b + (lo + 1 + i) - 1))), (5, .int (nI (lo + 1 + i))), (4, .int (mts σ b lo wa i)), (0, .ref (g.2.1 15)), (1, .int (nI b)), (2, .int (nI lo)), (3, .int wa)]) hC dX10_touched_57 rfl (by decide) rfl ?_
          refine g_iload (pc' := 61) (j := 0) hC dX10_touched_59 rfl rfl ?_
          refine n_if_eq (pc' := 64) (tgt := 79) hC dX10_touched_61 (by decide) rfl (by omega) (fun c61 => ?_) (fun c61 => ?_)
          · skip
            first | exact absurd c61 (by decide) | exact c61.elim
          · skip
            refine g_iload (pc' := 66) (j := 3) hC dX10_touched_64 rfl rfl ?_
            refine g_iconst (pc' := 67) (v := nI 1) hC dX10_touched_66 rfl rfl ?_
            refine g_aload_n (pc' := 68) (j := 4) hC dX10_touched_67 rfl rfl rfl ?_
            refine gf_X10_9 (pc' := 71) hC wF_X10_19 dX10_touched_68 rfl ?_
            refine g_iload (pc' := 73) (j := 1) hC dX10_touched_71 rfl rfl ?_
            refine a_ld (pc' := 74) (k := 19) (i := 200 * b + (lo + 1 + i) - 1) hC (by decide) (ct_19 g σ) (by omega) (by decide) dX10_touched_73 rfl ?_
            refine g_ishl (pc' := 75) hC dX10_touched_74 rfl ?_
            refine g_ior (pc' := 76) hC dX10_touched_75 rfl ?_
            refine g_goto (tgt := 81) hC dX10_touched_76 (by decide) ?_
            refine g_istore (pc' := 83) (lv' := [(4, .int ((mts σ b lo wa i) ||| ((nI 1) <<< ((σ.1 19 (200 * b + (lo + 1 + i) - 1)) &&& 31)))), (7, .int (nI 1)), (6, .int (nI (200 * b + (lo + 1 + i) - 1))), (5, .int (nI (lo + 1 + i))), (0, .ref (g.2.1 15)), (1, .int (nI b)), (2, .int (nI lo)), (3, .int wa)]) hC dX10_touched_81 rfl (by decide) rfl ?_
            refine g_iinc (pc' := 86) (j := 3) (u := nI (lo + 1 + i + 1)) (lv' := [(5, .int (nI (lo + 1 + i + 1))), (4, .int ((mts σ b lo wa i) ||| ((nI 1) <<< ((σ.1 19 (200 * b + (lo + 1 + i) - 1)) &&& 31)))), (7, .int (nI 1)), (6, .int (nI (200 * b + (lo + 1 + i) - 1))), (0, .ref (g.2.1 15)), (1, .int (nI b)), (2, .int (nI lo)), (3, .int wa)]) hC dX10_touched_83 rfl rfl (nI_add (lo + 1 + i) 1) (by decide) rfl ?_
            refine g_goto (tgt := 8) hC dX10_touched_86 (by decide) ?_
            refine gg_lv (lv' := [(5, .int (nI (lo + 1 + i + 1))), (4, .int ((mts σ b lo wa i) ||| ((nI 1) <<< ((σ.1 19 (200 * b + (lo + 1 + i) - 1)) &&& 31)))), (0, .ref (g.2.1 15)), (1, .int (nI b)), (2, .int (nI lo)), (3, .int wa)]) ?_ [0, 1, 4, 5, 6, 7] rfl
            refine gg_lve (lv' := [(5, .int (nI (lo + 1 + (i + 1)))), (4, .int (mts σ b lo wa (i + 1))), (0, .ref (g.2.1 15)), (1, .int (nI b)), (2, .int (nI lo)), (3, .int wa)]) (by first | rw [show mts σ b lo wa (i + 1) = _ from (bset_t (by first | exact Or.inl (e17 ▸ c35) | exact Or.inr ⟨e17 ▸ c45, c49⟩)).symm, ← e19]; rfl | rw [show mts σ b lo wa (i + 1) = mts σ b lo wa i from (bset_f (by rw [← e17]; simp_all)).symm]; rfl) ?_
            exact ih8 (i + 1) (by omega) (by omega)
        · skip
          refine g_aload_n (pc' := 39) (j := 3) hC dX10_touched_38 rfl rfl rfl ?_
          refine gf_X10_7 (pc' := 42) hC wF_X10_13 dX10_touched_39 rfl ?_
          refine g_iload (pc' := 44) (j := 0) hC dX10_touched_42 rfl rfl ?_
          refine a_ld (pc' := 45) (k := 17) (i := 200 * b + (lo + 1 + i) - 1) hC (by decide) (ct_17 g σ) (by omega) (by decide) dX10_touched_44 rfl ?_
          refine g_if_ne (pc' := 48) (tgt := 56) hC dX10_touched_45 (by decide) rfl (fun c45 => ?_) (fun c45 => ?_)
          · skip
            refine g_iconst (pc' := 57) (v := nI 0) hC dX10_touched_56 rfl rfl ?_
            refine g_istore (pc' := 59) (lv' := [(7, .int (nI 0)), (6, .int (nI (200 * b + (lo + 1 + i) - 1))), (5, .int (nI (lo + 1 + i))), (4, .int (mts σ b lo wa i)), (0, .ref (g.2.1 15)), (1, .int (nI b)), (2, .int (nI lo)), (3, .int wa)]) hC dX10_touched_57 rfl (by decide) rfl ?_
            refine g_iload (pc' := 61) (j := 0) hC dX10_touched_59 rfl rfl ?_
            refine n_if_eq (pc' := 64) (tgt := 79) hC dX10_touched_61 (by decide) rfl (by omega) (fun c61 => ?_) (fun c61 => ?_)
            · skip
              refine g_iload (pc' := 81) (j := 3) hC dX10_touched_79 rfl rfl ?_
              refine g_istore (pc' := 83) (lv' := [(4, .int (mts σ b lo wa i)), (7, .int (nI 0)), (6, .int (nI (200 * b + (lo + 1 + i) - 1))), (5, .int (nI (lo + 1 + i))), (0, .ref (g.2.1 15)), (1, .int (nI b)), (2, .int (nI lo)), (3, .int wa)]) hC dX10_touched_81 rfl (by decide) rfl ?_
              refine g_iinc (pc' := 86) (j := 3) (u := nI (lo + 1 + i + 1)) (lv' := [(5, .int (nI (lo + 1 + i + 1))), (4, .int (mts σ b lo wa i)), (7, .int (nI 0)), (6, .int (nI (200 * b + (lo + 1 + i) - 1))), (0, .ref (g.2.1 15)), (1, .int (nI b)), (2, .int (nI lo)), (3, .int wa)]) hC dX10_touched_83 rfl rfl (nI_add (lo + 1 + i) 1) (by decide) rfl ?_
              refine g_goto (tgt := 8) hC dX10_touched_86 (by decide) ?_
              refine gg_lv (lv' := [(5, .int (nI (lo + 1 + i + 1))), (4, .int (mts σ b lo wa i)), (0, .ref (g.2.1 15)), (1, .int (nI b)), (2, .int (nI lo)), (3, .int wa)]) ?_ [0, 1, 4, 5, 6, 7] rfl
              refine gg_lve (lv' := [(5, .int (nI (lo + 1 + (i + 1)))), (4, .int (mts σ b lo wa (i + 1))), (0, .ref (g.2.1 15)), (1, .int (nI b)), (2, .int (nI lo)), (3, .int wa)]) (by first | rw [show mts σ b lo wa (i + 1) = _ from (bset_t (by first | exact Or.inl (e17 ▸ c35) | exact Or.inr ⟨e17 ▸ c45, c49⟩)).symm, ← e19]; rfl | rw [show mts σ b lo wa (i + 1) = mts σ b lo wa i from (bset_f (by rw [← e17]; simp_all)).symm]; rfl) ?_
              exact ih8 (i + 1) (by omega) (by omega)
            · skip
              first | exact absurd c61 (by decide) | exact c61.elim
          · skip
            refine g_iload_n (pc' := 49) (j := 6) hC dX10_touched_48 rfl rfl rfl ?_
            refine g_if_ne (pc' := 52) (tgt := 56) hC dX10_touched_49 (by decide) rfl (fun c49 => ?_) (fun c49 => ?_)
            · skip
              refine g_iconst (pc' := 57) (v := nI 0) hC dX10_touched_56 rfl rfl ?_
              refine g_istore (pc' := 59) (lv' := [(7, .int (nI 0)), (6, .int (nI (200 * b + (lo + 1 + i) - 1))), (5, .int (nI (lo + 1 + i))), (4, .int (mts σ b lo wa i)), (0, .ref (g.2.1 15)), (1, .int (nI b)), (2, .int (nI lo)), (3, .int wa)]) hC dX10_touched_57 rfl (by decide) rfl ?_
              refine g_iload (pc' := 61) (j := 0) hC dX10_touched_59 rfl rfl ?_
              refine n_if_eq (pc' := 64) (tgt := 79) hC dX10_touched_61 (by decide) rfl (by omega) (fun c61 => ?_) (fun c61 => ?_)
              · skip
                refine g_iload (pc' := 81) (j := 3) hC dX10_touched_79 rfl rfl ?_
                refine g_istore (pc' := 83) (lv' := [(4, .int (mts σ b lo wa i)), (7, .int (nI 0)), (6, .int (nI (200 * b + (lo + 1 + i) - 1))), (5, .int (nI (lo + 1 + i))), (0, .ref (g.2.1 15)), (1, .int (nI b)), (2, .int (nI lo)), (3, .int wa)]) hC dX10_touched_81 rfl (by decide) rfl ?_
                refine g_iinc (pc' := 86) (j := 3) (u := nI (lo + 1 + i + 1)) (lv' := [(5, .int (nI (lo + 1 + i + 1))), (4, .int (mts σ b lo wa i)), (7, .int (nI 0)), (6, .int (nI (200 * b + (lo + 1 + i) - 1))), (0, .ref (g.2.1 15)), (1, .int (nI b)), (2, .int (nI lo)), (3, .int wa)]) hC dX10_touched_83 rfl rfl (nI_add (lo + 1 + i) 1) (by decide) rfl ?_
                refine g_goto (tgt := 8) hC dX10_touched_86 (by decide) ?_
                refine gg_lv (lv' := [(5, .int (nI (lo + 1 + i + 1))), (4, .int (mts σ b lo wa i)), (0, .ref (g.2.1 15)), (1, .int (nI b)), (2, .int (nI lo)), (3, .int wa)]) ?_ [0, 1, 4, 5, 6, 7] rfl
                refine gg_lve (lv' := [(5, .int (nI (lo + 1 + (i + 1)))), (4, .int (mts σ b lo wa (i + 1))), (0, .ref (g.2.1 15)), (1, .int (nI b)), (2, .int (nI lo)), (3, .int wa)]) (by first | rw [show mts σ b lo wa (i + 1) = _ from (bset_t (by first | exact Or.inl (e17 ▸ c35) | exact Or.inr ⟨e17 ▸ c45, c49⟩)).symm, ← e19]; rfl | rw [show mts σ b lo wa (i + 1) = mts σ b lo wa i from (bset_f (by rw [← e17]; simp_all)).symm]; rfl) ?_
                exact ih8 (i + 1) (by omega) (by omega)
              · skip
                first | exact absurd c61 (by decide) | exact c61.elim
            · skip
              refine g_iconst (pc' := 53) (v := nI 1) hC dX10_touched_52 rfl rfl ?_
              refine g_goto (tgt := 57) hC dX10_touched_53 (by decide) ?_
              refine g_istore (pc' := 59) (lv' := [(7, .int (nI 1)), (6, .int (nI (200 * b + (lo + 1 + i) - 1))), (5, .int (nI (lo + 1 + i))), (4, .int (mts σ b lo wa i)), (0, .ref (g.2.1 15)), (1, .int (nI b)), (2, .int (nI lo)), (3, .int wa)]) hC dX10_touched_57 rfl (by decide) rfl ?_
              refine g_iload (pc' := 61) (j := 0) hC dX10_touched_59 rfl rfl ?_
              refine n_if_eq (pc' := 64) (tgt := 79) hC dX10_touched_61 (by decide) rfl (by omega) (fun c61 => ?_) (fun c61 => ?_)
              · skip
                first | exact absurd c61 (by decide) | exact c61.elim
              · skip
                refine g_iload (pc' := 66) (j := 3) hC dX10_touched_64 rfl rfl ?_
                refine g_iconst (pc' := 67) (v := nI 1) hC dX10_touched_66 rfl rfl ?_
                refine g_aload_n (pc' := 68) (j := 4) hC dX10_touched_67 rfl rfl rfl ?_
                refine gf_X10_9 (pc' := 71) hC wF_X10_19 dX10_touched_68 rfl ?_
                refine g_iload (pc' := 73) (j := 1) hC dX10_touched_71 rfl rfl ?_
                refine a_ld (pc' := 74) (k := 19) (i := 200 * b + (lo + 1 + i) - 1) hC (by decide) (ct_19 g σ) (by omega) (by decide) dX10_touched_73 rfl ?_
                refine g_ishl (pc' := 75) hC dX10_touched_74 rfl ?_
                refine g_ior (pc' := 76) hC dX10_touched_75 rfl ?_
                refine g_goto (tgt := 81) hC dX10_touched_76 (by decide) ?_
                refine g_istore (pc' := 83) (lv' := [(4, .int ((mts σ b lo wa i) ||| ((nI 1) <<< ((σ.1 19 (200 * b + (lo + 1 + i) - 1)) &&& 31)))), (7, .int (nI 1)), (6, .int (nI (200 * b + (lo + 1 + i) - 1))), (5, .int (nI (lo + 1 + i))), (0, .ref (g.2.1 15)), (1, .int (nI b)), (2, .int (nI lo)), (3, .int wa)]) hC dX10_touched_81 rfl (by decide) rfl ?_
                refine g_iinc (pc' := 86) (j := 3) (u := nI (lo + 1 + i + 1)) (lv' := [(5, .int (nI (lo + 1 + i + 1))), (4, .int ((mts σ b lo wa i) ||| ((nI 1) <<< ((σ.1 19 (200 * b + (lo + 1 + i) - 1)) &&& 31)))), (7, .int (nI 1)), (6, .int (nI (200 * b + (lo + 1 + i) - 1))), (0, .ref (g.2.1 15)), (1, .int (nI b)), (2, .int (nI lo)), (3, .int wa)]) hC dX10_touched_83 rfl rfl (nI_add (lo + 1 + i) 1) (by decide) rfl ?_
                refine g_goto (tgt := 8) hC dX10_touched_86 (by decide) ?_
                refine gg_lv (lv' := [(5, .int (nI (lo + 1 + i + 1))), (4, .int ((mts σ b lo wa i) ||| ((nI 1) <<< ((σ.1 19 (200 * b + (lo + 1 + i) - 1)) &&& 31)))), (0, .ref (g.2.1 15)), (1, .int (nI b)), (2, .int (nI lo)), (3, .int wa)]) ?_ [0, 1, 4, 5, 6, 7] rfl
                refine gg_lve (lv' := [(5, .int (nI (lo + 1 + (i + 1)))), (4, .int (mts σ b lo wa (i + 1))), (0, .ref (g.2.1 15)), (1, .int (nI b)), (2, .int (nI lo)), (3, .int wa)]) (by first | rw [show mts σ b lo wa (i + 1) = _ from (bset_t (by first | exact Or.inl (e17 ▸ c35) | exact Or.inr ⟨e17 ▸ c45, c49⟩)).symm, ← e19]; rfl | rw [show mts σ b lo wa (i + 1) = mts σ b lo wa i from (bset_f (by rw [← e17]; simp_all)).symm]; rfl) ?_
                exact ih8 (i + 1) (by omega) (by omega)
  refine gg_lv (lv' := [(5, .int (nI (lo + 1))), (4, .int (nI 0)), (0, .ref (g.2.1 15)), (1, .int (nI b)), (2, .int (nI lo)), (3, .int wa)]) ?_ [0, 1, 2, 3, 4, 5] rfl
  exact L8 (rd σ 16 b - lo - 0 + 1) 0 (by omega) (by omega)
set_option maxHeartbeats 4000000 in
set_option maxRecDepth 20000 in
theorem m_conflictsOf (l : Launch) (g : Lay) (z0 : Nat) (σ : St) (ua : Nat) (ub : Nat) (hx : ua < 8) (hy : ub < 8) (hLx : nb σ 16 ua 200) (hLy : nb σ 16 ub 200)  : CTi l yX10_conflictsOf cX10_conflictsOf 4 (some .int) 3 g z0 [.ref (g.2.1 15), .int (nI ua), .int (nI ub)] σ (FI (mcf σ ua ub) σ) := by
  refine CTi.of (by decide) (Nat.le_of_ble_eq_true rfl) ?_
  intro x hxl hxa hC
  have hC : Cx x RX10 cX10_conflictsOf 4 (some .int) 3 g z0 := hC
  have hLx2 := hLx.2
  have hLy2 := hLy.2
  have hcm := mcom_le σ ua ub
  show GG x g z0 4 0 0 (Qi x g z0 (FI (mcf σ ua ub) σ)) σ 0 [(0, .ref (g.2.1 15)), (1, .int (nI ua)), (2, .int (nI ub))] []
  refine g_aload_n (pc' := 1) (j := 0) hC dX10_conflictsOf_0 rfl rfl rfl ?_
  refine g_iload_n (pc' := 2) (j := 1) hC dX10_conflictsOf_1 rfl rfl rfl ?_
  refine g_iload_n (pc' := 3) (j := 2) hC dX10_conflictsOf_2 rfl rfl rfl ?_
  refine f_Vi (pc' := 6) (k := 15) (st := []) hC (m_common x.2.1 g z0 σ ua ub (by omega) (by omega) (by first | exact hLx | (simp (disch := decide) only [nb, rd_uv, rd_ur, uv_cell, ur_cell]; exact hLx) | omega) (by first | exact hLy | (simp (disch := decide) only [nb, rd_uv, rd_ur, uv_cell, ur_cell]; exact hLy) | omega)) k_X10_common wM_X10_202 (by decide) (by decide) (ct_15 g σ) rfl rfl rfl rfl (Nat.le_of_ble_eq_true rfl) dX10_conflictsOf_3 rfl (Nat.zero_le _) (Nat.zero_le _) ?_
  refine g_istore_n (pc' := 7) (lv' := [(3, .int (nI (mcom σ ua ub))), (0, .ref (g.2.1 15)), (1, .int (nI ua)), (2, .int (nI ub))]) hC dX10_conflictsOf_6 rfl rfl (by decide) rfl ?_
  refine g_aload_n (pc' := 8) (j := 1) hC dX10_conflictsOf_7 rfl rfl rfl ?_
  refine g_iload_n (pc' := 9) (j := 2) hC dX10_conflictsOf_8 rfl rfl rfl ?_
  refine g_iload_n (pc' := 10) (j := 0) hC dX10_conflictsOf_9 rfl rfl rfl ?_
  refine g_iconst (pc' := 11) (v := nI 1) hC dX10_conflictsOf_10 rfl rfl ?_
  refine f_Vi (pc' := 14) (k := 15) (st := []) hC (m_touched x.2.1 g z0 σ ua ((mcom σ ua ub)) ((nI 1)) (by omega) (by first | exact hlo | (simp (disch := decide) only [nb, rd_uv, rd_ur, uv_cell, ur_cell]; exact hlo) | omega) (hLx)) k_X10_touched wM_X10_205 (by decide) (by decide) (ct_15 g σ) rfl rfl rfl rfl (Nat.le_of_ble_eq_true rfl) dX10_conflictsOf_11 rfl (Nat.zero_le _) (Nat.zero_le _) ?_
  refine g_aload_n (pc' := 15) (j := 1) hC dX10_conflictsOf_14 rfl rfl rfl ?_
  refine g_iload_n (pc' := 16) (j := 3) hC dX10_conflictsOf_15 rfl rfl rfl ?_
  refine g_iload_n (pc' := 17) (j := 0) hC dX10_conflictsOf_16 rfl rfl rfl ?_
  refine g_iconst (pc' := 18) (v := nI 0) hC dX10_conflictsOf_17 rfl rfl ?_
  refine f_Vi (pc' := 21) (k := 15) (st := [.int (mts σ ua (mcom σ ua ub) (nI 1) (rd σ 16 ua - (mcom σ ua ub)))]) hC (m_touched x.2.1 g z0 σ ub ((mcom σ ua ub)) ((nI 0)) (by omega) (by first | exact hlo | (simp (disch := decide) only [nb, rd_uv, rd_ur, uv_cell, ur_cell]; exact hlo) | omega) (hLy)) k_X10_touched wM_X10_205 (by decide) (by decide) (ct_15 g σ) rfl rfl rfl rfl (Nat.le_of_ble_eq_true rfl) dX10_conflictsOf_18 rfl (Nat.zero_le _) (Nat.zero_le _) ?_
  refine g_iand (pc' := 22) hC dX10_conflictsOf_21 rfl ?_
  refine g_aload_n (pc' := 23) (j := 1) hC dX10_conflictsOf_22 rfl rfl rfl ?_
  refine g_iload_n (pc' := 24) (j := 3) hC dX10_conflictsOf_23 rfl rfl rfl ?_
  refine g_iload_n (pc' := 25) (j := 0) hC dX10_conflictsOf_24 rfl rfl rfl ?_
  refine g_iconst (pc' := 26) (v := nI 1) hC dX10_conflictsOf_25 rfl rfl ?_
  refine f_Vi (pc' := 29) (k := 15) (st := [.int ((mts σ ua (mcom σ ua ub) (nI 1) (rd σ 16 ua - (mcom σ ua ub))) &&& (mts σ ub (mcom σ ua ub) (nI 0) (rd σ 16 ub - (mcom σ ua ub))))]) hC (m_touched x.2.1 g z0 σ ub ((mcom σ ua ub)) ((nI 1)) (by omega) (by first | exact hlo | (simp (disch := decide) only [nb, rd_uv, rd_ur, uv_cell, ur_cell]; exact hlo) | omega) (hLy)) k_X10_touched wM_X10_205 (by decide) (by decide) (ct_15 g σ) rfl rfl rfl rfl (Nat.le_of_ble_eq_true rfl) dX10_conflictsOf_26 rfl (Nat.zero_le _) (Nat.zero_le _) ?_
  refine g_aload_n (pc' := 30) (j := 1) hC dX10_conflictsOf_29 rfl rfl rfl ?_
  refine g_iload_n (pc' := 31) (j := 2) hC dX10_conflictsOf_30 rfl rfl rfl ?_
  refine g_iload_n (pc' := 32) (j := 0) hC dX10_conflictsOf_31 rfl rfl rfl ?_
  refine g_iconst (pc' := 33) (v := nI 0) hC dX10_conflictsOf_32 rfl rfl ?_
  refine f_Vi (pc' := 36) (k := 15) (st := [.int (mts σ ub (mcom σ ua ub) (nI 1) (rd σ 16 ub - (mcom σ ua ub))), .int ((mts σ ua (mcom σ ua ub) (nI 1) (rd σ 16 ua - (mcom σ ua ub))) &&& (mts σ ub (mcom σ ua ub) (nI 0) (rd σ 16 ub - (mcom σ ua ub))))]) hC (m_touched x.2.1 g z0 σ ua ((mcom σ ua ub)) ((nI 0)) (by omega) (by first | exact hlo | (simp (disch := decide) only [nb, rd_uv, rd_ur, uv_cell, ur_cell]; exact hlo) | omega) (hLx)) k_X10_touched wM_X10_205 (by decide) (by decide) (ct_15 g σ) rfl rfl rfl rfl (Nat.le_of_ble_eq_true rfl) dX10_conflictsOf_33 rfl (Nat.zero_le _) (Nat.zero_le _) ?_
  refine g_iand (pc' := 37) hC dX10_conflictsOf_36 rfl ?_
  refine g_ior (pc' := 38) hC dX10_conflictsOf_37 rfl ?_
  refine g_ret hC dX10_conflictsOf_38 rfl ?_
  exact ⟨rfl, rfl⟩
set_option maxHeartbeats 4000000 in
set_option maxRecDepth 20000 in
theorem m_goesWith (l : Launch) (g : Lay) (z0 : Nat) (σ : St) (c : Nat) (hc : c < 6) (hM : MI σ)  : CTi l yX10_goesWith cX10_goesWith 4 (some .boolean) 2 g z0 [.ref (g.2.1 15), .int (nI c)] σ (FI (bI (mgw σ c)) σ) := by
  refine CTi.of (by decide) (Nat.le_of_ble_eq_true rfl) ?_
  intro x hxl hxa hC
  have hC : Cx x RX10 cX10_goesWith 4 (some .boolean) 2 g z0 := hC
  have hs := hM.see hc
  have hs2 := hs.2
  have hp := hM.pos hc
  have hp2 := hp.2
  have hl := hM.len (b := rd σ 23 c) (by omega)
  have hl2 := hl.2
  have hN := hM.posts
  have hN2 := hN.2
  show GG x g z0 4 0 0 (Qi x g z0 (FI (bI (mgw σ c)) σ)) σ 0 [(0, .ref (g.2.1 15)), (1, .int (nI c))] []
  refine g_aload_n (pc' := 1) (j := 0) hC dX10_goesWith_0 rfl rfl rfl ?_
  refine gf_X10_13 (pc' := 4) hC wF_X10_31 dX10_goesWith_1 rfl ?_
  refine g_iload_n (pc' := 5) (j := 1) hC dX10_goesWith_4 rfl rfl rfl ?_
  refine a_ld (pc' := 6) (k := 23) (i := c) hC (by decide) (ct_23 g σ) (by omega) (by decide) dX10_goesWith_5 rfl ?_
  refine gg_topi (b := nI (rd σ 23 c)) (hs.1) ?_
  refine g_istore_n (pc' := 7) (lv' := [(2, .int (nI (rd σ 23 c))), (0, .ref (g.2.1 15)), (1, .int (nI c))]) hC dX10_goesWith_6 rfl rfl (by decide) rfl ?_
  refine g_aload_n (pc' := 8) (j := 1) hC dX10_goesWith_7 rfl rfl rfl ?_
  refine gf_X10_14 (pc' := 11) hC wF_X10_34 dX10_goesWith_8 rfl ?_
  refine g_iload_n (pc' := 12) (j := 2) hC dX10_goesWith_11 rfl rfl rfl ?_
  refine a_ld (pc' := 13) (k := 24) (i := c) hC (by decide) (ct_24 g σ) (by omega) (by decide) dX10_goesWith_12 rfl ?_
  refine gg_topi (b := nI (rd σ 24 c)) (hp.1) ?_
  refine g_istore_n (pc' := 14) (lv' := [(3, .int (nI (rd σ 24 c))), (2, .int (nI (rd σ 23 c))), (0, .ref (g.2.1 15)), (1, .int (nI c))]) hC dX10_goesWith_13 rfl rfl (by decide) rfl ?_
  refine g_aload_n (pc' := 15) (j := 2) hC dX10_goesWith_14 rfl rfl rfl ?_
  refine gf_X10_6 (pc' := 18) hC wF_X10_7 dX10_goesWith_15 rfl ?_
  refine g_iload_n (pc' := 19) (j := 1) hC dX10_goesWith_18 rfl rfl rfl ?_
  refine a_ld (pc' := 20) (k := 16) (i := rd σ 23 c) hC (by decide) (ct_16 g σ) (by omega) (by decide) dX10_goesWith_19 rfl ?_
  refine gg_topi (b := nI (rd σ 16 (rd σ 23 c))) (hl.1) ?_
  refine g_iload_n (pc' := 21) (j := 0) hC dX10_goesWith_20 rfl rfl rfl ?_
  refine n_icmp_lt (pc' := 24) (tgt := 42) hC dX10_goesWith_21 (by decide) rfl (by omega) (by omega) (fun c21 => ?_) (fun c21 => ?_)
  · skip
    refine g_iconst (pc' := 43) (v := nI 0) hC dX10_goesWith_42 rfl rfl ?_
    refine g_ret hC dX10_goesWith_43 rfl ?_
    refine ⟨?_, rfl⟩; first | exact (bI_t ⟨c21, c35⟩).symm | exact (bI_f (fun z => c35 z.2)).symm | exact (bI_f (fun z => absurd z.1 (by omega))).symm
  · skip
    refine g_aload_n (pc' := 25) (j := 2) hC dX10_goesWith_24 rfl rfl rfl ?_
    refine g_iload_n (pc' := 26) (j := 1) hC dX10_goesWith_25 rfl rfl rfl ?_
    refine g_iload_n (pc' := 27) (j := 0) hC dX10_goesWith_26 rfl rfl rfl ?_
    refine f_Vi (pc' := 30) (k := 15) (st := []) hC (m_hashOf x.2.1 g z0 σ ((rd σ 23 c)) ((rd σ 24 c)) (by omega) (by omega)) k_X10_hashOf wM_X10_95 (by decide) (by decide) (ct_15 g σ) rfl rfl rfl rfl (Nat.le_of_ble_eq_true rfl) dX10_goesWith_27 rfl (Nat.zero_le _) (Nat.zero_le _) ?_
    refine g_aload_n (pc' := 31) (j := 2) hC dX10_goesWith_30 rfl rfl rfl ?_
    refine g_iload_n (pc' := 32) (j := 3) hC dX10_goesWith_31 rfl rfl rfl ?_
    refine f_Vi (pc' := 35) (k := 15) (st := [.int (mh σ (rd σ 23 c) (rd σ 24 c))]) hC (m_ownHash x.2.1 g z0 σ c (by omega) (by first | exact hp | (simp (disch := decide) only [nb, rd_uv, rd_ur, uv_cell, ur_cell]; exact hp) | omega)) k_X10_ownHash wM_X10_139 (by decide) (by decide) (ct_15 g σ) rfl rfl rfl rfl (Nat.le_of_ble_eq_true rfl) dX10_goesWith_32 rfl (Nat.zero_le _) (Nat.zero_le _) ?_
    refine g_icmp_ne (pc' := 38) (tgt := 42) hC dX10_goesWith_35 (by decide) rfl (fun c35 => ?_) (fun c35 => ?_)
    · skip
      refine g_iconst (pc' := 43) (v := nI 0) hC dX10_goesWith_42 rfl rfl ?_
      refine g_ret hC dX10_goesWith_43 rfl ?_
      refine ⟨?_, rfl⟩; first | exact (bI_t ⟨c21, c35⟩).symm | exact (bI_f (fun z => c35 z.2)).symm | exact (bI_f (fun z => absurd z.1 (by omega))).symm
    · skip
      refine g_iconst (pc' := 39) (v := nI 1) hC dX10_goesWith_38 rfl rfl ?_
      refine g_goto (tgt := 43) hC dX10_goesWith_39 (by decide) ?_
      refine g_ret hC dX10_goesWith_43 rfl ?_
      refine ⟨?_, rfl⟩; first | exact (bI_t ⟨c21, c35⟩).symm | exact (bI_f (fun z => c35 z.2)).symm | exact (bI_f (fun z => absurd z.1 (by omega))).symm
set_option maxHeartbeats 4000000 in
set_option maxRecDepth 20000 in
theorem m_copies (l : Launch) (g : Lay) (z0 : Nat) (σ : St) (f : Nat) (t : Nat) (m : Nat) (hf : f < 8) (ht : t < 8) (hft : f ≠ t) (hm : m ≤ 200)  : CTv l yX10_copies cX10_copies 7 1 g z0 [.ref (g.2.1 15), .int (nI f), .int (nI t), .int (nI m)] σ (FV (mcps σ f t m)) := by
  refine CTv.of (by decide) (Nat.le_of_ble_eq_true rfl) ?_
  intro x hxl hxa hC
  have hC : Cx x RX10 cX10_copies 7 none 1 g z0 := hC
  show GG x g z0 7 0 0 (Qv x g z0 (FV (mcps σ f t m))) σ 0 [(0, .ref (g.2.1 15)), (1, .int (nI f)), (2, .int (nI t)), (3, .int (nI m))] []
  refine g_iconst (pc' := 1) (v := nI 1) hC dX10_copies_0 rfl rfl ?_
  refine g_istore (pc' := 3) (lv' := [(4, .int (nI 1)), (0, .ref (g.2.1 15)), (1, .int (nI f)), (2, .int (nI t)), (3, .int (nI m))]) hC dX10_copies_1 rfl (by decide) rfl ?_
  have L3 : ∀ (fu : Nat) (i : Nat), (i ≤ m) → (m - i) < fu → GG x g z0 7 0 0 (Qv x g z0 (FV (mcps σ f t m))) (mcp σ f t i) 3 [(4, .int (nI (i + 1))), (0, .ref (g.2.1 15)), (1, .int (nI f)), (2, .int (nI t)), (3, .int (nI m))] [] := by
    intro fu
    induction fu with
    | zero => intro i hi hz; exact absurd hz (Nat.not_lt_zero _)
    | succ fu ih3 =>
      intro i hi hf
      refine g_iload (pc' := 5) (j := 0) hC dX10_copies_3 rfl rfl ?_
      refine g_iload_n (pc' := 6) (j := 4) hC dX10_copies_5 rfl rfl rfl ?_
      refine n_icmp_gt (pc' := 9) (tgt := 115) hC dX10_copies_6 (by decide) rfl (by omega) (by omega) (fun c6 => ?_) (fun c6 => ?_)
      · skip
        refine g_aload_n (pc' := 116) (j := 1) hC dX10_copies_115 rfl rfl rfl ?_
        refine gf_X10_6 (pc' := 119) hC wF_X10_7 dX10_copies_116 rfl ?_
        refine g_iload_n (pc' := 120) (j := 3) hC dX10_copies_119 rfl rfl rfl ?_
        refine g_iload_n (pc' := 121) (j := 4) hC dX10_copies_120 rfl rfl rfl ?_
        refine a_st (pc' := 122) (k := 16) (i := t) hC (by decide) (fun σ9 => (ct_16 g σ9)) (by omega) (by decide) dX10_copies_121 rfl ?_
        refine g_retv hC dX10_copies_122 ?_
        show _ = mcps σ f t m; rw [show i = m by omega]; rfl
      · skip
        refine g_iload_n (pc' := 10) (j := 2) hC dX10_copies_9 rfl rfl rfl ?_
        refine g_iload (pc' := 12) (j := 0) hC dX10_copies_10 rfl rfl ?_
        refine f_Si (pc' := 15) (st := []) hC (m_at x.2.1 g z0 (mcp σ f t i) f ((i + 1)) (by omega)) k_X10_at wM_X10_86 (by decide) rfl rfl (Nat.le_of_ble_eq_true rfl) dX10_copies_12 rfl (Nat.zero_le _) (Nat.zero_le _) ?_
        refine g_istore (pc' := 17) (lv' := [(5, .int (nI (200 * f + (i + 1) - 1))), (4, .int (nI (i + 1))), (0, .ref (g.2.1 15)), (1, .int (nI f)), (2, .int (nI t)), (3, .int (nI m))]) hC dX10_copies_15 rfl (by decide) rfl ?_
        refine g_iload_n (pc' := 18) (j := 4) hC dX10_copies_17 rfl rfl rfl ?_
        refine g_iload (pc' := 20) (j := 1) hC dX10_copies_18 rfl rfl ?_
        refine f_Si (pc' := 23) (st := []) hC (m_at x.2.1 g z0 (mcp σ f t i) t ((i + 1)) (by omega)) k_X10_at wM_X10_86 (by decide) rfl rfl (Nat.le_of_ble_eq_true rfl) dX10_copies_20 rfl (Nat.zero_le _) (Nat.zero_le _) ?_
        refine g_istore (pc' := 25) (lv' := [(6, .int (nI (200 * t + (i + 1) - 1))), (5, .int (nI (200 * f + (i + 1) - 1))), (4, .int (nI (i + 1))), (0, .ref (g.2.1 15)), (1, .int (nI f)), (2, .int (nI t)), (3, .int (nI m))]) hC dX10_copies_23 rfl (by decide) rfl ?_
        refine g_aload_n (pc' := 26) (j := 3) hC dX10_copies_25 rfl rfl rfl ?_
        refine gf_X10_7 (pc' := 29) hC wF_X10_13 dX10_copies_26 rfl ?_
        refine g_iload (pc' := 31) (j := 0) hC dX10_copies_29 rfl rfl ?_
        refine g_aload_n (pc' := 32) (j := 3) hC dX10_copies_31 rfl rfl rfl ?_
        refine gf_X10_7 (pc' := 35) hC wF_X10_13 dX10_copies_32 rfl ?_
        refine g_iload (pc' := 37) (j := 1) hC dX10_copies_35 rfl rfl ?_
        refine a_ld (pc' := 38) (k := 17) (i := 200 * f + (i + 1) - 1) hC (by decide) (ct_17 g (mcp σ f t i)) (by omega) (by decide) dX10_copies_37 rfl ?_
        refine a_st (pc' := 39) (k := 17) (i := 200 * t + (i + 1) - 1) hC (by decide) (fun σ9 => (ct_17 g σ9)) (by omega) (by decide) dX10_copies_38 rfl ?_
        refine g_aload_n (pc' := 40) (j := 3) hC dX10_copies_39 rfl rfl rfl ?_
        refine gf_X10_8 (pc' := 43) hC wF_X10_16 dX10_copies_40 rfl ?_
        refine g_iload (pc' := 45) (j := 0) hC dX10_copies_43 rfl rfl ?_
        refine g_aload_n (pc' := 46) (j := 3) hC dX10_copies_45 rfl rfl rfl ?_
        refine gf_X10_8 (pc' := 49) hC wF_X10_16 dX10_copies_46 rfl ?_
        refine g_iload (pc' := 51) (j := 1) hC dX10_copies_49 rfl rfl ?_
        refine a_ld (pc' := 52) (k := 18) (i := 200 * f + (i + 1) - 1) hC (by decide) (ct_18 g (uv (mcp σ f t i) 17 (200 * t + (i + 1) - 1) ((mcp σ f t i).1 17 (200 * f + (i + 1) - 1)))) (by omega) (by decide) dX10_copies_51 rfl ?_
        refine gg_topi (b := (mcp σ f t i).1 18 (200 * f + (i + 1) - 1)) (uv_cell _ _ _ _ (by decide)) ?_
        refine a_st (pc' := 53) (k := 18) (i := 200 * t + (i + 1) - 1) hC (by decide) (fun σ9 => (ct_18 g σ9)) (by omega) (by decide) dX10_copies_52 rfl ?_
        refine g_aload_n (pc' := 54) (j := 3) hC dX10_copies_53 rfl rfl rfl ?_
        refine gf_X10_9 (pc' := 57) hC wF_X10_19 dX10_copies_54 rfl ?_
        refine g_iload (pc' := 59) (j := 0) hC dX10_copies_57 rfl rfl ?_
        refine g_aload_n (pc' := 60) (j := 3) hC dX10_copies_59 rfl rfl rfl ?_
        refine gf_X10_9 (pc' := 63) hC wF_X10_19 dX10_copies_60 rfl ?_
        refine g_iload (pc' := 65) (j := 1) hC dX10_copies_63 rfl rfl ?_
        refine a_ld (pc' := 66) (k := 19) (i := 200 * f + (i + 1) - 1) hC (by decide) (ct_19 g (uv (uv (mcp σ f t i) 17 (200 * t + (i + 1) - 1) ((mcp σ f t i).1 17 (200 * f + (i + 1) - 1))) 18 (200 * t + (i + 1) - 1) ((mcp σ f t i).1 18 (200 * f + (i + 1) - 1)))) (by omega) (by decide) dX10_copies_65 rfl ?_
        refine gg_topi (b := (mcp σ f t i).1 19 (200 * f + (i + 1) - 1)) ((uv_cell _ _ _ _ (by decide)).trans (uv_cell _ _ _ _ (by decide))) ?_
        refine a_st (pc' := 67) (k := 19) (i := 200 * t + (i + 1) - 1) hC (by decide) (fun σ9 => (ct_19 g σ9)) (by omega) (by decide) dX10_copies_66 rfl ?_
        refine g_aload_n (pc' := 68) (j := 3) hC dX10_copies_67 rfl rfl rfl ?_
        refine gf_X10_10 (pc' := 71) hC wF_X10_22 dX10_copies_68 rfl ?_
        refine g_iload (pc' := 73) (j := 0) hC dX10_copies_71 rfl rfl ?_
        refine g_aload_n (pc' := 74) (j := 3) hC dX10_copies_73 rfl rfl rfl ?_
        refine gf_X10_10 (pc' := 77) hC wF_X10_22 dX10_copies_74 rfl ?_
        refine g_iload (pc' := 79) (j := 1) hC dX10_copies_77 rfl rfl ?_
        refine a_ld (pc' := 80) (k := 20) (i := 200 * f + (i + 1) - 1) hC (by decide) (ct_20 g (uv (uv (uv (mcp σ f t i) 17 (200 * t + (i + 1) - 1) ((mcp σ f t i).1 17 (200 * f + (i + 1) - 1))) 18 (200 * t + (i + 1) - 1) ((mcp σ f t i).1 18 (200 * f + (i + 1) - 1))) 19 (200 * t + (i + 1) - 1) ((mcp σ f t i).1 19 (200 * f + (i + 1) - 1)))) (by omega) (by decide) dX10_copies_79 rfl ?_
        refine gg_topi (b := (mcp σ f t i).1 20 (200 * f + (i + 1) - 1)) ((uv_cell _ _ _ _ (by decide)).trans ((uv_cell _ _ _ _ (by decide)).trans (uv_cell _ _ _ _ (by decide)))) ?_
        refine a_st (pc' := 81) (k := 20) (i := 200 * t + (i + 1) - 1) hC (by decide) (fun σ9 => (ct_20 g σ9)) (by omega) (by decide) dX10_copies_80 rfl ?_
        refine g_aload_n (pc' := 82) (j := 3) hC dX10_copies_81 rfl rfl rfl ?_
        refine gf_X10_11 (pc' := 85) hC wF_X10_25 dX10_copies_82 rfl ?_
        refine g_iload (pc' := 87) (j := 0) hC dX10_copies_85 rfl rfl ?_
        refine g_aload_n (pc' := 88) (j := 3) hC dX10_copies_87 rfl rfl rfl ?_
        refine gf_X10_11 (pc' := 91) hC wF_X10_25 dX10_copies_88 rfl ?_
        refine g_iload (pc' := 93) (j := 1) hC dX10_copies_91 rfl rfl ?_
        refine a_ld (pc' := 94) (k := 21) (i := 200 * f + (i + 1) - 1) hC (by decide) (ct_21 g (uv (uv (uv (uv (mcp σ f t i) 17 (200 * t + (i + 1) - 1) ((mcp σ f t i).1 17 (200 * f + (i + 1) - 1))) 18 (200 * t + (i + 1) - 1) ((mcp σ f t i).1 18 (200 * f + (i + 1) - 1))) 19 (200 * t + (i + 1) - 1) ((mcp σ f t i).1 19 (200 * f + (i + 1) - 1))) 20 (200 * t + (i + 1) - 1) ((mcp σ f t i).1 20 (200 * f + (i + 1) - 1)))) (by omega) (by decide) dX10_copies_93 rfl ?_
        refine gg_topi (b := (mcp σ f t i).1 21 (200 * f + (i + 1) - 1)) ((uv_cell _ _ _ _ (by decide)).trans ((uv_cell _ _ _ _ (by decide)).trans ((uv_cell _ _ _ _ (by decide)).trans (uv_cell _ _ _ _ (by decide))))) ?_
        refine a_st (pc' := 95) (k := 21) (i := 200 * t + (i + 1) - 1) hC (by decide) (fun σ9 => (ct_21 g σ9)) (by omega) (by decide) dX10_copies_94 rfl ?_
        refine g_aload_n (pc' := 96) (j := 3) hC dX10_copies_95 rfl rfl rfl ?_
        refine gf_X10_12 (pc' := 99) hC wF_X10_28 dX10_copies_96 rfl ?_
        refine g_iload (pc' := 101) (j := 0) hC dX10_copies_99 rfl rfl ?_
        refine g_aload_n (pc' := 102) (j := 3) hC dX10_copies_101 rfl rfl rfl ?_
        refine gf_X10_12 (pc' := 105) hC wF_X10_28 dX10_copies_102 rfl ?_
        refine g_iload (pc' := 107) (j := 1) hC dX10_copies_105 rfl rfl ?_
        refine a_ld (pc' := 108) (k := 22) (i := 200 * f + (i + 1) - 1) hC (by decide) (ct_22 g (uv (uv (uv (uv (uv (mcp σ f t i) 17 (200 * t + (i + 1) - 1) ((mcp σ f t i).1 17 (200 * f + (i + 1) - 1))) 18 (200 * t + (i + 1) - 1) ((mcp σ f t i).1 18 (200 * f + (i + 1) - 1))) 19 (200 * t + (i + 1) - 1) ((mcp σ f t i).1 19 (200 * f + (i + 1) - 1))) 20 (200 * t + (i + 1) - 1) ((mcp σ f t i).1 20 (200 * f + (i + 1) - 1))) 21 (200 * t + (i + 1) - 1) ((mcp σ f t i).1 21 (200 * f + (i + 1) - 1)))) (by omega) (by decide) dX10_copies_107 rfl ?_
        refine gg_topi (b := (mcp σ f t i).1 22 (200 * f + (i + 1) - 1)) ((uv_cell _ _ _ _ (by decide)).trans ((uv_cell _ _ _ _ (by decide)).trans ((uv_cell _ _ _ _ (by decide)).trans ((uv_cell _ _ _ _ (by decide)).trans (uv_cell _ _ _ _ (by decide)))))) ?_
        refine a_st (pc' := 109) (k := 22) (i := 200 * t + (i + 1) - 1) hC (by decide) (fun σ9 => (ct_22 g σ9)) (by omega) (by decide) dX10_copies_108 rfl ?_
        refine g_iinc (pc' := 112) (j := 2) (u := nI (i + 1 + 1)) (lv' := [(4, .int (nI (i + 1 + 1))), (6, .int (nI (200 * t + (i + 1) - 1))), (5, .int (nI (200 * f + (i + 1) - 1))), (0, .ref (g.2.1 15)), (1, .int (nI f)), (2, .int (nI t)), (3, .int (nI m))]) hC dX10_copies_109 rfl rfl (nI_add (i + 1) 1) (by decide) rfl ?_
        refine g_goto (tgt := 3) hC dX10_copies_112 (by decide) ?_
        refine gg_st (σ' := (mcp σ f t (i + 1))) (mcp_step _ _ _ _ hft (by omega)) ?_
        refine gg_lv (lv' := [(4, .int (nI (i + 1 + 1))), (0, .ref (g.2.1 15)), (1, .int (nI f)), (2, .int (nI t)), (3, .int (nI m))]) ?_ [0, 3, 4, 5, 6] rfl
        exact ih3 (i + 1) (by omega) (by omega)
  refine gg_st (σ' := (mcp σ f t 0)) ((mcp_0 _ _ _).symm) ?_
  refine gg_lv (lv' := [(4, .int (nI 1)), (0, .ref (g.2.1 15)), (1, .int (nI f)), (2, .int (nI t)), (3, .int (nI m))]) ?_ [0, 1, 2, 3, 4] rfl
  exact L3 (m - 0 + 1) 0 (by omega) (by omega)
set_option maxHeartbeats 4000000 in
set_option maxRecDepth 20000 in
theorem m_has (l : Launch) (g : Lay) (z0 : Nat) (σ : St) (s : Int32) (k : Nat)   : CTi l yX10_has cX10_has 2 (some .boolean) 0 g z0 [.int s, .int (nI k)] σ (FI (bI (hsb s k)) σ) := by
  refine CTi.of (by decide) (Nat.le_of_ble_eq_true rfl) ?_
  intro x hxl hxa hC
  have hC : Cx x RX10 cX10_has 2 (some .boolean) 0 g z0 := hC
  show GG x g z0 2 0 0 (Qi x g z0 (FI (bI (hsb s k)) σ)) σ 0 [(0, .int s), (1, .int (nI k))] []
  refine g_iload_n (pc' := 1) (j := 0) hC dX10_has_0 rfl rfl rfl ?_
  refine g_iload_n (pc' := 2) (j := 1) hC dX10_has_1 rfl rfl rfl ?_
  refine g_ishr (pc' := 3) hC dX10_has_2 rfl ?_
  refine g_iconst (pc' := 4) (v := nI 1) hC dX10_has_3 rfl rfl ?_
  refine g_iand (pc' := 5) hC dX10_has_4 rfl ?_
  refine g_iconst (pc' := 6) (v := nI 1) hC dX10_has_5 rfl rfl ?_
  refine g_icmp_ne (pc' := 9) (tgt := 13) hC dX10_has_6 (by decide) rfl (fun c6 => ?_) (fun c6 => ?_)
  · skip
    refine g_iconst (pc' := 14) (v := nI 0) hC dX10_has_13 rfl rfl ?_
    refine g_ret hC dX10_has_14 rfl ?_
    refine ⟨?_, rfl⟩; first | exact (bI_t c6).symm | exact (bI_f c6).symm
  · skip
    refine g_iconst (pc' := 10) (v := nI 1) hC dX10_has_9 rfl rfl ?_
    refine g_goto (tgt := 14) hC dX10_has_10 (by decide) ?_
    refine g_ret hC dX10_has_14 rfl ?_
    refine ⟨?_, rfl⟩; first | exact (bI_t c6).symm | exact (bI_f c6).symm
set_option maxHeartbeats 4000000 in
set_option maxRecDepth 20000 in
theorem m_seenByAll (l : Launch) (g : Lay) (z0 : Nat) (σ : St) (s : Int32) (hC0 : nb σ 15 1 6)  : CTi l yX10_seenByAll cX10_seenByAll 4 (some .int) 1 g z0 [.ref (g.2.1 15), .int s] σ (FI (msa (σ.1 23) s (rd σ 15 1) 0 (-1)) σ) := by
  refine CTi.of (by decide) (Nat.le_of_ble_eq_true rfl) ?_
  intro x hxl hxa hC
  have hC : Cx x RX10 cX10_seenByAll 4 (some .int) 1 g z0 := hC
  have hC2 := hC0.2
  show GG x g z0 4 0 0 (Qi x g z0 (FI (msa (σ.1 23) s (rd σ 15 1) 0 (-1)) σ)) σ 0 [(0, .ref (g.2.1 15)), (1, .int s)] []
  refine g_iconst (pc' := 1) (v := (-1)) hC dX10_seenByAll_0 rfl rfl ?_
  refine g_istore_n (pc' := 2) (lv' := [(2, .int ((-1))), (0, .ref (g.2.1 15)), (1, .int s)]) hC dX10_seenByAll_1 rfl rfl (by decide) rfl ?_
  refine g_iconst (pc' := 3) (v := nI 0) hC dX10_seenByAll_2 rfl rfl ?_
  refine g_istore_n (pc' := 4) (lv' := [(3, .int (nI 0)), (2, .int ((-1))), (0, .ref (g.2.1 15)), (1, .int s)]) hC dX10_seenByAll_3 rfl rfl (by decide) rfl ?_
  have L4 : ∀ (fu : Nat) (c : Nat) (fd : Int32), (c ≤ rd σ 15 1) → (msa (σ.1 23) s (rd σ 15 1) 0 (-1) = msa (σ.1 23) s (rd σ 15 1 - c) c fd) → (rd σ 15 1 - c) < fu → GG x g z0 4 0 0 (Qi x g z0 (FI (msa (σ.1 23) s (rd σ 15 1) 0 (-1)) σ)) σ 4 [(3, .int (nI c)), (2, .int fd), (0, .ref (g.2.1 15)), (1, .int s)] [] := by
    intro fu
    induction fu with
    | zero => intro c fd hc he hz; exact absurd hz (Nat.not_lt_zero _)
    | succ fu ih4 =>
      intro c fd hc he hf
      refine g_iload_n (pc' := 5) (j := 0) hC dX10_seenByAll_4 rfl rfl rfl ?_
      refine g_aload_n (pc' := 6) (j := 2) hC dX10_seenByAll_5 rfl rfl rfl ?_
      refine gf_X10_1 (pc' := 9) hC wF_X10_69 dX10_seenByAll_6 rfl ?_
      refine gg_topi (b := nI (rd σ 15 1)) (hC0.1) ?_
      refine n_icmp_ge (pc' := 12) (tgt := 53) hC dX10_seenByAll_9 (by decide) rfl (by omega) (by omega) (fun c9 => ?_) (fun c9 => ?_)
      · skip
        refine g_iload_n (pc' := 54) (j := 1) hC dX10_seenByAll_53 rfl rfl rfl ?_
        refine g_ret hC dX10_seenByAll_54 rfl ?_
        exact ⟨by rw [he, show rd σ 15 1 - c = 0 by omega]; rfl, rfl⟩
      · skip
        have hsp : msa (σ.1 23) s (rd σ 15 1 - c) c fd = _ := msa_s _ _ (show c < rd σ 15 1 by omega) fd
        refine g_iload_n (pc' := 13) (j := 3) hC dX10_seenByAll_12 rfl rfl rfl ?_
        refine g_iload_n (pc' := 14) (j := 0) hC dX10_seenByAll_13 rfl rfl rfl ?_
        refine f_Si (pc' := 17) (st := []) hC (m_has x.2.1 g z0 σ s c) k_X10_has wM_X10_189 (by decide) rfl rfl (Nat.le_of_ble_eq_true rfl) dX10_seenByAll_14 rfl (Nat.zero_le _) (Nat.zero_le _) ?_
        refine b_if_ne (pc' := 20) (tgt := 23) hC dX10_seenByAll_17 (by decide) rfl (fun c17 => ?_) (fun c17 => ?_)
        · skip
          refine g_iload_n (pc' := 24) (j := 1) hC dX10_seenByAll_23 rfl rfl rfl ?_
          refine g_iconst (pc' := 25) (v := (-1)) hC dX10_seenByAll_24 rfl rfl ?_
          refine g_icmp_eq (pc' := 28) (tgt := 40) hC dX10_seenByAll_25 (by decide) rfl (fun c25 => ?_) (fun c25 => ?_)
          · skip
            refine g_aload_n (pc' := 41) (j := 2) hC dX10_seenByAll_40 rfl rfl rfl ?_
            refine gf_X10_13 (pc' := 44) hC wF_X10_31 dX10_seenByAll_41 rfl ?_
            refine g_iload_n (pc' := 45) (j := 0) hC dX10_seenByAll_44 rfl rfl rfl ?_
            refine a_ld (pc' := 46) (k := 23) (i := c) hC (by decide) (ct_23 g σ) (by omega) (by decide) dX10_seenByAll_45 rfl ?_
            refine g_istore_n (pc' := 47) (lv' := [(2, .int (σ.1 23 c)), (3, .int (nI c)), (0, .ref (g.2.1 15)), (1, .int s)]) hC dX10_seenByAll_46 rfl rfl (by decide) rfl ?_
            refine g_iinc (pc' := 50) (j := 1) (u := nI (c + 1)) (lv' := [(3, .int (nI (c + 1))), (2, .int (σ.1 23 c)), (0, .ref (g.2.1 15)), (1, .int s)]) hC dX10_seenByAll_47 rfl rfl (nI_add c 1) (by decide) rfl ?_
            refine g_goto (tgt := 4) hC dX10_seenByAll_50 (by decide) ?_
            refine gg_lv (lv' := [(3, .int (nI (c + 1))), (2, .int (σ.1 23 c)), (0, .ref (g.2.1 15)), (1, .int s)]) ?_ [0, 1, 2, 3] rfl
            exact ih4 (c + 1) (σ.1 23 c) (by omega) (by rw [he, hsp]; first | rw [cI_f c17] | (rw [cI_t c17, cI_f]; intro z; first | exact z.1 c25 | exact z.2 c35)) (by omega)
          · skip
            refine g_aload_n (pc' := 29) (j := 2) hC dX10_seenByAll_28 rfl rfl rfl ?_
            refine gf_X10_13 (pc' := 32) hC wF_X10_31 dX10_seenByAll_29 rfl ?_
            refine g_iload_n (pc' := 33) (j := 0) hC dX10_seenByAll_32 rfl rfl rfl ?_
            refine a_ld (pc' := 34) (k := 23) (i := c) hC (by decide) (ct_23 g σ) (by omega) (by decide) dX10_seenByAll_33 rfl ?_
            refine g_iload_n (pc' := 35) (j := 1) hC dX10_seenByAll_34 rfl rfl rfl ?_
            refine g_icmp_eq (pc' := 38) (tgt := 40) hC dX10_seenByAll_35 (by decide) rfl (fun c35 => ?_) (fun c35 => ?_)
            · skip
              refine g_aload_n (pc' := 41) (j := 2) hC dX10_seenByAll_40 rfl rfl rfl ?_
              refine gf_X10_13 (pc' := 44) hC wF_X10_31 dX10_seenByAll_41 rfl ?_
              refine g_iload_n (pc' := 45) (j := 0) hC dX10_seenByAll_44 rfl rfl rfl ?_
              refine a_ld (pc' := 46) (k := 23) (i := c) hC (by decide) (ct_23 g σ) (by omega) (by decide) dX10_seenByAll_45 rfl ?_
              refine g_istore_n (pc' := 47) (lv' := [(2, .int (σ.1 23 c)), (3, .int (nI c)), (0, .ref (g.2.1 15)), (1, .int s)]) hC dX10_seenByAll_46 rfl rfl (by decide) rfl ?_
              refine g_iinc (pc' := 50) (j := 1) (u := nI (c + 1)) (lv' := [(3, .int (nI (c + 1))), (2, .int (σ.1 23 c)), (0, .ref (g.2.1 15)), (1, .int s)]) hC dX10_seenByAll_47 rfl rfl (nI_add c 1) (by decide) rfl ?_
              refine g_goto (tgt := 4) hC dX10_seenByAll_50 (by decide) ?_
              refine gg_lv (lv' := [(3, .int (nI (c + 1))), (2, .int (σ.1 23 c)), (0, .ref (g.2.1 15)), (1, .int s)]) ?_ [0, 1, 2, 3] rfl
              exact ih4 (c + 1) (σ.1 23 c) (by omega) (by rw [he, hsp]; first | rw [cI_f c17] | (rw [cI_t c17, cI_f]; intro z; first | exact z.1 c25 | exact z.2 c35)) (by omega)
            · skip
              refine g_iconst (pc' := 39) (v := (-1)) hC dX10_seenByAll_38 rfl rfl ?_
              refine g_ret hC dX10_seenByAll_39 rfl ?_
              exact ⟨by rw [he, hsp, cI_t c17, cI_t ⟨c25, c35⟩], rfl⟩
        · skip
          refine g_goto (tgt := 47) hC dX10_seenByAll_20 (by decide) ?_
          refine g_iinc (pc' := 50) (j := 0) (u := nI (c + 1)) (lv' := [(3, .int (nI (c + 1))), (2, .int fd), (0, .ref (g.2.1 15)), (1, .int s)]) hC dX10_seenByAll_47 rfl rfl (nI_add c 1) (by decide) rfl ?_
          refine g_goto (tgt := 4) hC dX10_seenByAll_50 (by decide) ?_
          refine gg_lv (lv' := [(3, .int (nI (c + 1))), (2, .int fd), (0, .ref (g.2.1 15)), (1, .int s)]) ?_ [0, 1, 2, 3] rfl
          exact ih4 (c + 1) fd (by omega) (by rw [he, hsp]; first | rw [cI_f c17] | (rw [cI_t c17, cI_f]; intro z; first | exact z.1 c25 | exact z.2 c35)) (by omega)
  refine gg_lv (lv' := [(3, .int (nI 0)), (2, .int ((-1))), (0, .ref (g.2.1 15)), (1, .int s)]) ?_ [0, 1, 2, 3] rfl
  exact L4 (rd σ 15 1 - 0 + 1) 0 ((-1)) (by omega) (rfl) (by omega)
