set_option maxHeartbeats 4000000 in
set_option maxRecDepth 20000 in
theorem c_doFork (l : Launch) (g : Lay) (z0 : Nat) (σ : St) (set : Int32) (hI : CI σ) (hS : CS σ)  : CTi l yX6_doFork cX6_doFork 5 (some .int) 2 g z0 [.ref (g.2.1 8), .int set] σ (FI ((cfo σ set).1) ((cfo σ set).2)) := by
  refine CTi.of (by decide) (Nat.le_of_ble_eq_true rfl) ?_
  intro x hxl hxa hC
  have hC : Cx x RX6 cX6_doFork 5 (some .int) 2 g z0 := hC
  have hN := hI.nc.2
  have hR8 := hI.nr.2
  show GG x g z0 5 0 0 (Qi x g z0 (FI ((cfo σ set).1) ((cfo σ set).2))) σ 0 [(0, .ref (g.2.1 8)), (1, .int set)] []
  refine g_iload_n (pc' := 1) (j := 1) hC dX6_doFork_0 rfl rfl rfl ?_
  refine g_if_eq (pc' := 4) (tgt := 13) hC dX6_doFork_1 (by decide) rfl (fun c1 => ?_) (fun c1 => ?_)
  · skip
    refine g_bipush (pc' := 15) (v := (-2)) hC dX6_doFork_13 rfl rfl ?_
    refine g_ret hC dX6_doFork_15 rfl ?_
    exact ⟨by unfold cfo; rw [cI_f (fun z => z.1 c1)], by unfold cfo; rw [cI_f (fun z => z.1 c1)]⟩
  · skip
    refine g_iload_n (pc' := 5) (j := 1) hC dX6_doFork_4 rfl rfl rfl ?_
    refine g_aload_n (pc' := 6) (j := 0) hC dX6_doFork_5 rfl rfl rfl ?_
    refine gf_X6_4 (pc' := 9) hC wF_X6_44 dX6_doFork_6 rfl ?_
    refine gg_topi (b := nI (rd σ 8 4)) (hI.nc.1) ?_
    refine g_iushr (pc' := 10) hC dX6_doFork_9 rfl ?_
    refine g_if_eq (pc' := 13) (tgt := 16) hC dX6_doFork_10 (by decide) rfl (fun c10 => ?_) (fun c10 => ?_)
    · skip
      refine g_aload_n (pc' := 17) (j := 0) hC dX6_doFork_16 rfl rfl rfl ?_
      refine g_iload_n (pc' := 18) (j := 1) hC dX6_doFork_17 rfl rfl rfl ?_
      refine f_Vi (pc' := 21) (k := 8) (st := []) hC (c_branchSeenBy x.2.1 g z0 σ set (by first | exact hI | (simp (disch := decide) only [nb, rd_uv, rd_ur, uv_cell, ur_cell]; exact hI) | omega)) k_X6_branchSeenBy wM_X6_177 (by decide) (by decide) (ct_8 g σ) rfl rfl rfl rfl (Nat.le_of_ble_eq_true rfl) dX6_doFork_18 rfl (Nat.zero_le _) (Nat.zero_le _) ?_
      refine g_istore_n (pc' := 22) (lv' := [(2, .int (csF σ set)), (0, .ref (g.2.1 8)), (1, .int set)]) hC dX6_doFork_21 rfl rfl (by decide) rfl ?_
      refine g_iload_n (pc' := 23) (j := 0) hC dX6_doFork_22 rfl rfl rfl ?_
      refine g_if_lt (pc' := 26) (tgt := 35) hC dX6_doFork_23 (by decide) rfl (fun c23 => ?_) (fun c23 => ?_)
      · skip
        refine g_bipush (pc' := 37) (v := (-3)) hC dX6_doFork_35 rfl rfl ?_
        refine g_ret hC dX6_doFork_37 rfl ?_
        exact ⟨by unfold cfo; rw [cI_t (⟨c1, c10⟩), cI_t (Or.inl c23)], by unfold cfo; rw [cI_t (⟨c1, c10⟩), cI_t (Or.inl c23)]⟩
      · skip
        refine g_aload_n (pc' := 27) (j := 1) hC dX6_doFork_26 rfl rfl rfl ?_
        refine gf_X6_6 (pc' := 30) hC wF_X6_50 dX6_doFork_27 rfl ?_
        refine gg_topi (b := nI (rd σ 8 6)) (hI.nr.1) ?_
        refine g_bipush (pc' := 32) (v := nI 8) hC dX6_doFork_30 rfl rfl ?_
        refine n_icmp_lt (pc' := 35) (tgt := 38) hC dX6_doFork_32 (by decide) rfl (by omega) (by omega) (fun c32 => ?_) (fun c32 => ?_)
        · skip
          obtain ⟨hsN, hsL⟩ := csF_n hI hS set c23
          have hO := hI.sz (b := cn (csF σ set)) (by omega)
          refine gg_lve (lv' := [(2, .int (nI (cn (csF σ set)))), (0, .ref (g.2.1 8)), (1, .int set)]) (by rw [← hsN]) ?_
          refine g_aload_n (pc' := 39) (j := 1) hC dX6_doFork_38 rfl rfl rfl ?_
          refine gf_X6_6 (pc' := 42) hC wF_X6_50 dX6_doFork_39 rfl ?_
          refine gg_topi (b := nI (rd σ 8 6)) (hI.nr.1) ?_
          refine g_istore_n (pc' := 43) (lv' := [(3, .int (nI (rd σ 8 6))), (2, .int (nI (cn (csF σ set)))), (0, .ref (g.2.1 8)), (1, .int set)]) hC dX6_doFork_42 rfl rfl (by decide) rfl ?_
          refine g_aload_n (pc' := 44) (j := 2) hC dX6_doFork_43 rfl rfl rfl ?_
          refine g_dup (pc' := 45) hC dX6_doFork_44 rfl rfl ?_
          refine gf_X6_6 (pc' := 48) hC wF_X6_50 dX6_doFork_45 rfl ?_
          refine gg_topi (b := nI (rd σ 8 6)) (hI.nr.1) ?_
          refine g_iconst (pc' := 49) (v := nI 1) hC dX6_doFork_48 rfl rfl ?_
          refine n_iadd (pc' := 50) hC dX6_doFork_49 rfl ?_
          refine pf_X6_6 (pc' := 53) hC wF_X6_50 dX6_doFork_50 rfl ?_
          refine g_aload_n (pc' := 54) (j := 2) hC dX6_doFork_53 rfl rfl rfl ?_
          refine gf_X6_0 (pc' := 57) hC wF_X6_11 dX6_doFork_54 rfl ?_
          refine g_iload_n (pc' := 58) (j := 0) hC dX6_doFork_57 rfl rfl rfl ?_
          refine a_ldr (pc' := 59) (k := 9) (t := 5) (i := rd σ 8 6) hC (by decide) (ct_9 g (uv σ 8 6 (nI ((rd σ 8 6) + 1)))) rfl (by omega) (by decide) dX6_doFork_58 rfl ?_
          refine g_aload_n (pc' := 60) (j := 2) hC dX6_doFork_59 rfl rfl rfl ?_
          refine gf_X6_0 (pc' := 63) hC wF_X6_11 dX6_doFork_60 rfl ?_
          refine g_iload_n (pc' := 64) (j := 1) hC dX6_doFork_63 rfl rfl rfl ?_
          refine a_ldr (pc' := 65) (k := 9) (t := 5) (i := cn (csF σ set)) hC (by decide) (ct_9 g (uv σ 8 6 (nI ((rd σ 8 6) + 1)))) rfl (by omega) (by decide) dX6_doFork_64 rfl ?_
          refine f_Vv (pc' := 68) (k := 34 + 7 * (rd σ 8 6)) (st := []) hC (c_copyFrom x.2.1 g z0 (uv σ 8 6 (nI ((rd σ 8 6) + 1))) ((rd σ 8 6)) ((cn (csF σ set))) (by omega) (by omega) (by omega) (nb_cg (uv_cell _ _ _ _ (by omega)) hO hO.2)) k_X1_copyFrom wM_X6_180 (by decide) (by have := (by omega : (rd σ 8 6) < 8); show _ < 228; omega) (ct_br g (uv σ 8 6 (nI ((rd σ 8 6) + 1))) (by omega : (rd σ 8 6) < 8)) rfl rfl rfl rfl (Nat.le_of_ble_eq_true rfl) dX6_doFork_65 rfl (Nat.zero_le _) (Nat.zero_le _) ?_
          refine g_iconst (pc' := 69) (v := nI 0) hC dX6_doFork_68 rfl rfl ?_
          refine g_istore (pc' := 71) (lv' := [(4, .int (nI 0)), (3, .int (nI (rd σ 8 6))), (2, .int (nI (cn (csF σ set)))), (0, .ref (g.2.1 8)), (1, .int set)]) hC dX6_doFork_69 rfl (by decide) rfl ?_
          have L71 : ∀ (fu : Nat) (i : Nat), (i ≤ rd σ 8 4) → (rd σ 8 4 - i) < fu → GG x g z0 5 0 0 (Qi x g z0 (FI ((cfo σ set).1) ((cfo σ set).2))) (cfs (ccp (uv σ 8 6 (nI (rd σ 8 6 + 1))) (rd σ 8 6) (cn (csF σ set))) set (rd σ 8 6) i) 71 [(4, .int (nI i)), (3, .int (nI (rd σ 8 6))), (2, .int (nI (cn (csF σ set)))), (0, .ref (g.2.1 8)), (1, .int set)] [] := by
            intro fu
            induction fu with
            | zero => intro i hi hz; exact absurd hz (Nat.not_lt_zero _)
            | succ fu ih71 =>
              intro i hi hf
              refine g_iload (pc' := 73) (j := 0) hC dX6_doFork_71 rfl rfl ?_
              refine g_aload_n (pc' := 74) (j := 3) hC dX6_doFork_73 rfl rfl rfl ?_
              refine gf_X6_4 (pc' := 77) hC wF_X6_44 dX6_doFork_74 rfl ?_
              refine gg_topi (b := nI (rd σ 8 4)) ((cfs_o _ _ _ _ _ (by omega)).trans ((ccp_o _ _ _ _ (by omega)).trans ((uv_idx _ _ _ _ (by decide)).trans hI.nc.1))) ?_
              refine n_icmp_ge (pc' := 80) (tgt := 106) hC dX6_doFork_77 (by decide) rfl (by omega) (by omega) (fun c77 => ?_) (fun c77 => ?_)
              · skip
                refine g_iload_n (pc' := 107) (j := 1) hC dX6_doFork_106 rfl rfl rfl ?_
                refine g_ret hC dX6_doFork_107 rfl ?_
                exact ⟨by unfold cfo; rw [cI_t (⟨c1, c10⟩), cI_f (fun z => z.elim c23 (Nat.not_le.mpr c32))], by unfold cfo; rw [cI_t (⟨c1, c10⟩), cI_f (fun z => z.elim c23 (Nat.not_le.mpr c32)), show rd σ 8 4 = i by omega]⟩
              · skip
                refine g_iload_n (pc' := 81) (j := 4) hC dX6_doFork_80 rfl rfl rfl ?_
                refine g_iload (pc' := 83) (j := 0) hC dX6_doFork_81 rfl rfl ?_
                refine g_ishr (pc' := 84) hC dX6_doFork_83 rfl ?_
                refine g_iconst (pc' := 85) (v := nI 1) hC dX6_doFork_84 rfl rfl ?_
                refine g_iand (pc' := 86) hC dX6_doFork_85 rfl ?_
                refine g_if_eq (pc' := 89) (tgt := 100) hC dX6_doFork_86 (by decide) rfl (fun c86 => ?_) (fun c86 => ?_)
                · skip
                  have hst : cfs (ccp (uv σ 8 6 (nI (rd σ 8 6 + 1))) (rd σ 8 6) (cn (csF σ set))) set (rd σ 8 6) i = cfs (ccp (uv σ 8 6 (nI (rd σ 8 6 + 1))) (rd σ 8 6) (cn (csF σ set))) set (rd σ 8 6) (i + 1) := (cI_f (show ¬ chb set i from fun z => z c86)).symm
                  refine g_iinc (pc' := 103) (j := 0) (u := nI (i + 1)) (lv' := [(4, .int (nI (i + 1))), (3, .int (nI (rd σ 8 6))), (2, .int (nI (cn (csF σ set)))), (0, .ref (g.2.1 8)), (1, .int set)]) hC dX6_doFork_100 rfl rfl (nI_add i 1) (by decide) rfl ?_
                  refine g_goto (tgt := 71) hC dX6_doFork_103 (by decide) ?_
                  refine gg_st (σ' := (cfs (ccp (uv σ 8 6 (nI (rd σ 8 6 + 1))) (rd σ 8 6) (cn (csF σ set))) set (rd σ 8 6) ((i + 1)))) (hst) ?_
                  refine gg_lv (lv' := [(4, .int (nI (i + 1))), (3, .int (nI (rd σ 8 6))), (2, .int (nI (cn (csF σ set)))), (0, .ref (g.2.1 8)), (1, .int set)]) ?_ [0, 1, 2, 3, 4] rfl
                  exact ih71 ((i + 1)) (by omega) (by omega)
                · skip
                  have hst : uv (cfs (ccp (uv σ 8 6 (nI (rd σ 8 6 + 1))) (rd σ 8 6) (cn (csF σ set))) set (rd σ 8 6) i) (90 + 3 * i) 3 (nI (rd σ 8 6)) = cfs (ccp (uv σ 8 6 (nI (rd σ 8 6 + 1))) (rd σ 8 6) (cn (csF σ set))) set (rd σ 8 6) (i + 1) := (cI_t (show chb set i from c86)).symm
                  refine g_aload_n (pc' := 90) (j := 3) hC dX6_doFork_89 rfl rfl rfl ?_
                  refine gf_X6_1 (pc' := 93) hC wF_X6_19 dX6_doFork_90 rfl ?_
                  refine g_iload (pc' := 95) (j := 0) hC dX6_doFork_93 rfl rfl ?_
                  refine a_ldr (pc' := 96) (k := 10) (t := 6) (i := i) hC (by decide) (ct_10 g (cfs (ccp (uv σ 8 6 (nI (rd σ 8 6 + 1))) (rd σ 8 6) (cn (csF σ set))) set (rd σ 8 6) i)) rfl (by omega) (by decide) dX6_doFork_95 rfl ?_
                  refine g_iload_n (pc' := 97) (j := 1) hC dX6_doFork_96 rfl rfl rfl ?_
                  refine pf_X2_3 (pc' := 100) (b := i) hC (by omega : i < 6) wF_X6_77 dX6_doFork_97 rfl ?_
                  refine g_iinc (pc' := 103) (j := 0) (u := nI (i + 1)) (lv' := [(4, .int (nI (i + 1))), (3, .int (nI (rd σ 8 6))), (2, .int (nI (cn (csF σ set)))), (0, .ref (g.2.1 8)), (1, .int set)]) hC dX6_doFork_100 rfl rfl (nI_add i 1) (by decide) rfl ?_
                  refine g_goto (tgt := 71) hC dX6_doFork_103 (by decide) ?_
                  refine gg_st (σ' := (cfs (ccp (uv σ 8 6 (nI (rd σ 8 6 + 1))) (rd σ 8 6) (cn (csF σ set))) set (rd σ 8 6) ((i + 1)))) (hst) ?_
                  refine gg_lv (lv' := [(4, .int (nI (i + 1))), (3, .int (nI (rd σ 8 6))), (2, .int (nI (cn (csF σ set)))), (0, .ref (g.2.1 8)), (1, .int set)]) ?_ [0, 1, 2, 3, 4] rfl
                  exact ih71 ((i + 1)) (by omega) (by omega)
          refine gg_st (σ' := (cfs (ccp (uv σ 8 6 (nI (rd σ 8 6 + 1))) (rd σ 8 6) (cn (csF σ set))) set (rd σ 8 6) 0)) (rfl) ?_
          refine gg_lv (lv' := [(4, .int (nI 0)), (3, .int (nI (rd σ 8 6))), (2, .int (nI (cn (csF σ set)))), (0, .ref (g.2.1 8)), (1, .int set)]) ?_ [0, 1, 2, 3, 4] rfl
          exact L71 (rd σ 8 4 - 0 + 1) 0 (by omega) (by omega)
        · skip
          refine g_bipush (pc' := 37) (v := (-3)) hC dX6_doFork_35 rfl rfl ?_
          refine g_ret hC dX6_doFork_37 rfl ?_
          exact ⟨by unfold cfo; rw [cI_t (⟨c1, c10⟩), cI_t (Or.inr c32)], by unfold cfo; rw [cI_t (⟨c1, c10⟩), cI_t (Or.inr c32)]⟩
    · skip
      refine g_bipush (pc' := 15) (v := (-2)) hC dX6_doFork_13 rfl rfl ?_
      refine g_ret hC dX6_doFork_15 rfl ?_
      exact ⟨by unfold cfo; rw [cI_f (fun z => c10 z.2)], by unfold cfo; rw [cI_f (fun z => c10 z.2)]⟩
set_option maxHeartbeats 4000000 in
set_option maxRecDepth 20000 in
theorem c_bringOver (l : Launch) (g : Lay) (z0 : Nat) (σ : St) (c : Nat) (fo : Int32) (sm : Nat) (md : Nat) (hc : c < 6) (hp : nb σ (90 + 3 * c) 2 200) (hs : nb σ (90 + 3 * c) 3 7) (hL : nb σ (34 + 7 * (rd σ (90 + 3 * c) 3)) 6 200) (hsm : sm ≤ 200) (hmd : md < 8) (hLm : nb σ (34 + 7 * md) 6 200)  : CTv l yX6_bringOver cX6_bringOver 5 2 g z0 [.ref (g.2.1 8), .ref (g.2.1 (90 + 3 * c)), .int fo, .int (nI sm), .int (nI md)] σ (FV (cbo σ c fo sm md)) := by
  refine CTv.of (by decide) (Nat.le_of_ble_eq_true rfl) ?_
  intro x hxl hxa hC
  have hC : Cx x RX6 cX6_bringOver 5 none 2 g z0 := hC
  have hp2 := hp.2
  have hs2 := hs.2
  show GG x g z0 5 0 0 (Qv x g z0 (FV (cbo σ c fo sm md))) σ 0 [(0, .ref (g.2.1 8)), (1, .ref (g.2.1 (90 + 3 * c))), (2, .int fo), (3, .int (nI sm)), (4, .int (nI md))] []
  refine g_aload_n (pc' := 1) (j := 1) hC dX6_bringOver_0 rfl rfl rfl ?_
  refine g_aload_n (pc' := 2) (j := 0) hC dX6_bringOver_1 rfl rfl rfl ?_
  refine gf_X6_0 (pc' := 5) hC wF_X6_11 dX6_bringOver_2 rfl ?_
  refine g_aload_n (pc' := 6) (j := 1) hC dX6_bringOver_5 rfl rfl rfl ?_
  refine gf_X2_3 (pc' := 9) (b := c) hC (by omega : c < 6) wF_X6_77 dX6_bringOver_6 rfl ?_
  refine gg_topi (b := nI (rd σ (90 + 3 * c) 3)) (hs.1) ?_
  refine a_ldr (pc' := 10) (k := 9) (t := 5) (i := rd σ (90 + 3 * c) 3) hC (by decide) (ct_9 g σ) rfl (by omega) (by decide) dX6_bringOver_9 rfl ?_
  refine f_Vi (pc' := 13) (k := 90 + 3 * c) (st := []) hC (c_fits x.2.1 g z0 σ c ((rd σ (90 + 3 * c) 3)) (by omega) (by first | exact hp | (simp (disch := decide) only [nb, rd_uv, rd_ur, uv_cell, ur_cell]; exact hp) | omega) (by omega) (by first | exact hL | (simp (disch := decide) only [nb, rd_uv, rd_ur, uv_cell, ur_cell]; exact hL) | omega)) k_X2_fits wM_X6_113 (by decide) (by have := (by omega : c < 6); show _ < 228; omega) (ct_cl g σ (by omega : c < 6)) rfl rfl rfl rfl (Nat.le_of_ble_eq_true rfl) dX6_bringOver_10 rfl (Nat.zero_le _) (Nat.zero_le _) ?_
  refine b_if_eq (pc' := 16) (tgt := 44) hC dX6_bringOver_13 (by decide) rfl (fun c13 => ?_) (fun c13 => ?_)
  · skip
    refine g_aload_n (pc' := 45) (j := 1) hC dX6_bringOver_44 rfl rfl rfl ?_
    refine g_iload (pc' := 47) (j := 4) hC dX6_bringOver_45 rfl rfl ?_
    refine pf_X2_3 (pc' := 50) (b := c) hC (by omega : c < 6) wF_X6_77 dX6_bringOver_47 rfl ?_
    refine g_retv hC dX6_bringOver_50 ?_
    exact by unfold cbo; rw [cI_f c13]; exact rfl
  · skip
    refine g_aload_n (pc' := 17) (j := 1) hC dX6_bringOver_16 rfl rfl rfl ?_
    refine g_iconst (pc' := 18) (v := nI 0) hC dX6_bringOver_17 rfl rfl ?_
    refine pf_X2_5 (pc' := 21) (b := c) hC (by omega : c < 6) rfl rfl wF_X6_84 dX6_bringOver_18 rfl ?_
    refine g_iload_n (pc' := 22) (j := 2) hC dX6_bringOver_21 rfl rfl rfl ?_
    refine g_if_eq (pc' := 25) (tgt := 44) hC dX6_bringOver_22 (by decide) rfl (fun c22 => ?_) (fun c22 => ?_)
    · skip
      refine g_aload_n (pc' := 45) (j := 1) hC dX6_bringOver_44 rfl rfl rfl ?_
      refine g_iload (pc' := 47) (j := 4) hC dX6_bringOver_45 rfl rfl ?_
      refine pf_X2_3 (pc' := 50) (b := c) hC (by omega : c < 6) wF_X6_77 dX6_bringOver_47 rfl ?_
      refine g_retv hC dX6_bringOver_50 ?_
      exact by unfold cbo; rw [cI_t c13, cI_f (fun z => z.1 c22)]; exact rfl
    · skip
      refine g_aload_n (pc' := 26) (j := 1) hC dX6_bringOver_25 rfl rfl rfl ?_
      refine gf_X2_2 (pc' := 29) (b := c) hC (by omega : c < 6) wF_X6_74 dX6_bringOver_26 rfl ?_
      refine gg_topi (b := nI (rd σ (90 + 3 * c) 2)) ((uv_idx _ _ _ _ (by decide)).trans (hp.1)) ?_
      refine g_iload_n (pc' := 30) (j := 3) hC dX6_bringOver_29 rfl rfl rfl ?_
      refine n_icmp_le (pc' := 33) (tgt := 44) hC dX6_bringOver_30 (by decide) rfl (by omega) (by omega) (fun c30 => ?_) (fun c30 => ?_)
      · skip
        refine g_aload_n (pc' := 45) (j := 1) hC dX6_bringOver_44 rfl rfl rfl ?_
        refine g_iload (pc' := 47) (j := 4) hC dX6_bringOver_45 rfl rfl ?_
        refine pf_X2_3 (pc' := 50) (b := c) hC (by omega : c < 6) wF_X6_77 dX6_bringOver_47 rfl ?_
        refine g_retv hC dX6_bringOver_50 ?_
        exact by unfold cbo; rw [cI_t c13, cI_f (fun z => absurd z.2 (Nat.not_lt.mpr c30))]; exact rfl
      · skip
        refine g_aload_n (pc' := 34) (j := 1) hC dX6_bringOver_33 rfl rfl rfl ?_
        refine g_aload_n (pc' := 35) (j := 0) hC dX6_bringOver_34 rfl rfl rfl ?_
        refine gf_X6_0 (pc' := 38) hC wF_X6_11 dX6_bringOver_35 rfl ?_
        refine g_iload (pc' := 40) (j := 4) hC dX6_bringOver_38 rfl rfl ?_
        refine a_ldr (pc' := 41) (k := 9) (t := 5) (i := md) hC (by decide) (ct_9 g (uv σ (90 + 3 * c) 5 (nI 0))) rfl (by omega) (by decide) dX6_bringOver_40 rfl ?_
        refine f_Vv (pc' := 44) (k := 90 + 3 * c) (st := []) hC (c_takeHistory x.2.1 g z0 (uv σ (90 + 3 * c) 5 (nI 0)) c md (by omega) (by omega) (nb_cg (uv_cell _ _ _ _ (by omega)) hLm hLm.2)) k_X2_takeHistory wM_X6_102 (by decide) (by have := (by omega : c < 6); show _ < 228; omega) (ct_cl g (uv σ (90 + 3 * c) 5 (nI 0)) (by omega : c < 6)) rfl rfl rfl rfl (Nat.le_of_ble_eq_true rfl) dX6_bringOver_41 rfl (Nat.zero_le _) (Nat.zero_le _) ?_
        refine g_aload_n (pc' := 45) (j := 1) hC dX6_bringOver_44 rfl rfl rfl ?_
        refine g_iload (pc' := 47) (j := 4) hC dX6_bringOver_45 rfl rfl ?_
        refine pf_X2_3 (pc' := 50) (b := c) hC (by omega : c < 6) wF_X6_77 dX6_bringOver_47 rfl ?_
        refine g_retv hC dX6_bringOver_50 ?_
        exact by unfold cbo; rw [cI_t c13, cI_t ⟨c22, c30⟩]; exact rfl
set_option maxHeartbeats 4000000 in
set_option maxRecDepth 20000 in
theorem c_doHeal (l : Launch) (g : Lay) (z0 : Nat) (σ : St) (ua : Int32) (ub : Int32) (hG : GX g) (hI : CI σ)  : CTi l yX6_doHeal cX6_doHeal 7 (some .int) 3 g z0 [.ref (g.2.1 8), .int ua, .int ub] σ (FI ((chel σ ua ub).1) ((chel σ ua ub).2)) := by
  refine CTi.of (by decide) (Nat.le_of_ble_eq_true rfl) ?_
  intro x hxl hxa hC
  have hC : Cx x RX6 cX6_doHeal 7 (some .int) 3 g z0 := hC
  have hN := hI.nc.2
  have hR8 := hI.nr.2
  show GG x g z0 7 0 0 (Qi x g z0 (FI ((chel σ ua ub).1) ((chel σ ua ub).2))) σ 0 [(0, .ref (g.2.1 8)), (1, .int ua), (2, .int ub)] []
  refine g_aload_n (pc' := 1) (j := 0) hC dX6_doHeal_0 rfl rfl rfl ?_
  refine g_iload_n (pc' := 2) (j := 1) hC dX6_doHeal_1 rfl rfl rfl ?_
  refine f_Vi (pc' := 5) (k := 8) (st := []) hC (c_hasBranch x.2.1 g z0 σ ua (hI.nr)) k_X6_hasBranch wM_X6_183 (by decide) (by decide) (ct_8 g σ) rfl rfl rfl rfl (Nat.le_of_ble_eq_true rfl) dX6_doHeal_2 rfl (Nat.zero_le _) (Nat.zero_le _) ?_
  refine b_if_eq (pc' := 8) (tgt := 21) hC dX6_doHeal_5 (by decide) rfl (fun c5 => ?_) (fun c5 => ?_)
  · skip
    refine g_iconst (pc' := 22) (v := (-1)) hC dX6_doHeal_21 rfl rfl ?_
    refine g_ret hC dX6_doHeal_22 rfl ?_
    exact ⟨by unfold chel; rw [cI_f (fun z => c5 z.1)], by unfold chel; rw [cI_f (fun z => c5 z.1)]⟩
  · skip
    refine g_aload_n (pc' := 9) (j := 0) hC dX6_doHeal_8 rfl rfl rfl ?_
    refine g_iload_n (pc' := 10) (j := 2) hC dX6_doHeal_9 rfl rfl rfl ?_
    refine f_Vi (pc' := 13) (k := 8) (st := []) hC (c_hasBranch x.2.1 g z0 σ ub (hI.nr)) k_X6_hasBranch wM_X6_183 (by decide) (by decide) (ct_8 g σ) rfl rfl rfl rfl (Nat.le_of_ble_eq_true rfl) dX6_doHeal_10 rfl (Nat.zero_le _) (Nat.zero_le _) ?_
    refine b_if_eq (pc' := 16) (tgt := 21) hC dX6_doHeal_13 (by decide) rfl (fun c13 => ?_) (fun c13 => ?_)
    · skip
      refine g_iconst (pc' := 22) (v := (-1)) hC dX6_doHeal_21 rfl rfl ?_
      refine g_ret hC dX6_doHeal_22 rfl ?_
      exact ⟨by unfold chel; rw [cI_f (fun z => c13 z.2.1)], by unfold chel; rw [cI_f (fun z => c13 z.2.1)]⟩
    · skip
      refine g_iload_n (pc' := 17) (j := 1) hC dX6_doHeal_16 rfl rfl rfl ?_
      refine g_iload_n (pc' := 18) (j := 2) hC dX6_doHeal_17 rfl rfl rfl ?_
      refine g_icmp_ne (pc' := 21) (tgt := 23) hC dX6_doHeal_18 (by decide) rfl (fun c18 => ?_) (fun c18 => ?_)
      · skip
        obtain ⟨hcN, hcL⟩ := vl2_n (by have := hI.nr.2; omega) c5
        have hcM := hI.nr.2
        obtain ⟨hdN, hdL⟩ := vl2_n (by have := hI.nr.2; omega) c13
        have hdM := hI.nr.2
        have hne : cn ua ≠ cn ub := fun z => c18 (hcN.trans ((congrArg nI z).trans hdN.symm))
        have hA := hI.sz (b := cn ua) (by omega)
        have hB := hI.sz (b := cn ub) (by omega)
        have hA2 := hA.2
        have hB2 := hB.2
        have h0 : σ.1 (34 + 7 * cn ua + 6) 0 = σ.1 (34 + 7 * cn ub + 6) 0 := (hI.h0 (by omega)).trans (hI.h0 (by omega)).symm
        have hk := csh_ok h0
        have hk2 := hk.2.1
        have hk3 := hk.2.2
        refine gg_lve (lv' := [(0, .ref (g.2.1 8)), (1, .int (nI (cn ua))), (2, .int ub)]) (by rw [← hcN]) ?_
        refine gg_lve (lv' := [(0, .ref (g.2.1 8)), (1, .int (nI (cn ua))), (2, .int (nI (cn ub)))]) (by rw [← hdN]) ?_
        refine g_aload_n (pc' := 24) (j := 0) hC dX6_doHeal_23 rfl rfl rfl ?_
        refine gf_X6_0 (pc' := 27) hC wF_X6_11 dX6_doHeal_24 rfl ?_
        refine g_iload_n (pc' := 28) (j := 1) hC dX6_doHeal_27 rfl rfl rfl ?_
        refine a_ldr (pc' := 29) (k := 9) (t := 5) (i := cn ua) hC (by decide) (ct_9 g σ) rfl (by omega) (by decide) dX6_doHeal_28 rfl ?_
        refine g_aload_n (pc' := 30) (j := 0) hC dX6_doHeal_29 rfl rfl rfl ?_
        refine gf_X6_0 (pc' := 33) hC wF_X6_11 dX6_doHeal_30 rfl ?_
        refine g_iload_n (pc' := 34) (j := 2) hC dX6_doHeal_33 rfl rfl rfl ?_
        refine a_ldr (pc' := 35) (k := 9) (t := 5) (i := cn ub) hC (by decide) (ct_9 g σ) rfl (by omega) (by decide) dX6_doHeal_34 rfl ?_
        refine f_Vi (pc' := 38) (k := 34 + 7 * (cn ua)) (st := []) hC (c_sharedWith x.2.1 g z0 σ ((cn ua)) ((cn ub)) (hG) (by omega) (hA) (by omega) (hB) (h0)) k_X1_sharedWith wM_X6_195 (by decide) (by have := (by omega : (cn ua) < 8); show _ < 228; omega) (ct_br g σ (by omega : (cn ua) < 8)) rfl rfl rfl rfl (Nat.le_of_ble_eq_true rfl) dX6_doHeal_35 rfl (Nat.zero_le _) (Nat.zero_le _) ?_
        refine g_istore_n (pc' := 39) (lv' := [(3, .int (nI (csh σ (cn ua) (cn ub)))), (0, .ref (g.2.1 8)), (1, .int (nI (cn ua))), (2, .int (nI (cn ub)))]) hC dX6_doHeal_38 rfl rfl (by decide) rfl ?_
        refine g_aload_n (pc' := 40) (j := 1) hC dX6_doHeal_39 rfl rfl rfl ?_
        refine gf_X6_0 (pc' := 43) hC wF_X6_11 dX6_doHeal_40 rfl ?_
        refine g_iload_n (pc' := 44) (j := 2) hC dX6_doHeal_43 rfl rfl rfl ?_
        refine a_ldr (pc' := 45) (k := 9) (t := 5) (i := cn ua) hC (by decide) (ct_9 g σ) rfl (by omega) (by decide) dX6_doHeal_44 rfl ?_
        refine gf_X1_6 (pc' := 48) (b := cn ua) hC (by omega : (cn ua) < 8) wF_X6_53 dX6_doHeal_45 rfl ?_
        refine gg_topi (b := nI (rd σ (34 + 7 * cn ua) 6)) (hA.1) ?_
        refine g_iconst (pc' := 49) (v := nI 1) hC dX6_doHeal_48 rfl rfl ?_
        refine n_iadd (pc' := 50) hC dX6_doHeal_49 rfl ?_
        refine g_aload_n (pc' := 51) (j := 1) hC dX6_doHeal_50 rfl rfl rfl ?_
        refine gf_X6_0 (pc' := 54) hC wF_X6_11 dX6_doHeal_51 rfl ?_
        refine g_iload_n (pc' := 55) (j := 3) hC dX6_doHeal_54 rfl rfl rfl ?_
        refine a_ldr (pc' := 56) (k := 9) (t := 5) (i := cn ub) hC (by decide) (ct_9 g σ) rfl (by omega) (by decide) dX6_doHeal_55 rfl ?_
        refine gf_X1_6 (pc' := 59) (b := cn ub) hC (by omega : (cn ub) < 8) wF_X6_53 dX6_doHeal_56 rfl ?_
        refine gg_topi (b := nI (rd σ (34 + 7 * cn ub) 6)) (hB.1) ?_
        refine n_iadd (pc' := 60) hC dX6_doHeal_59 rfl ?_
        refine g_iload_n (pc' := 61) (j := 0) hC dX6_doHeal_60 rfl rfl rfl ?_
        refine n_isub (pc' := 62) hC dX6_doHeal_61 rfl (by omega) ?_
        refine g_istore (pc' := 64) (lv' := [(4, .int (nI ((((rd σ (34 + 7 * cn ua) 6) + 1) + (rd σ (34 + 7 * cn ub) 6)) - (csh σ (cn ua) (cn ub))))), (3, .int (nI (csh σ (cn ua) (cn ub)))), (0, .ref (g.2.1 8)), (1, .int (nI (cn ua))), (2, .int (nI (cn ub)))]) hC dX6_doHeal_62 rfl (by decide) rfl ?_
        refine g_aload_n (pc' := 65) (j := 2) hC dX6_doHeal_64 rfl rfl rfl ?_
        refine gf_X6_0 (pc' := 68) hC wF_X6_11 dX6_doHeal_65 rfl ?_
        refine g_iload_n (pc' := 69) (j := 3) hC dX6_doHeal_68 rfl rfl rfl ?_
        refine a_ldr (pc' := 70) (k := 9) (t := 5) (i := cn ua) hC (by decide) (ct_9 g σ) rfl (by omega) (by decide) dX6_doHeal_69 rfl ?_
        refine g_aload_n (pc' := 71) (j := 2) hC dX6_doHeal_70 rfl rfl rfl ?_
        refine gf_X6_0 (pc' := 74) hC wF_X6_11 dX6_doHeal_71 rfl ?_
        refine g_iload_n (pc' := 75) (j := 4) hC dX6_doHeal_74 rfl rfl rfl ?_
        refine a_ldr (pc' := 76) (k := 9) (t := 5) (i := cn ub) hC (by decide) (ct_9 g σ) rfl (by omega) (by decide) dX6_doHeal_75 rfl ?_
        refine f_Vi (pc' := 79) (k := 34 + 7 * (cn ua)) (st := []) hC (c_conflictsWith x.2.1 g z0 σ ((cn ua)) ((cn ub)) (hG) (by omega) (hA) (by omega) (hB) (h0)) k_X1_conflictsWith wM_X6_198 (by decide) (by have := (by omega : (cn ua) < 8); show _ < 228; omega) (ct_br g σ (by omega : (cn ua) < 8)) rfl rfl rfl rfl (Nat.le_of_ble_eq_true rfl) dX6_doHeal_76 rfl (Nat.zero_le _) (Nat.zero_le _) ?_
        refine g_if_ne (pc' := 82) (tgt := 99) hC dX6_doHeal_79 (by decide) rfl (fun c79 => ?_) (fun c79 => ?_)
        · skip
          refine g_bipush (pc' := 101) (v := (-3)) hC dX6_doHeal_99 rfl rfl ?_
          refine g_ret hC dX6_doHeal_101 rfl ?_
          exact ⟨by unfold chel; rw [cI_t (⟨c5, c13, c18⟩), cI_f (fun z => c79 z.1)], by unfold chel; rw [cI_t (⟨c5, c13, c18⟩), cI_f (fun z => c79 z.1)]⟩
        · skip
          refine g_aload_n (pc' := 83) (j := 2) hC dX6_doHeal_82 rfl rfl rfl ?_
          refine gf_X6_6 (pc' := 86) hC wF_X6_50 dX6_doHeal_83 rfl ?_
          refine gg_topi (b := nI (rd σ 8 6)) (hI.nr.1) ?_
          refine g_bipush (pc' := 88) (v := nI 8) hC dX6_doHeal_86 rfl rfl ?_
          refine n_icmp_ge (pc' := 91) (tgt := 99) hC dX6_doHeal_88 (by decide) rfl (by omega) (by omega) (fun c88 => ?_) (fun c88 => ?_)
          · skip
            refine g_bipush (pc' := 101) (v := (-3)) hC dX6_doHeal_99 rfl rfl ?_
            refine g_ret hC dX6_doHeal_101 rfl ?_
            exact ⟨by unfold chel; rw [cI_t (⟨c5, c13, c18⟩), cI_f (fun z => absurd z.2.1 (Nat.not_lt.mpr c88))], by unfold chel; rw [cI_t (⟨c5, c13, c18⟩), cI_f (fun z => absurd z.2.1 (Nat.not_lt.mpr c88))]⟩
          · skip
            refine g_iload (pc' := 93) (j := 0) hC dX6_doHeal_91 rfl rfl ?_
            refine g_sipush (pc' := 96) (v := nI 200) hC dX6_doHeal_93 rfl rfl ?_
            refine n_icmp_le (pc' := 99) (tgt := 102) hC dX6_doHeal_96 (by decide) rfl (by omega) (by omega) (fun c96 => ?_) (fun c96 => ?_)
            · skip
              obtain ⟨hK1, hK2, hK3, hK4, hK5, hK6, hK7, hK8, hK9, hK10⟩ := ch_ok hI (x := cn ua) (y := cn ub) hcL hdL h0 ⟨c79, c88, c96⟩
              have hK22 := hK2.2
              have hK12 := hK1.2
              refine g_aload_n (pc' := 103) (j := 2) hC dX6_doHeal_102 rfl rfl rfl ?_
              refine gf_X6_6 (pc' := 106) hC wF_X6_50 dX6_doHeal_103 rfl ?_
              refine gg_topi (b := nI (rd σ 8 6)) (hI.nr.1) ?_
              refine g_istore (pc' := 108) (lv' := [(5, .int (nI (rd σ 8 6))), (4, .int (nI ((((rd σ (34 + 7 * cn ua) 6) + 1) + (rd σ (34 + 7 * cn ub) 6)) - (csh σ (cn ua) (cn ub))))), (3, .int (nI (csh σ (cn ua) (cn ub)))), (0, .ref (g.2.1 8)), (1, .int (nI (cn ua))), (2, .int (nI (cn ub)))]) hC dX6_doHeal_106 rfl (by decide) rfl ?_
              refine g_aload_n (pc' := 109) (j := 3) hC dX6_doHeal_108 rfl rfl rfl ?_
              refine g_dup (pc' := 110) hC dX6_doHeal_109 rfl rfl ?_
              refine gf_X6_6 (pc' := 113) hC wF_X6_50 dX6_doHeal_110 rfl ?_
              refine gg_topi (b := nI (rd σ 8 6)) (hI.nr.1) ?_
              refine g_iconst (pc' := 114) (v := nI 1) hC dX6_doHeal_113 rfl rfl ?_
              refine n_iadd (pc' := 115) hC dX6_doHeal_114 rfl ?_
              refine pf_X6_6 (pc' := 118) hC wF_X6_50 dX6_doHeal_115 rfl ?_
              refine g_aload_n (pc' := 119) (j := 3) hC dX6_doHeal_118 rfl rfl rfl ?_
              refine gf_X6_0 (pc' := 122) hC wF_X6_11 dX6_doHeal_119 rfl ?_
              refine g_iload (pc' := 124) (j := 0) hC dX6_doHeal_122 rfl rfl ?_
              refine a_ldr (pc' := 125) (k := 9) (t := 5) (i := rd σ 8 6) hC (by decide) (ct_9 g (uv σ 8 6 (nI ((rd σ 8 6) + 1)))) rfl (by omega) (by decide) dX6_doHeal_124 rfl ?_
              refine g_aload_n (pc' := 126) (j := 3) hC dX6_doHeal_125 rfl rfl rfl ?_
              refine gf_X6_0 (pc' := 129) hC wF_X6_11 dX6_doHeal_126 rfl ?_
              refine g_iload_n (pc' := 130) (j := 4) hC dX6_doHeal_129 rfl rfl rfl ?_
              refine a_ldr (pc' := 131) (k := 9) (t := 5) (i := cn ua) hC (by decide) (ct_9 g (uv σ 8 6 (nI ((rd σ 8 6) + 1)))) rfl (by omega) (by decide) dX6_doHeal_130 rfl ?_
              refine f_Vv (pc' := 134) (k := 34 + 7 * (rd σ 8 6)) (st := []) hC (c_copyFrom x.2.1 g z0 (uv σ 8 6 (nI ((rd σ 8 6) + 1))) ((rd σ 8 6)) ((cn ua)) (by omega) (by omega) (by omega) (nb_cg (uv_cell _ _ _ _ (by omega)) hA hA.2)) k_X1_copyFrom wM_X6_180 (by decide) (by have := (by omega : (rd σ 8 6) < 8); show _ < 228; omega) (ct_br g (uv σ 8 6 (nI ((rd σ 8 6) + 1))) (by omega : (rd σ 8 6) < 8)) rfl rfl rfl rfl (Nat.le_of_ble_eq_true rfl) dX6_doHeal_131 rfl (Nat.zero_le _) (Nat.zero_le _) ?_
              refine g_aload_n (pc' := 135) (j := 3) hC dX6_doHeal_134 rfl rfl rfl ?_
              refine gf_X6_0 (pc' := 138) hC wF_X6_11 dX6_doHeal_135 rfl ?_
              refine g_iload (pc' := 140) (j := 0) hC dX6_doHeal_138 rfl rfl ?_
              refine a_ldr (pc' := 141) (k := 9) (t := 5) (i := rd σ 8 6) hC (by decide) (ct_9 g (ccp (uv σ 8 6 (nI ((rd σ 8 6) + 1))) (rd σ 8 6) (cn ua))) rfl (by omega) (by decide) dX6_doHeal_140 rfl ?_
              refine g_aload_n (pc' := 142) (j := 3) hC dX6_doHeal_141 rfl rfl rfl ?_
              refine gf_X6_0 (pc' := 145) hC wF_X6_11 dX6_doHeal_142 rfl ?_
              refine g_iload_n (pc' := 146) (j := 5) hC dX6_doHeal_145 rfl rfl rfl ?_
              refine a_ldr (pc' := 147) (k := 9) (t := 5) (i := cn ub) hC (by decide) (ct_9 g (ccp (uv σ 8 6 (nI ((rd σ 8 6) + 1))) (rd σ 8 6) (cn ua))) rfl (by omega) (by decide) dX6_doHeal_146 rfl ?_
              refine f_Vi (pc' := 150) (k := 34 + 7 * (cn ub)) (st := [.ref (g.2.1 (34 + 7 * (rd σ 8 6)))]) hC (c_lastHashB x.2.1 g z0 (ccp (uv σ 8 6 (nI ((rd σ 8 6) + 1))) (rd σ 8 6) (cn ua)) ((cn ub)) (by omega) (hK1.1)) k_X1_lastHash wM_X6_136 (by decide) (by have := (by omega : (cn ub) < 8); show _ < 228; omega) (ct_br g (ccp (uv σ 8 6 (nI ((rd σ 8 6) + 1))) (rd σ 8 6) (cn ua)) (by omega : (cn ub) < 8)) rfl rfl rfl rfl (Nat.le_of_ble_eq_true rfl) dX6_doHeal_147 rfl (Nat.zero_le _) (Nat.zero_le _) ?_
              refine f_Vv (pc' := 153) (k := 34 + 7 * (rd σ 8 6)) (st := []) hC (c_appendMerge x.2.1 g z0 (ccp (uv σ 8 6 (nI ((rd σ 8 6) + 1))) (rd σ 8 6) (cn ua)) ((rd σ 8 6)) (((ccp (uv σ 8 6 (nI ((rd σ 8 6) + 1))) (rd σ 8 6) (cn ua)).1 (34 + 7 * (cn ub) + 6) (rd (ccp (uv σ 8 6 (nI ((rd σ 8 6) + 1))) (rd σ 8 6) (cn ua)) (34 + 7 * (cn ub)) 6))) (by omega) (hK2.1) (by have := hK2.2; show rd (ch1 σ (cn ua) (cn ub)) _ _ < 200; omega)) k_X1_appendMerge wM_X6_201 (by decide) (by have := (by omega : (rd σ 8 6) < 8); show _ < 228; omega) (ct_br g (ccp (uv σ 8 6 (nI ((rd σ 8 6) + 1))) (rd σ 8 6) (cn ua)) (by omega : (rd σ 8 6) < 8)) rfl rfl rfl rfl (Nat.le_of_ble_eq_true rfl) dX6_doHeal_150 rfl (Nat.zero_le _) (Nat.zero_le _) ?_
              refine g_aload_n (pc' := 154) (j := 3) hC dX6_doHeal_153 rfl rfl rfl ?_
              refine gf_X6_0 (pc' := 157) hC wF_X6_11 dX6_doHeal_154 rfl ?_
              refine g_iload (pc' := 159) (j := 0) hC dX6_doHeal_157 rfl rfl ?_
              refine a_ldr (pc' := 160) (k := 9) (t := 5) (i := rd σ 8 6) hC (by decide) (ct_9 g (cap (ccp (uv σ 8 6 (nI ((rd σ 8 6) + 1))) (rd σ 8 6) (cn ua)) (rd σ 8 6) (nI 2) (-1) (-1) (nI 0) ((ccp (uv σ 8 6 (nI ((rd σ 8 6) + 1))) (rd σ 8 6) (cn ua)).1 (34 + 7 * (cn ub) + 6) (rd (ccp (uv σ 8 6 (nI ((rd σ 8 6) + 1))) (rd σ 8 6) (cn ua)) (34 + 7 * (cn ub)) 6)))) rfl (by omega) (by decide) dX6_doHeal_159 rfl ?_
              refine g_aload_n (pc' := 161) (j := 3) hC dX6_doHeal_160 rfl rfl rfl ?_
              refine gf_X6_0 (pc' := 164) hC wF_X6_11 dX6_doHeal_161 rfl ?_
              refine g_iload_n (pc' := 165) (j := 5) hC dX6_doHeal_164 rfl rfl rfl ?_
              refine a_ldr (pc' := 166) (k := 9) (t := 5) (i := cn ub) hC (by decide) (ct_9 g (cap (ccp (uv σ 8 6 (nI ((rd σ 8 6) + 1))) (rd σ 8 6) (cn ua)) (rd σ 8 6) (nI 2) (-1) (-1) (nI 0) ((ccp (uv σ 8 6 (nI ((rd σ 8 6) + 1))) (rd σ 8 6) (cn ua)).1 (34 + 7 * (cn ub) + 6) (rd (ccp (uv σ 8 6 (nI ((rd σ 8 6) + 1))) (rd σ 8 6) (cn ua)) (34 + 7 * (cn ub)) 6)))) rfl (by omega) (by decide) dX6_doHeal_165 rfl ?_
              refine g_iload_n (pc' := 167) (j := 2) hC dX6_doHeal_166 rfl rfl rfl ?_
              refine f_Vv (pc' := 170) (k := 34 + 7 * (rd σ 8 6)) (st := []) hC (c_appendOwn x.2.1 g z0 (cap (ccp (uv σ 8 6 (nI ((rd σ 8 6) + 1))) (rd σ 8 6) (cn ua)) (rd σ 8 6) (nI 2) (-1) (-1) (nI 0) ((ccp (uv σ 8 6 (nI ((rd σ 8 6) + 1))) (rd σ 8 6) (cn ua)).1 (34 + 7 * (cn ub) + 6) (rd (ccp (uv σ 8 6 (nI ((rd σ 8 6) + 1))) (rd σ 8 6) (cn ua)) (34 + 7 * (cn ub)) 6))) ((rd σ 8 6)) ((cn ub)) ((csh σ (cn ua) (cn ub))) (by omega) (hK5.1) (by omega) (by omega) (hK4.1) (hK7) (hK6)) k_X1_appendOwn wM_X6_204 (by decide) (by have := (by omega : (rd σ 8 6) < 8); show _ < 228; omega) (ct_br g (cap (ccp (uv σ 8 6 (nI ((rd σ 8 6) + 1))) (rd σ 8 6) (cn ua)) (rd σ 8 6) (nI 2) (-1) (-1) (nI 0) ((ccp (uv σ 8 6 (nI ((rd σ 8 6) + 1))) (rd σ 8 6) (cn ua)).1 (34 + 7 * (cn ub) + 6) (rd (ccp (uv σ 8 6 (nI ((rd σ 8 6) + 1))) (rd σ 8 6) (cn ua)) (34 + 7 * (cn ub)) 6))) (by omega : (rd σ 8 6) < 8)) rfl rfl rfl rfl (Nat.le_of_ble_eq_true rfl) dX6_doHeal_167 rfl (Nat.zero_le _) (Nat.zero_le _) ?_
              refine g_iconst (pc' := 171) (v := nI 0) hC dX6_doHeal_170 rfl rfl ?_
              refine g_istore (pc' := 173) (lv' := [(6, .int (nI 0)), (5, .int (nI (rd σ 8 6))), (4, .int (nI ((((rd σ (34 + 7 * cn ua) 6) + 1) + (rd σ (34 + 7 * cn ub) 6)) - (csh σ (cn ua) (cn ub))))), (3, .int (nI (csh σ (cn ua) (cn ub)))), (0, .ref (g.2.1 8)), (1, .int (nI (cn ua))), (2, .int (nI (cn ub)))]) hC dX6_doHeal_171 rfl (by decide) rfl ?_
              have L173 : ∀ (fu : Nat) (i : Nat), (i ≤ rd σ 8 4) → (rd σ 8 4 - i) < fu → GG x g z0 7 0 0 (Qi x g z0 (FI ((chel σ ua ub).1) ((chel σ ua ub).2))) (chl (ch3 σ (cn ua) (cn ub)) (cn ua) (cn ub) (csh σ (cn ua) (cn ub)) (rd σ 8 6) i) 173 [(6, .int (nI i)), (5, .int (nI (rd σ 8 6))), (3, .int (nI (csh σ (cn ua) (cn ub)))), (0, .ref (g.2.1 8)), (1, .int (nI (cn ua))), (2, .int (nI (cn ub)))] [] := by
                intro fu
                induction fu with
                | zero => intro i hi hz; exact absurd hz (Nat.not_lt_zero _)
                | succ fu ih173 =>
                  intro i hi hf
                  refine g_iload (pc' := 175) (j := 0) hC dX6_doHeal_173 rfl rfl ?_
                  refine g_aload_n (pc' := 176) (j := 3) hC dX6_doHeal_175 rfl rfl rfl ?_
                  refine gf_X6_4 (pc' := 179) hC wF_X6_44 dX6_doHeal_176 rfl ?_
                  refine gg_topi (b := nI (rd σ 8 4)) ((chl_o _ _ _ _ _ _ _ (by omega)).trans (hK10.trans hI.nc.1)) ?_
                  refine n_icmp_ge (pc' := 182) (tgt := 249) hC dX6_doHeal_179 (by decide) rfl (by omega) (by omega) (fun c179 => ?_) (fun c179 => ?_)
                  · skip
                    refine g_iload (pc' := 251) (j := 1) hC dX6_doHeal_249 rfl rfl ?_
                    refine g_ret hC dX6_doHeal_251 rfl ?_
                    exact ⟨by unfold chel; rw [cI_t (⟨c5, c13, c18⟩), cI_t ⟨c79, c88, c96⟩], by unfold chel; rw [cI_t (⟨c5, c13, c18⟩), cI_t ⟨c79, c88, c96⟩, show rd σ 8 4 = i by omega]⟩
                  · skip
                    have hse : nb (chl (ch3 σ (cn ua) (cn ub)) (cn ua) (cn ub) (csh σ (cn ua) (cn ub)) (rd σ 8 6) i) (90 + 3 * i) 3 7 := nb_cg ((chl_o _ _ _ _ _ _ _ (by omega)).trans (hK9 _ _ (by omega))) (hI.se (c := i) (by omega)) (hI.se (by omega)).2
                    have hse2 := hse.2
                    refine g_aload_n (pc' := 183) (j := 3) hC dX6_doHeal_182 rfl rfl rfl ?_
                    refine gf_X6_1 (pc' := 186) hC wF_X6_19 dX6_doHeal_183 rfl ?_
                    refine g_iload (pc' := 188) (j := 0) hC dX6_doHeal_186 rfl rfl ?_
                    refine a_ldr (pc' := 189) (k := 10) (t := 6) (i := i) hC (by decide) (ct_10 g (chl (ch3 σ (cn ua) (cn ub)) (cn ua) (cn ub) (csh σ (cn ua) (cn ub)) (rd σ 8 6) i)) rfl (by omega) (by decide) dX6_doHeal_188 rfl ?_
                    refine gf_X2_3 (pc' := 192) (b := i) hC (by omega : i < 6) wF_X6_77 dX6_doHeal_189 rfl ?_
                    refine gg_topi (b := nI (rd (chl (ch3 σ (cn ua) (cn ub)) (cn ua) (cn ub) (csh σ (cn ua) (cn ub)) (rd σ 8 6) i) (90 + 3 * i) 3)) (hse.1) ?_
                    refine g_iload_n (pc' := 193) (j := 4) hC dX6_doHeal_192 rfl rfl rfl ?_
                    refine n_icmp_eq (pc' := 196) (tgt := 210) hC dX6_doHeal_193 (by decide) rfl (by omega) (by omega) (fun c193 => ?_) (fun c193 => ?_)
                    · skip
                      have hor : rd (chl (ch3 σ (cn ua) (cn ub)) (cn ua) (cn ub) (csh σ (cn ua) (cn ub)) (rd σ 8 6) i) (90 + 3 * i) 3 = cn ua ∨ rd (chl (ch3 σ (cn ua) (cn ub)) (cn ua) (cn ub) (csh σ (cn ua) (cn ub)) (rd σ 8 6) i) (90 + 3 * i) 3 = cn ub := Or.inl c193
                      refine g_aload_n (pc' := 211) (j := 3) hC dX6_doHeal_210 rfl rfl rfl ?_
                      refine g_aload_n (pc' := 212) (j := 3) hC dX6_doHeal_211 rfl rfl rfl ?_
                      refine gf_X6_1 (pc' := 215) hC wF_X6_19 dX6_doHeal_212 rfl ?_
                      refine g_iload (pc' := 217) (j := 0) hC dX6_doHeal_215 rfl rfl ?_
                      refine a_ldr (pc' := 218) (k := 10) (t := 6) (i := i) hC (by decide) (ct_10 g (chl (ch3 σ (cn ua) (cn ub)) (cn ua) (cn ub) (csh σ (cn ua) (cn ub)) (rd σ 8 6) i)) rfl (by omega) (by decide) dX6_doHeal_217 rfl ?_
                      refine g_aload_n (pc' := 219) (j := 3) hC dX6_doHeal_218 rfl rfl rfl ?_
                      refine gf_X6_1 (pc' := 222) hC wF_X6_19 dX6_doHeal_219 rfl ?_
                      refine g_iload (pc' := 224) (j := 0) hC dX6_doHeal_222 rfl rfl ?_
                      refine a_ldr (pc' := 225) (k := 10) (t := 6) (i := i) hC (by decide) (ct_10 g (chl (ch3 σ (cn ua) (cn ub)) (cn ua) (cn ub) (csh σ (cn ua) (cn ub)) (rd σ 8 6) i)) rfl (by omega) (by decide) dX6_doHeal_224 rfl ?_
                      refine gf_X2_3 (pc' := 228) (b := i) hC (by omega : i < 6) wF_X6_77 dX6_doHeal_225 rfl ?_
                      refine gg_topi (b := nI (rd (chl (ch3 σ (cn ua) (cn ub)) (cn ua) (cn ub) (csh σ (cn ua) (cn ub)) (rd σ 8 6) i) (90 + 3 * i) 3)) (hse.1) ?_
                      refine g_iload_n (pc' := 229) (j := 5) hC dX6_doHeal_228 rfl rfl rfl ?_
                      refine n_icmp_ne (pc' := 232) (tgt := 236) hC dX6_doHeal_229 (by decide) rfl (by omega) (by omega) (fun c229 => ?_) (fun c229 => ?_)
                      · skip
                        have hst : cbo (chl (ch3 σ (cn ua) (cn ub)) (cn ua) (cn ub) (csh σ (cn ua) (cn ub)) (rd σ 8 6) i) i (nI 0) (csh σ (cn ua) (cn ub)) (rd σ 8 6) = chl (ch3 σ (cn ua) (cn ub)) (cn ua) (cn ub) (csh σ (cn ua) (cn ub)) (rd σ 8 6) (i + 1) := by show _ = cI _ _ _; rw [cI_t hor, cI_f c229]
                        refine g_iconst (pc' := 237) (v := nI 0) hC dX6_doHeal_236 rfl rfl ?_
                        refine g_iload_n (pc' := 238) (j := 2) hC dX6_doHeal_237 rfl rfl rfl ?_
                        refine g_iload (pc' := 240) (j := 1) hC dX6_doHeal_238 rfl rfl ?_
                        refine f_Vv (pc' := 243) (k := 8) (st := []) hC (c_bringOver x.2.1 g z0 (chl (ch3 σ (cn ua) (cn ub)) (cn ua) (cn ub) (csh σ (cn ua) (cn ub)) (rd σ 8 6) i) i ((nI 0)) ((csh σ (cn ua) (cn ub))) ((rd σ 8 6)) (by omega) (nb_cg ((chl_o _ _ _ _ _ _ _ (by omega)).trans (hK9 _ _ (by omega))) (hI.po (c := i) (by omega)) (hI.po (by omega)).2) (hse) (nb_cg (chl_o _ _ _ _ _ _ _ (by omega)) (hK8 _ (by omega)) (hK8 _ (by omega)).2) (by omega) (by omega) (nb_cg (chl_o _ _ _ _ _ _ _ (by omega)) (hK8 _ (by omega)) (hK8 _ (by omega)).2)) k_X6_bringOver wM_X6_208 (by decide) (by decide) (ct_8 g (chl (ch3 σ (cn ua) (cn ub)) (cn ua) (cn ub) (csh σ (cn ua) (cn ub)) (rd σ 8 6) i)) rfl rfl rfl rfl (Nat.le_of_ble_eq_true rfl) dX6_doHeal_240 rfl (Nat.zero_le _) (Nat.zero_le _) ?_
                        refine g_iinc (pc' := 246) (j := 0) (u := nI (i + 1)) (lv' := [(6, .int (nI (i + 1))), (5, .int (nI (rd σ 8 6))), (3, .int (nI (csh σ (cn ua) (cn ub)))), (0, .ref (g.2.1 8)), (1, .int (nI (cn ua))), (2, .int (nI (cn ub)))]) hC dX6_doHeal_243 rfl rfl (nI_add i 1) (by decide) rfl ?_
                        refine g_goto (tgt := 173) hC dX6_doHeal_246 (by decide) ?_
                        refine gg_st (σ' := (chl (ch3 σ (cn ua) (cn ub)) (cn ua) (cn ub) (csh σ (cn ua) (cn ub)) (rd σ 8 6) ((i + 1)))) (hst) ?_
                        refine gg_lv (lv' := [(6, .int (nI (i + 1))), (5, .int (nI (rd σ 8 6))), (3, .int (nI (csh σ (cn ua) (cn ub)))), (0, .ref (g.2.1 8)), (1, .int (nI (cn ua))), (2, .int (nI (cn ub)))]) ?_ [0, 1, 2, 3, 4, 5] rfl
                        exact ih173 ((i + 1)) (by omega) (by omega)
                      · skip
                        have hst : cbo (chl (ch3 σ (cn ua) (cn ub)) (cn ua) (cn ub) (csh σ (cn ua) (cn ub)) (rd σ 8 6) i) i (nI 1) (csh σ (cn ua) (cn ub)) (rd σ 8 6) = chl (ch3 σ (cn ua) (cn ub)) (cn ua) (cn ub) (csh σ (cn ua) (cn ub)) (rd σ 8 6) (i + 1) := by show _ = cI _ _ _; rw [cI_t hor, cI_t c229]
                        refine g_iconst (pc' := 233) (v := nI 1) hC dX6_doHeal_232 rfl rfl ?_
                        refine g_goto (tgt := 237) hC dX6_doHeal_233 (by decide) ?_
                        refine g_iload_n (pc' := 238) (j := 2) hC dX6_doHeal_237 rfl rfl rfl ?_
                        refine g_iload (pc' := 240) (j := 1) hC dX6_doHeal_238 rfl rfl ?_
                        refine f_Vv (pc' := 243) (k := 8) (st := []) hC (c_bringOver x.2.1 g z0 (chl (ch3 σ (cn ua) (cn ub)) (cn ua) (cn ub) (csh σ (cn ua) (cn ub)) (rd σ 8 6) i) i ((nI 1)) ((csh σ (cn ua) (cn ub))) ((rd σ 8 6)) (by omega) (nb_cg ((chl_o _ _ _ _ _ _ _ (by omega)).trans (hK9 _ _ (by omega))) (hI.po (c := i) (by omega)) (hI.po (by omega)).2) (hse) (nb_cg (chl_o _ _ _ _ _ _ _ (by omega)) (hK8 _ (by omega)) (hK8 _ (by omega)).2) (by omega) (by omega) (nb_cg (chl_o _ _ _ _ _ _ _ (by omega)) (hK8 _ (by omega)) (hK8 _ (by omega)).2)) k_X6_bringOver wM_X6_208 (by decide) (by decide) (ct_8 g (chl (ch3 σ (cn ua) (cn ub)) (cn ua) (cn ub) (csh σ (cn ua) (cn ub)) (rd σ 8 6) i)) rfl rfl rfl rfl (Nat.le_of_ble_eq_true rfl) dX6_doHeal_240 rfl (Nat.zero_le _) (Nat.zero_le _) ?_
                        refine g_iinc (pc' := 246) (j := 0) (u := nI (i + 1)) (lv' := [(6, .int (nI (i + 1))), (5, .int (nI (rd σ 8 6))), (3, .int (nI (csh σ (cn ua) (cn ub)))), (0, .ref (g.2.1 8)), (1, .int (nI (cn ua))), (2, .int (nI (cn ub)))]) hC dX6_doHeal_243 rfl rfl (nI_add i 1) (by decide) rfl ?_
                        refine g_goto (tgt := 173) hC dX6_doHeal_246 (by decide) ?_
                        refine gg_st (σ' := (chl (ch3 σ (cn ua) (cn ub)) (cn ua) (cn ub) (csh σ (cn ua) (cn ub)) (rd σ 8 6) ((i + 1)))) (hst) ?_
                        refine gg_lv (lv' := [(6, .int (nI (i + 1))), (5, .int (nI (rd σ 8 6))), (3, .int (nI (csh σ (cn ua) (cn ub)))), (0, .ref (g.2.1 8)), (1, .int (nI (cn ua))), (2, .int (nI (cn ub)))]) ?_ [0, 1, 2, 3, 4, 5] rfl
                        exact ih173 ((i + 1)) (by omega) (by omega)
                    · skip
                      refine g_aload_n (pc' := 197) (j := 3) hC dX6_doHeal_196 rfl rfl rfl ?_
                      refine gf_X6_1 (pc' := 200) hC wF_X6_19 dX6_doHeal_197 rfl ?_
                      refine g_iload (pc' := 202) (j := 0) hC dX6_doHeal_200 rfl rfl ?_
                      refine a_ldr (pc' := 203) (k := 10) (t := 6) (i := i) hC (by decide) (ct_10 g (chl (ch3 σ (cn ua) (cn ub)) (cn ua) (cn ub) (csh σ (cn ua) (cn ub)) (rd σ 8 6) i)) rfl (by omega) (by decide) dX6_doHeal_202 rfl ?_
                      refine gf_X2_3 (pc' := 206) (b := i) hC (by omega : i < 6) wF_X6_77 dX6_doHeal_203 rfl ?_
                      refine gg_topi (b := nI (rd (chl (ch3 σ (cn ua) (cn ub)) (cn ua) (cn ub) (csh σ (cn ua) (cn ub)) (rd σ 8 6) i) (90 + 3 * i) 3)) (hse.1) ?_
                      refine g_iload_n (pc' := 207) (j := 5) hC dX6_doHeal_206 rfl rfl rfl ?_
                      refine n_icmp_ne (pc' := 210) (tgt := 243) hC dX6_doHeal_207 (by decide) rfl (by omega) (by omega) (fun c207 => ?_) (fun c207 => ?_)
                      · skip
                        have hst : chl (ch3 σ (cn ua) (cn ub)) (cn ua) (cn ub) (csh σ (cn ua) (cn ub)) (rd σ 8 6) i = chl (ch3 σ (cn ua) (cn ub)) (cn ua) (cn ub) (csh σ (cn ua) (cn ub)) (rd σ 8 6) (i + 1) := (cI_f (fun z => z.elim c193 c207)).symm
                        refine g_iinc (pc' := 246) (j := 0) (u := nI (i + 1)) (lv' := [(6, .int (nI (i + 1))), (5, .int (nI (rd σ 8 6))), (3, .int (nI (csh σ (cn ua) (cn ub)))), (0, .ref (g.2.1 8)), (1, .int (nI (cn ua))), (2, .int (nI (cn ub)))]) hC dX6_doHeal_243 rfl rfl (nI_add i 1) (by decide) rfl ?_
                        refine g_goto (tgt := 173) hC dX6_doHeal_246 (by decide) ?_
                        refine gg_st (σ' := (chl (ch3 σ (cn ua) (cn ub)) (cn ua) (cn ub) (csh σ (cn ua) (cn ub)) (rd σ 8 6) ((i + 1)))) (hst) ?_
                        refine gg_lv (lv' := [(6, .int (nI (i + 1))), (5, .int (nI (rd σ 8 6))), (3, .int (nI (csh σ (cn ua) (cn ub)))), (0, .ref (g.2.1 8)), (1, .int (nI (cn ua))), (2, .int (nI (cn ub)))]) ?_ [0, 1, 2, 3, 4, 5] rfl
                        exact ih173 ((i + 1)) (by omega) (by omega)
                      · skip
                        have hor : rd (chl (ch3 σ (cn ua) (cn ub)) (cn ua) (cn ub) (csh σ (cn ua) (cn ub)) (rd σ 8 6) i) (90 + 3 * i) 3 = cn ua ∨ rd (chl (ch3 σ (cn ua) (cn ub)) (cn ua) (cn ub) (csh σ (cn ua) (cn ub)) (rd σ 8 6) i) (90 + 3 * i) 3 = cn ub := Or.inr c207
                        refine g_aload_n (pc' := 211) (j := 3) hC dX6_doHeal_210 rfl rfl rfl ?_
                        refine g_aload_n (pc' := 212) (j := 3) hC dX6_doHeal_211 rfl rfl rfl ?_
                        refine gf_X6_1 (pc' := 215) hC wF_X6_19 dX6_doHeal_212 rfl ?_
                        refine g_iload (pc' := 217) (j := 0) hC dX6_doHeal_215 rfl rfl ?_
                        refine a_ldr (pc' := 218) (k := 10) (t := 6) (i := i) hC (by decide) (ct_10 g (chl (ch3 σ (cn ua) (cn ub)) (cn ua) (cn ub) (csh σ (cn ua) (cn ub)) (rd σ 8 6) i)) rfl (by omega) (by decide) dX6_doHeal_217 rfl ?_
                        refine g_aload_n (pc' := 219) (j := 3) hC dX6_doHeal_218 rfl rfl rfl ?_
                        refine gf_X6_1 (pc' := 222) hC wF_X6_19 dX6_doHeal_219 rfl ?_
                        refine g_iload (pc' := 224) (j := 0) hC dX6_doHeal_222 rfl rfl ?_
                        refine a_ldr (pc' := 225) (k := 10) (t := 6) (i := i) hC (by decide) (ct_10 g (chl (ch3 σ (cn ua) (cn ub)) (cn ua) (cn ub) (csh σ (cn ua) (cn ub)) (rd σ 8 6) i)) rfl (by omega) (by decide) dX6_doHeal_224 rfl ?_
                        refine gf_X2_3 (pc' := 228) (b := i) hC (by omega : i < 6) wF_X6_77 dX6_doHeal_225 rfl ?_
                        refine gg_topi (b := nI (rd (chl (ch3 σ (cn ua) (cn ub)) (cn ua) (cn ub) (csh σ (cn ua) (cn ub)) (rd σ 8 6) i) (90 + 3 * i) 3)) (hse.1) ?_
                        refine g_iload_n (pc' := 229) (j := 5) hC dX6_doHeal_228 rfl rfl rfl ?_
                        refine n_icmp_ne (pc' := 232) (tgt := 236) hC dX6_doHeal_229 (by decide) rfl (by omega) (by omega) (fun c229 => ?_) (fun c229 => ?_)
                        · skip
                          have hst : cbo (chl (ch3 σ (cn ua) (cn ub)) (cn ua) (cn ub) (csh σ (cn ua) (cn ub)) (rd σ 8 6) i) i (nI 0) (csh σ (cn ua) (cn ub)) (rd σ 8 6) = chl (ch3 σ (cn ua) (cn ub)) (cn ua) (cn ub) (csh σ (cn ua) (cn ub)) (rd σ 8 6) (i + 1) := by show _ = cI _ _ _; rw [cI_t hor, cI_f c229]
                          refine g_iconst (pc' := 237) (v := nI 0) hC dX6_doHeal_236 rfl rfl ?_
                          refine g_iload_n (pc' := 238) (j := 2) hC dX6_doHeal_237 rfl rfl rfl ?_
                          refine g_iload (pc' := 240) (j := 1) hC dX6_doHeal_238 rfl rfl ?_
                          refine f_Vv (pc' := 243) (k := 8) (st := []) hC (c_bringOver x.2.1 g z0 (chl (ch3 σ (cn ua) (cn ub)) (cn ua) (cn ub) (csh σ (cn ua) (cn ub)) (rd σ 8 6) i) i ((nI 0)) ((csh σ (cn ua) (cn ub))) ((rd σ 8 6)) (by omega) (nb_cg ((chl_o _ _ _ _ _ _ _ (by omega)).trans (hK9 _ _ (by omega))) (hI.po (c := i) (by omega)) (hI.po (by omega)).2) (hse) (nb_cg (chl_o _ _ _ _ _ _ _ (by omega)) (hK8 _ (by omega)) (hK8 _ (by omega)).2) (by omega) (by omega) (nb_cg (chl_o _ _ _ _ _ _ _ (by omega)) (hK8 _ (by omega)) (hK8 _ (by omega)).2)) k_X6_bringOver wM_X6_208 (by decide) (by decide) (ct_8 g (chl (ch3 σ (cn ua) (cn ub)) (cn ua) (cn ub) (csh σ (cn ua) (cn ub)) (rd σ 8 6) i)) rfl rfl rfl rfl (Nat.le_of_ble_eq_true rfl) dX6_doHeal_240 rfl (Nat.zero_le _) (Nat.zero_le _) ?_
                          refine g_iinc (pc' := 246) (j := 0) (u := nI (i + 1)) (lv' := [(6, .int (nI (i + 1))), (5, .int (nI (rd σ 8 6))), (3, .int (nI (csh σ (cn ua) (cn ub)))), (0, .ref (g.2.1 8)), (1, .int (nI (cn ua))), (2, .int (nI (cn ub)))]) hC dX6_doHeal_243 rfl rfl (nI_add i 1) (by decide) rfl ?_
                          refine g_goto (tgt := 173) hC dX6_doHeal_246 (by decide) ?_
                          refine gg_st (σ' := (chl (ch3 σ (cn ua) (cn ub)) (cn ua) (cn ub) (csh σ (cn ua) (cn ub)) (rd σ 8 6) ((i + 1)))) (hst) ?_
                          refine gg_lv (lv' := [(6, .int (nI (i + 1))), (5, .int (nI (rd σ 8 6))), (3, .int (nI (csh σ (cn ua) (cn ub)))), (0, .ref (g.2.1 8)), (1, .int (nI (cn ua))), (2, .int (nI (cn ub)))]) ?_ [0, 1, 2, 3, 4, 5] rfl
                          exact ih173 ((i + 1)) (by omega) (by omega)
                        · skip
                          have hst : cbo (chl (ch3 σ (cn ua) (cn ub)) (cn ua) (cn ub) (csh σ (cn ua) (cn ub)) (rd σ 8 6) i) i (nI 1) (csh σ (cn ua) (cn ub)) (rd σ 8 6) = chl (ch3 σ (cn ua) (cn ub)) (cn ua) (cn ub) (csh σ (cn ua) (cn ub)) (rd σ 8 6) (i + 1) := by show _ = cI _ _ _; rw [cI_t hor, cI_t c229]
                          refine g_iconst (pc' := 233) (v := nI 1) hC dX6_doHeal_232 rfl rfl ?_
                          refine g_goto (tgt := 237) hC dX6_doHeal_233 (by decide) ?_
                          refine g_iload_n (pc' := 238) (j := 2) hC dX6_doHeal_237 rfl rfl rfl ?_
                          refine g_iload (pc' := 240) (j := 1) hC dX6_doHeal_238 rfl rfl ?_
                          refine f_Vv (pc' := 243) (k := 8) (st := []) hC (c_bringOver x.2.1 g z0 (chl (ch3 σ (cn ua) (cn ub)) (cn ua) (cn ub) (csh σ (cn ua) (cn ub)) (rd σ 8 6) i) i ((nI 1)) ((csh σ (cn ua) (cn ub))) ((rd σ 8 6)) (by omega) (nb_cg ((chl_o _ _ _ _ _ _ _ (by omega)).trans (hK9 _ _ (by omega))) (hI.po (c := i) (by omega)) (hI.po (by omega)).2) (hse) (nb_cg (chl_o _ _ _ _ _ _ _ (by omega)) (hK8 _ (by omega)) (hK8 _ (by omega)).2) (by omega) (by omega) (nb_cg (chl_o _ _ _ _ _ _ _ (by omega)) (hK8 _ (by omega)) (hK8 _ (by omega)).2)) k_X6_bringOver wM_X6_208 (by decide) (by decide) (ct_8 g (chl (ch3 σ (cn ua) (cn ub)) (cn ua) (cn ub) (csh σ (cn ua) (cn ub)) (rd σ 8 6) i)) rfl rfl rfl rfl (Nat.le_of_ble_eq_true rfl) dX6_doHeal_240 rfl (Nat.zero_le _) (Nat.zero_le _) ?_
                          refine g_iinc (pc' := 246) (j := 0) (u := nI (i + 1)) (lv' := [(6, .int (nI (i + 1))), (5, .int (nI (rd σ 8 6))), (3, .int (nI (csh σ (cn ua) (cn ub)))), (0, .ref (g.2.1 8)), (1, .int (nI (cn ua))), (2, .int (nI (cn ub)))]) hC dX6_doHeal_243 rfl rfl (nI_add i 1) (by decide) rfl ?_
                          refine g_goto (tgt := 173) hC dX6_doHeal_246 (by decide) ?_
                          refine gg_st (σ' := (chl (ch3 σ (cn ua) (cn ub)) (cn ua) (cn ub) (csh σ (cn ua) (cn ub)) (rd σ 8 6) ((i + 1)))) (hst) ?_
                          refine gg_lv (lv' := [(6, .int (nI (i + 1))), (5, .int (nI (rd σ 8 6))), (3, .int (nI (csh σ (cn ua) (cn ub)))), (0, .ref (g.2.1 8)), (1, .int (nI (cn ua))), (2, .int (nI (cn ub)))]) ?_ [0, 1, 2, 3, 4, 5] rfl
                          exact ih173 ((i + 1)) (by omega) (by omega)
              refine gg_st (σ' := (chl (ch3 σ (cn ua) (cn ub)) (cn ua) (cn ub) (csh σ (cn ua) (cn ub)) (rd σ 8 6) 0)) (rfl) ?_
              refine gg_lv (lv' := [(6, .int (nI 0)), (5, .int (nI (rd σ 8 6))), (3, .int (nI (csh σ (cn ua) (cn ub)))), (0, .ref (g.2.1 8)), (1, .int (nI (cn ua))), (2, .int (nI (cn ub)))]) ?_ [0, 1, 3, 4, 5, 6] rfl
              exact L173 (rd σ 8 4 - 0 + 1) 0 (by omega) (by omega)
            · skip
              refine g_bipush (pc' := 101) (v := (-3)) hC dX6_doHeal_99 rfl rfl ?_
              refine g_ret hC dX6_doHeal_101 rfl ?_
              exact ⟨by unfold chel; rw [cI_t (⟨c5, c13, c18⟩), cI_f (fun z => absurd z.2.2 (Nat.not_le.mpr c96))], by unfold chel; rw [cI_t (⟨c5, c13, c18⟩), cI_f (fun z => absurd z.2.2 (Nat.not_le.mpr c96))]⟩
      · skip
        refine g_iconst (pc' := 22) (v := (-1)) hC dX6_doHeal_21 rfl rfl ?_
        refine g_ret hC dX6_doHeal_22 rfl ?_
        exact ⟨by unfold chel; rw [cI_f (fun z => z.2.2 c18)], by unfold chel; rw [cI_f (fun z => z.2.2 c18)]⟩
