set_option maxHeartbeats 4000000 in
set_option maxRecDepth 20000 in
theorem m_startAnew (l : Launch) (g : Lay) (z0 : Nat) (σ : St)  (hM : MI σ)  : CTv l yX10_startAnew cX10_startAnew 2 3 g z0 [.ref (g.2.1 15)] σ (FV (mst σ 6)) := by
  refine CTv.of (by decide) (Nat.le_of_ble_eq_true rfl) ?_
  intro x hxl hxa hC
  have hC : Cx x RX10 cX10_startAnew 2 none 3 g z0 := hC
  show GG x g z0 2 0 0 (Qv x g z0 (FV (mst σ 6))) σ 0 [(0, .ref (g.2.1 15))] []
  refine g_aload_n (pc' := 1) (j := 0) hC dX10_startAnew_0 rfl rfl rfl ?_
  refine g_iconst (pc' := 2) (v := nI 1) hC dX10_startAnew_1 rfl rfl ?_
  refine pf_X10_4 (pc' := 5) hC wF_X10_79 dX10_startAnew_2 rfl ?_
  refine g_aload_n (pc' := 6) (j := 0) hC dX10_startAnew_5 rfl rfl rfl ?_
  refine g_iconst (pc' := 7) (v := nI 0) hC dX10_startAnew_6 rfl rfl ?_
  refine pf_X10_5 (pc' := 10) hC wF_X10_123 dX10_startAnew_7 rfl ?_
  refine g_aload_n (pc' := 11) (j := 0) hC dX10_startAnew_10 rfl rfl rfl ?_
  refine gf_X10_6 (pc' := 14) hC wF_X10_7 dX10_startAnew_11 rfl ?_
  refine g_iconst (pc' := 15) (v := nI 0) hC dX10_startAnew_14 rfl rfl ?_
  refine g_iconst (pc' := 16) (v := nI 0) hC dX10_startAnew_15 rfl rfl ?_
  refine a_st (pc' := 17) (k := 16) (i := 0) hC (by decide) (fun σ9 => (ct_16 g σ9)) (by omega) (by decide) dX10_startAnew_16 rfl ?_
  refine g_aload_n (pc' := 18) (j := 0) hC dX10_startAnew_17 rfl rfl rfl ?_
  refine g_iconst (pc' := 19) (v := nI 0) hC dX10_startAnew_18 rfl rfl ?_
  refine pf_X10_21 (pc' := 22) hC wF_X10_126 dX10_startAnew_19 rfl ?_
  refine g_aload_n (pc' := 23) (j := 0) hC dX10_startAnew_22 rfl rfl rfl ?_
  refine g_iconst (pc' := 24) (v := nI 0) hC dX10_startAnew_23 rfl rfl ?_
  refine pf_X10_22 (pc' := 27) hC wF_X10_129 dX10_startAnew_24 rfl ?_
  refine g_aload_n (pc' := 28) (j := 0) hC dX10_startAnew_27 rfl rfl rfl ?_
  refine g_iconst (pc' := 29) (v := nI 1) hC dX10_startAnew_28 rfl rfl ?_
  refine pf_X10_23 (pc' := 32) hC wF_X10_132 dX10_startAnew_29 rfl ?_
  refine g_iconst (pc' := 33) (v := nI 0) hC dX10_startAnew_32 rfl rfl ?_
  refine g_istore_n (pc' := 34) (lv' := [(1, .int (nI 0)), (0, .ref (g.2.1 15))]) hC dX10_startAnew_33 rfl rfl (by decide) rfl ?_
  have L34 : ∀ (fu : Nat) (i : Nat), (i ≤ 6) → (6 - i) < fu → GG x g z0 2 0 0 (Qv x g z0 (FV (mst σ 6))) (mst σ i) 34 [(1, .int (nI i)), (0, .ref (g.2.1 15))] [] := by
    intro fu
    induction fu with
    | zero => intro i hi hz; exact absurd hz (Nat.not_lt_zero _)
    | succ fu ih34 =>
      intro i hi hf
      have hMi := MI_mstS (MI_mst hM i) i
      refine g_iload_n (pc' := 35) (j := 0) hC dX10_startAnew_34 rfl rfl rfl ?_
      refine g_bipush (pc' := 37) (v := nI 6) hC dX10_startAnew_35 rfl rfl ?_
      refine n_icmp_ge (pc' := 40) (tgt := 73) hC dX10_startAnew_37 (by decide) rfl (by omega) (by omega) (fun c37 => ?_) (fun c37 => ?_)
      · skip
        refine g_retv hC dX10_startAnew_73 ?_
        show _ = mst σ 6; rw [show i = 6 by omega]
      · skip
        refine g_aload_n (pc' := 41) (j := 1) hC dX10_startAnew_40 rfl rfl rfl ?_
        refine gf_X10_13 (pc' := 44) hC wF_X10_31 dX10_startAnew_41 rfl ?_
        refine g_iload_n (pc' := 45) (j := 0) hC dX10_startAnew_44 rfl rfl rfl ?_
        refine g_iconst (pc' := 46) (v := nI 0) hC dX10_startAnew_45 rfl rfl ?_
        refine a_st (pc' := 47) (k := 23) (i := i) hC (by decide) (fun σ9 => (ct_23 g σ9)) (by omega) (by decide) dX10_startAnew_46 rfl ?_
        refine g_aload_n (pc' := 48) (j := 1) hC dX10_startAnew_47 rfl rfl rfl ?_
        refine gf_X10_15 (pc' := 51) hC wF_X10_37 dX10_startAnew_48 rfl ?_
        refine g_iload_n (pc' := 52) (j := 0) hC dX10_startAnew_51 rfl rfl rfl ?_
        refine g_iconst (pc' := 53) (v := nI 0) hC dX10_startAnew_52 rfl rfl ?_
        refine a_st (pc' := 54) (k := 25) (i := i) hC (by decide) (fun σ9 => (ct_25 g σ9)) (by omega) (by decide) dX10_startAnew_53 rfl ?_
        refine g_aload_n (pc' := 55) (j := 1) hC dX10_startAnew_54 rfl rfl rfl ?_
        refine gf_X10_18 (pc' := 58) hC wF_X10_46 dX10_startAnew_55 rfl ?_
        refine g_iload_n (pc' := 59) (j := 0) hC dX10_startAnew_58 rfl rfl rfl ?_
        refine g_iconst (pc' := 60) (v := nI 0) hC dX10_startAnew_59 rfl rfl ?_
        refine a_stz (pc' := 61) (k := 28) (i := i) hC (by decide) (fun σ9 => (ct_28 g σ9)) (by omega) (by decide) rfl dX10_startAnew_60 rfl ?_
        refine g_aload_n (pc' := 62) (j := 1) hC dX10_startAnew_61 rfl rfl rfl ?_
        refine g_iload_n (pc' := 63) (j := 0) hC dX10_startAnew_62 rfl rfl rfl ?_
        refine g_iconst (pc' := 64) (v := nI 0) hC dX10_startAnew_63 rfl rfl ?_
        refine f_Vv (pc' := 67) (k := 15) (st := []) hC (m_takes x.2.1 g z0 (uv (uv (uv (mst σ i) 23 i (nI 0)) 25 i (nI 0)) 28 i (nI 0)) i 0 (by omega) (by omega) (hMi.len (by omega)) (fun j hj => hMi.aut hj)) k_X10_takes wM_X10_135 (by decide) (by decide) (ct_15 g (uv (uv (uv (mst σ i) 23 i (nI 0)) 25 i (nI 0)) 28 i (nI 0))) rfl rfl rfl rfl (Nat.le_of_ble_eq_true rfl) dX10_startAnew_64 rfl (Nat.zero_le _) (Nat.zero_le _) ?_
        refine g_iinc (pc' := 70) (j := 0) (u := nI (i + 1)) (lv' := [(1, .int (nI (i + 1))), (0, .ref (g.2.1 15))]) hC dX10_startAnew_67 rfl rfl (nI_add i 1) (by decide) rfl ?_
        refine g_goto (tgt := 34) hC dX10_startAnew_70 (by decide) ?_
        refine gg_st (σ' := (mst σ (i + 1))) (rfl) ?_
        refine gg_lv (lv' := [(1, .int (nI (i + 1))), (0, .ref (g.2.1 15))]) ?_ [0, 1] rfl
        exact ih34 (i + 1) (by omega) (by omega)
  refine gg_st (σ' := (mst σ 0)) (rfl) ?_
  refine gg_lv (lv' := [(1, .int (nI 0)), (0, .ref (g.2.1 15))]) ?_ [0, 1] rfl
  exact L34 (6 - 0 + 1) 0 (by omega) (by omega)
set_option maxHeartbeats 4000000 in
set_option maxRecDepth 20000 in
theorem m_forkedPairs (l : Launch) (g : Lay) (z0 : Nat) (σ : St)  (hM : MI σ)  : CTi l yX10_forkedPairs cX10_forkedPairs 4 (some .int) 2 g z0 [.ref (g.2.1 15)] σ (FI (nI (mfp σ)) (m0 σ)) := by
  refine CTi.of (by decide) (Nat.le_of_ble_eq_true rfl) ?_
  intro x hxl hxa hC
  have hC : Cx x RX10 cX10_forkedPairs 4 (some .int) 2 g z0 := hC
  have hC2 := hM.1.1.2
  have hM0 := MI_m0 hM
  show GG x g z0 4 0 0 (Qi x g z0 (FI (nI (mfp σ)) (m0 σ))) σ 0 [(0, .ref (g.2.1 15))] []
  refine g_aload_n (pc' := 1) (j := 0) hC dX10_forkedPairs_0 rfl rfl rfl ?_
  refine g_iconst (pc' := 2) (v := nI 0) hC dX10_forkedPairs_1 rfl rfl ?_
  refine pf_X10_0 (pc' := 5) hC wF_X10_66 dX10_forkedPairs_2 rfl ?_
  refine g_iconst (pc' := 6) (v := nI 0) hC dX10_forkedPairs_5 rfl rfl ?_
  refine g_istore_n (pc' := 7) (lv' := [(1, .int (nI 0)), (0, .ref (g.2.1 15))]) hC dX10_forkedPairs_6 rfl rfl (by decide) rfl ?_
  refine g_iconst (pc' := 8) (v := nI 0) hC dX10_forkedPairs_7 rfl rfl ?_
  refine g_istore_n (pc' := 9) (lv' := [(2, .int (nI 0)), (1, .int (nI 0)), (0, .ref (g.2.1 15))]) hC dX10_forkedPairs_8 rfl rfl (by decide) rfl ?_
  have L9 : ∀ (fu : Nat) (a : Nat), (a ≤ rd σ 15 1) → (sumN (fun a => cntP (fun b => mfk σ a b) a) a ≤ 36) → (rd σ 15 1 - a) < fu → GG x g z0 4 0 0 (Qi x g z0 (FI (nI (mfp σ)) (m0 σ))) (uv σ 15 0 (nI 0)) 9 [(2, .int (nI a)), (1, .int (nI (sumN (fun a => cntP (fun b => mfk σ a b) a) a))), (0, .ref (g.2.1 15))] [] := by
    intro fu
    induction fu with
    | zero => intro a ha hs hz; exact absurd hz (Nat.not_lt_zero _)
    | succ fu ih9 =>
      intro a ha hs hf
      refine g_iload_n (pc' := 10) (j := 0) hC dX10_forkedPairs_9 rfl rfl rfl ?_
      refine g_aload_n (pc' := 11) (j := 2) hC dX10_forkedPairs_10 rfl rfl rfl ?_
      refine gf_X10_1 (pc' := 14) hC wF_X10_69 dX10_forkedPairs_11 rfl ?_
      refine gg_topi (b := nI (rd σ 15 1)) ((uv_idx _ _ _ _ (by decide)).trans (hM.1.1.1)) ?_
      refine n_icmp_ge (pc' := 17) (tgt := 53) hC dX10_forkedPairs_14 (by decide) rfl (by omega) (by omega) (fun c14 => ?_) (fun c14 => ?_)
      · skip
        refine g_iload_n (pc' := 54) (j := 1) hC dX10_forkedPairs_53 rfl rfl rfl ?_
        refine g_ret hC dX10_forkedPairs_54 rfl ?_
        exact ⟨by unfold mfp; rw [show rd σ 15 1 = a by omega], rfl⟩
      · skip
        refine g_iconst (pc' := 18) (v := nI 0) hC dX10_forkedPairs_17 rfl rfl ?_
        refine g_istore_n (pc' := 19) (lv' := [(3, .int (nI 0)), (2, .int (nI a)), (1, .int (nI (sumN (fun a => cntP (fun b => mfk σ a b) a) a))), (0, .ref (g.2.1 15))]) hC dX10_forkedPairs_18 rfl rfl (by decide) rfl ?_
        have L19 : ∀ (fu : Nat) (b : Nat), (b ≤ a) → (cntP (fun b => mfk σ a b) b ≤ 6) → (a - b) < fu → GG x g z0 4 0 0 (Qi x g z0 (FI (nI (mfp σ)) (m0 σ))) (uv σ 15 0 (nI 0)) 19 [(3, .int (nI b)), (2, .int (nI a)), (1, .int (nI (sumN (fun a => cntP (fun b => mfk σ a b) a) a + cntP (fun b => mfk σ a b) b))), (0, .ref (g.2.1 15))] [] := by
          intro fu
          induction fu with
          | zero => intro b hb hq hz; exact absurd hz (Nat.not_lt_zero _)
          | succ fu ih19 =>
            intro b hb hq hf
            refine g_iload_n (pc' := 20) (j := 0) hC dX10_forkedPairs_19 rfl rfl rfl ?_
            refine g_iload_n (pc' := 21) (j := 1) hC dX10_forkedPairs_20 rfl rfl rfl ?_
            refine n_icmp_ge (pc' := 24) (tgt := 47) hC dX10_forkedPairs_21 (by decide) rfl (by omega) (by omega) (fun c21 => ?_) (fun c21 => ?_)
            · skip
              refine g_iinc (pc' := 50) (j := 1) (u := nI (a + 1)) (lv' := [(2, .int (nI (a + 1))), (3, .int (nI b)), (1, .int (nI (sumN (fun a => cntP (fun b => mfk σ a b) a) a + cntP (fun b => mfk σ a b) b))), (0, .ref (g.2.1 15))]) hC dX10_forkedPairs_47 rfl rfl (nI_add a 1) (by decide) rfl ?_
              refine g_goto (tgt := 9) hC dX10_forkedPairs_50 (by decide) ?_
              refine gg_lv (lv' := [(2, .int (nI (a + 1))), (1, .int (nI (sumN (fun a => cntP (fun b => mfk σ a b) a) a + cntP (fun b => mfk σ a b) b))), (0, .ref (g.2.1 15))]) ?_ [0, 2, 3] rfl
              refine gg_lve (lv' := [(2, .int (nI (a + 1))), (1, .int (nI (sumN (fun a => cntP (fun b => mfk σ a b) a) (a + 1)))), (0, .ref (g.2.1 15))]) (by rw [show b = a by omega]; rfl) ?_
              exact ih9 (a + 1) (by omega) (Nat.le_trans (sumN_le (m := 6) (fun j hj => Nat.le_trans (cntP_le _ _) (by omega))) (by omega)) (by omega)
            · skip
              refine g_aload_n (pc' := 25) (j := 3) hC dX10_forkedPairs_24 rfl rfl rfl ?_
              refine g_iload_n (pc' := 26) (j := 1) hC dX10_forkedPairs_25 rfl rfl rfl ?_
              refine g_iload_n (pc' := 27) (j := 0) hC dX10_forkedPairs_26 rfl rfl rfl ?_
              refine f_Vi (pc' := 30) (k := 15) (st := []) hC (m_areForked x.2.1 g z0 (uv σ 15 0 (nI 0)) a b (by omega) (by omega) (hM0.pos (by omega)) (hM0.pos (by omega))) k_X10_areForked wM_X10_185 (by decide) (by decide) (ct_15 g (uv σ 15 0 (nI 0))) rfl rfl rfl rfl (Nat.le_of_ble_eq_true rfl) dX10_forkedPairs_27 rfl (Nat.zero_le _) (Nat.zero_le _) ?_
              refine b_if_eq (pc' := 33) (tgt := 39) hC dX10_forkedPairs_30 (by decide) rfl (fun c30 => ?_) (fun c30 => ?_)
              · skip
                have c30 : ¬ mfk σ a b := c30
                refine g_iload_n (pc' := 40) (j := 2) hC dX10_forkedPairs_39 rfl rfl rfl ?_
                refine g_istore_n (pc' := 41) (lv' := [(1, .int (nI (sumN (fun a => cntP (fun b => mfk σ a b) a) a + cntP (fun b => mfk σ a b) b))), (3, .int (nI b)), (2, .int (nI a)), (0, .ref (g.2.1 15))]) hC dX10_forkedPairs_40 rfl rfl (by decide) rfl ?_
                refine g_iinc (pc' := 44) (j := 1) (u := nI (b + 1)) (lv' := [(3, .int (nI (b + 1))), (1, .int (nI (sumN (fun a => cntP (fun b => mfk σ a b) a) a + cntP (fun b => mfk σ a b) b))), (2, .int (nI a)), (0, .ref (g.2.1 15))]) hC dX10_forkedPairs_41 rfl rfl (nI_add b 1) (by decide) rfl ?_
                refine g_goto (tgt := 19) hC dX10_forkedPairs_44 (by decide) ?_
                refine gg_lv (lv' := [(3, .int (nI (b + 1))), (2, .int (nI a)), (1, .int (nI (sumN (fun a => cntP (fun b => mfk σ a b) a) a + cntP (fun b => mfk σ a b) b))), (0, .ref (g.2.1 15))]) ?_ [0, 2, 1, 3] rfl
                refine gg_lve (lv' := [(3, .int (nI (b + 1))), (2, .int (nI a)), (1, .int (nI (sumN (fun a => cntP (fun b => mfk σ a b) a) a + cntP (fun b => mfk σ a b) (b + 1)))), (0, .ref (g.2.1 15))]) (by first | rw [(cntP_s (fun b => mfk σ a b) b).1 c30, Nat.add_assoc] | rw [(cntP_s (fun b => mfk σ a b) b).2 c30]) ?_
                exact ih19 (b + 1) (by omega) (Nat.le_trans (cntP_le _ _) (by omega)) (by omega)
              · skip
                have c30 : mfk σ a b := c30
                refine g_iload_n (pc' := 34) (j := 2) hC dX10_forkedPairs_33 rfl rfl rfl ?_
                refine g_iconst (pc' := 35) (v := nI 1) hC dX10_forkedPairs_34 rfl rfl ?_
                refine n_iadd (pc' := 36) hC dX10_forkedPairs_35 rfl ?_
                refine g_goto (tgt := 40) hC dX10_forkedPairs_36 (by decide) ?_
                refine g_istore_n (pc' := 41) (lv' := [(1, .int (nI ((sumN (fun a => cntP (fun b => mfk σ a b) a) a + cntP (fun b => mfk σ a b) b) + 1))), (3, .int (nI b)), (2, .int (nI a)), (0, .ref (g.2.1 15))]) hC dX10_forkedPairs_40 rfl rfl (by decide) rfl ?_
                refine g_iinc (pc' := 44) (j := 1) (u := nI (b + 1)) (lv' := [(3, .int (nI (b + 1))), (1, .int (nI ((sumN (fun a => cntP (fun b => mfk σ a b) a) a + cntP (fun b => mfk σ a b) b) + 1))), (2, .int (nI a)), (0, .ref (g.2.1 15))]) hC dX10_forkedPairs_41 rfl rfl (nI_add b 1) (by decide) rfl ?_
                refine g_goto (tgt := 19) hC dX10_forkedPairs_44 (by decide) ?_
                refine gg_lv (lv' := [(3, .int (nI (b + 1))), (2, .int (nI a)), (1, .int (nI ((sumN (fun a => cntP (fun b => mfk σ a b) a) a + cntP (fun b => mfk σ a b) b) + 1))), (0, .ref (g.2.1 15))]) ?_ [0, 2, 1, 3] rfl
                refine gg_lve (lv' := [(3, .int (nI (b + 1))), (2, .int (nI a)), (1, .int (nI (sumN (fun a => cntP (fun b => mfk σ a b) a) a + cntP (fun b => mfk σ a b) (b + 1)))), (0, .ref (g.2.1 15))]) (by first | rw [(cntP_s (fun b => mfk σ a b) b).1 c30, Nat.add_assoc] | rw [(cntP_s (fun b => mfk σ a b) b).2 c30]) ?_
                exact ih19 (b + 1) (by omega) (Nat.le_trans (cntP_le _ _) (by omega)) (by omega)
        refine gg_lv (lv' := [(3, .int (nI 0)), (2, .int (nI a)), (1, .int (nI (sumN (fun a => cntP (fun b => mfk σ a b) a) a))), (0, .ref (g.2.1 15))]) ?_ [0, 1, 2, 3] rfl
        exact L19 (a - 0 + 1) 0 (by omega) (Nat.zero_le _) (by omega)
  refine gg_lv (lv' := [(2, .int (nI 0)), (1, .int (nI 0)), (0, .ref (g.2.1 15))]) ?_ [0, 1, 2] rfl
  exact L9 (rd σ 15 1 - 0 + 1) 0 (by omega) (Nat.zero_le _) (by omega)
set_option maxHeartbeats 4000000 in
set_option maxRecDepth 20000 in
theorem m_seenBy (l : Launch) (g : Lay) (z0 : Nat) (σ : St) (c : Int32) (hM : MI σ)  : CTi l yX10_seenBy cX10_seenBy 5 (some .int) 2 g z0 [.ref (g.2.1 15), .int c] σ (FI ((msn σ c).1) ((msn σ c).2)) := by
  refine CTi.of (by decide) (Nat.le_of_ble_eq_true rfl) ?_
  intro x hxl hxa hC
  have hC : Cx x RX10 cX10_seenBy 5 (some .int) 2 g z0 := hC
  have hC2 := hM.1.1.2
  have hM0 := MI_m0 hM
  show GG x g z0 5 0 0 (Qi x g z0 (FI ((msn σ c).1) ((msn σ c).2))) σ 0 [(0, .ref (g.2.1 15)), (1, .int c)] []
  refine g_aload_n (pc' := 1) (j := 0) hC dX10_seenBy_0 rfl rfl rfl ?_
  refine g_iconst (pc' := 2) (v := nI 0) hC dX10_seenBy_1 rfl rfl ?_
  refine pf_X10_0 (pc' := 5) hC wF_X10_66 dX10_seenBy_2 rfl ?_
  refine g_aload_n (pc' := 6) (j := 0) hC dX10_seenBy_5 rfl rfl rfl ?_
  refine g_iload_n (pc' := 7) (j := 1) hC dX10_seenBy_6 rfl rfl rfl ?_
  refine f_Vi (pc' := 10) (k := 15) (st := []) hC (m_isClient x.2.1 g z0 (uv σ 15 0 (nI 0)) c) k_X10_isClient wM_X10_165 (by decide) (by decide) (ct_15 g (uv σ 15 0 (nI 0))) rfl rfl rfl rfl (Nat.le_of_ble_eq_true rfl) dX10_seenBy_7 rfl (Nat.zero_le _) (Nat.zero_le _) ?_
  refine gg_topi (b := bI (vlt (σ.1 15 1) c)) (by simp (disch := decide) only [mh_uv, mh_ur, mcomp_uv, rd_uv, rd_ur, uv_cell, ur_cell, uv_idx, uv_fun, rd_idx, ne_eq, not_false_eq_true]) ?_
  refine b_if_ne (pc' := 13) (tgt := 19) hC dX10_seenBy_10 (by decide) rfl (fun c10 => ?_) (fun c10 => ?_)
  · skip
    obtain ⟨hcN, hcL, hcM⟩ := hM.cl c10
    refine gg_lve (lv' := [(0, .ref (g.2.1 15)), (1, .int (nI (cn c)))]) (by rw [← hcN]) ?_
    refine g_iconst (pc' := 20) (v := nI 0) hC dX10_seenBy_19 rfl rfl ?_
    refine g_istore_n (pc' := 21) (lv' := [(2, .int (nI 0)), (0, .ref (g.2.1 15)), (1, .int (nI (cn c)))]) hC dX10_seenBy_20 rfl rfl (by decide) rfl ?_
    refine g_iconst (pc' := 22) (v := nI 0) hC dX10_seenBy_21 rfl rfl ?_
    refine g_istore_n (pc' := 23) (lv' := [(3, .int (nI 0)), (2, .int (nI 0)), (0, .ref (g.2.1 15)), (1, .int (nI (cn c)))]) hC dX10_seenBy_22 rfl rfl (by decide) rfl ?_
    have L23 : ∀ (fu : Nat) (i : Nat), (i ≤ rd σ 15 1) → (rd σ 15 1 - i) < fu → GG x g z0 5 0 0 (Qi x g z0 (FI ((msn σ c).1) ((msn σ c).2))) (uv σ 15 0 (nI 0)) 23 [(3, .int (nI i)), (2, .int (msb σ (cn c) i)), (0, .ref (g.2.1 15)), (1, .int (nI (cn c)))] [] := by
      intro fu
      induction fu with
      | zero => intro i hi hz; exact absurd hz (Nat.not_lt_zero _)
      | succ fu ih23 =>
        intro i hi hf
        refine g_iload_n (pc' := 24) (j := 0) hC dX10_seenBy_23 rfl rfl rfl ?_
        refine g_aload_n (pc' := 25) (j := 2) hC dX10_seenBy_24 rfl rfl rfl ?_
        refine gf_X10_1 (pc' := 28) hC wF_X10_69 dX10_seenBy_25 rfl ?_
        refine gg_topi (b := nI (rd σ 15 1)) ((uv_idx _ _ _ _ (by decide)).trans (hM.1.1.1)) ?_
        refine n_icmp_ge (pc' := 31) (tgt := 88) hC dX10_seenBy_28 (by decide) rfl (by omega) (by omega) (fun c28 => ?_) (fun c28 => ?_)
        · skip
          refine g_iload_n (pc' := 89) (j := 1) hC dX10_seenBy_88 rfl rfl rfl ?_
          refine g_ret hC dX10_seenBy_89 rfl ?_
          exact ⟨by unfold msn; rw [cI_t c10, show rd σ 15 1 = i by omega], by unfold msn; rw [cI_t c10]⟩
        · skip
          refine g_iload_n (pc' := 32) (j := 0) hC dX10_seenBy_31 rfl rfl rfl ?_
          refine g_iload_n (pc' := 33) (j := 3) hC dX10_seenBy_32 rfl rfl rfl ?_
          refine n_icmp_eq (pc' := 36) (tgt := 64) hC dX10_seenBy_33 (by decide) rfl (by omega) (by omega) (fun c33 => ?_) (fun c33 => ?_)
          · skip
            refine g_iconst (pc' := 65) (v := nI 0) hC dX10_seenBy_64 rfl rfl ?_
            refine g_istore (pc' := 67) (lv' := [(4, .int (nI 0)), (3, .int (nI i)), (2, .int (msb σ (cn c) i)), (0, .ref (g.2.1 15)), (1, .int (nI (cn c)))]) hC dX10_seenBy_65 rfl (by decide) rfl ?_
            refine g_iload (pc' := 69) (j := 0) hC dX10_seenBy_67 rfl rfl ?_
            refine n_if_eq (pc' := 72) (tgt := 80) hC dX10_seenBy_69 (by decide) rfl (by omega) (fun c69 => ?_) (fun c69 => ?_)
            · skip
              refine g_iload_n (pc' := 81) (j := 2) hC dX10_seenBy_80 rfl rfl rfl ?_
              refine g_istore_n (pc' := 82) (lv' := [(2, .int (msb σ (cn c) i)), (4, .int (nI 0)), (3, .int (nI i)), (0, .ref (g.2.1 15)), (1, .int (nI (cn c)))]) hC dX10_seenBy_81 rfl rfl (by decide) rfl ?_
              refine g_iinc (pc' := 85) (j := 2) (u := nI (i + 1)) (lv' := [(3, .int (nI (i + 1))), (2, .int (msb σ (cn c) i)), (4, .int (nI 0)), (0, .ref (g.2.1 15)), (1, .int (nI (cn c)))]) hC dX10_seenBy_82 rfl rfl (nI_add i 1) (by decide) rfl ?_
              refine g_goto (tgt := 23) hC dX10_seenBy_85 (by decide) ?_
              refine gg_lv (lv' := [(3, .int (nI (i + 1))), (2, .int (msb σ (cn c) i)), (0, .ref (g.2.1 15)), (1, .int (nI (cn c)))]) ?_ [0, 1, 3, 4] rfl
              refine gg_lve (lv' := [(3, .int (nI (i + 1))), (2, .int (msb σ (cn c) (i + 1))), (0, .ref (g.2.1 15)), (1, .int (nI (cn c)))]) (by first | rw [show msb σ (cn c) (i + 1) = _ from cI_t ⟨c33, Int32.not_lt.mp c48, c57⟩] | rw [show msb σ (cn c) (i + 1) = msb σ (cn c) i from cI_f (fun z => by first | exact z.1 c33 | exact absurd c48 (Int32.not_lt.mpr z.2.1) | exact z.2.2 c57)]) ?_
              exact ih23 (i + 1) (by omega) (by omega)
            · skip
              first | exact absurd c69 (by decide) | exact c69.elim
          · skip
            refine g_aload_n (pc' := 37) (j := 2) hC dX10_seenBy_36 rfl rfl rfl ?_
            refine g_iload_n (pc' := 38) (j := 0) hC dX10_seenBy_37 rfl rfl rfl ?_
            refine g_iload_n (pc' := 39) (j := 3) hC dX10_seenBy_38 rfl rfl rfl ?_
            refine f_Vi (pc' := 42) (k := 15) (st := []) hC (m_number x.2.1 g z0 (uv σ 15 0 (nI 0)) i ((cn c)) (by omega) (by omega)) k_X10_number wM_X10_393 (by decide) (by decide) (ct_15 g (uv σ 15 0 (nI 0))) rfl rfl rfl rfl (Nat.le_of_ble_eq_true rfl) dX10_seenBy_39 rfl (Nat.zero_le _) (Nat.zero_le _) ?_
            refine gg_topi (b := σ.1 26 (6 * i + (cn c))) (by simp (disch := decide) only [mh_uv, mh_ur, mcomp_uv, rd_uv, rd_ur, uv_cell, ur_cell, uv_idx, uv_fun, rd_idx, ne_eq, not_false_eq_true]) ?_
            refine g_aload_n (pc' := 43) (j := 2) hC dX10_seenBy_42 rfl rfl rfl ?_
            refine g_iload_n (pc' := 44) (j := 3) hC dX10_seenBy_43 rfl rfl rfl ?_
            refine g_iload_n (pc' := 45) (j := 3) hC dX10_seenBy_44 rfl rfl rfl ?_
            refine f_Vi (pc' := 48) (k := 15) (st := [.int (σ.1 26 (6 * i + (cn c)))]) hC (m_number x.2.1 g z0 (uv σ 15 0 (nI 0)) ((cn c)) ((cn c)) (by omega) (by omega)) k_X10_number wM_X10_393 (by decide) (by decide) (ct_15 g (uv σ 15 0 (nI 0))) rfl rfl rfl rfl (Nat.le_of_ble_eq_true rfl) dX10_seenBy_45 rfl (Nat.zero_le _) (Nat.zero_le _) ?_
            refine gg_topi (b := σ.1 26 (6 * (cn c) + (cn c))) (by simp (disch := decide) only [mh_uv, mh_ur, mcomp_uv, rd_uv, rd_ur, uv_cell, ur_cell, uv_idx, uv_fun, rd_idx, ne_eq, not_false_eq_true]) ?_
            refine g_icmp_lt (pc' := 51) (tgt := 64) hC dX10_seenBy_48 (by decide) rfl (fun c48 => ?_) (fun c48 => ?_)
            · skip
              refine g_iconst (pc' := 65) (v := nI 0) hC dX10_seenBy_64 rfl rfl ?_
              refine g_istore (pc' := 67) (lv' := [(4, .int (nI 0)), (3, .int (nI i)), (2, .int (msb σ (cn c) i)), (0, .ref (g.2.1 15)), (1, .int (nI (cn c)))]) hC dX10_seenBy_65 rfl (by decide) rfl ?_
              refine g_iload (pc' := 69) (j := 0) hC dX10_seenBy_67 rfl rfl ?_
              refine n_if_eq (pc' := 72) (tgt := 80) hC dX10_seenBy_69 (by decide) rfl (by omega) (fun c69 => ?_) (fun c69 => ?_)
              · skip
                refine g_iload_n (pc' := 81) (j := 2) hC dX10_seenBy_80 rfl rfl rfl ?_
                refine g_istore_n (pc' := 82) (lv' := [(2, .int (msb σ (cn c) i)), (4, .int (nI 0)), (3, .int (nI i)), (0, .ref (g.2.1 15)), (1, .int (nI (cn c)))]) hC dX10_seenBy_81 rfl rfl (by decide) rfl ?_
                refine g_iinc (pc' := 85) (j := 2) (u := nI (i + 1)) (lv' := [(3, .int (nI (i + 1))), (2, .int (msb σ (cn c) i)), (4, .int (nI 0)), (0, .ref (g.2.1 15)), (1, .int (nI (cn c)))]) hC dX10_seenBy_82 rfl rfl (nI_add i 1) (by decide) rfl ?_
                refine g_goto (tgt := 23) hC dX10_seenBy_85 (by decide) ?_
                refine gg_lv (lv' := [(3, .int (nI (i + 1))), (2, .int (msb σ (cn c) i)), (0, .ref (g.2.1 15)), (1, .int (nI (cn c)))]) ?_ [0, 1, 3, 4] rfl
                refine gg_lve (lv' := [(3, .int (nI (i + 1))), (2, .int (msb σ (cn c) (i + 1))), (0, .ref (g.2.1 15)), (1, .int (nI (cn c)))]) (by first | rw [show msb σ (cn c) (i + 1) = _ from cI_t ⟨c33, Int32.not_lt.mp c48, c57⟩] | rw [show msb σ (cn c) (i + 1) = msb σ (cn c) i from cI_f (fun z => by first | exact z.1 c33 | exact absurd c48 (Int32.not_lt.mpr z.2.1) | exact z.2.2 c57)]) ?_
                exact ih23 (i + 1) (by omega) (by omega)
              · skip
                first | exact absurd c69 (by decide) | exact c69.elim
            · skip
              refine g_aload_n (pc' := 52) (j := 2) hC dX10_seenBy_51 rfl rfl rfl ?_
              refine g_iload_n (pc' := 53) (j := 0) hC dX10_seenBy_52 rfl rfl rfl ?_
              refine g_iload_n (pc' := 54) (j := 3) hC dX10_seenBy_53 rfl rfl rfl ?_
              refine f_Vi (pc' := 57) (k := 15) (st := []) hC (m_areForked x.2.1 g z0 (uv σ 15 0 (nI 0)) i ((cn c)) (by omega) (by omega) (hM0.pos (by omega)) (hM0.pos (by omega))) k_X10_areForked wM_X10_185 (by decide) (by decide) (ct_15 g (uv σ 15 0 (nI 0))) rfl rfl rfl rfl (Nat.le_of_ble_eq_true rfl) dX10_seenBy_54 rfl (Nat.zero_le _) (Nat.zero_le _) ?_
              refine b_if_ne (pc' := 60) (tgt := 64) hC dX10_seenBy_57 (by decide) rfl (fun c57 => ?_) (fun c57 => ?_)
              · skip
                have c57 : mfk σ i (cn c) := c57
                refine g_iconst (pc' := 65) (v := nI 0) hC dX10_seenBy_64 rfl rfl ?_
                refine g_istore (pc' := 67) (lv' := [(4, .int (nI 0)), (3, .int (nI i)), (2, .int (msb σ (cn c) i)), (0, .ref (g.2.1 15)), (1, .int (nI (cn c)))]) hC dX10_seenBy_65 rfl (by decide) rfl ?_
                refine g_iload (pc' := 69) (j := 0) hC dX10_seenBy_67 rfl rfl ?_
                refine n_if_eq (pc' := 72) (tgt := 80) hC dX10_seenBy_69 (by decide) rfl (by omega) (fun c69 => ?_) (fun c69 => ?_)
                · skip
                  refine g_iload_n (pc' := 81) (j := 2) hC dX10_seenBy_80 rfl rfl rfl ?_
                  refine g_istore_n (pc' := 82) (lv' := [(2, .int (msb σ (cn c) i)), (4, .int (nI 0)), (3, .int (nI i)), (0, .ref (g.2.1 15)), (1, .int (nI (cn c)))]) hC dX10_seenBy_81 rfl rfl (by decide) rfl ?_
                  refine g_iinc (pc' := 85) (j := 2) (u := nI (i + 1)) (lv' := [(3, .int (nI (i + 1))), (2, .int (msb σ (cn c) i)), (4, .int (nI 0)), (0, .ref (g.2.1 15)), (1, .int (nI (cn c)))]) hC dX10_seenBy_82 rfl rfl (nI_add i 1) (by decide) rfl ?_
                  refine g_goto (tgt := 23) hC dX10_seenBy_85 (by decide) ?_
                  refine gg_lv (lv' := [(3, .int (nI (i + 1))), (2, .int (msb σ (cn c) i)), (0, .ref (g.2.1 15)), (1, .int (nI (cn c)))]) ?_ [0, 1, 3, 4] rfl
                  refine gg_lve (lv' := [(3, .int (nI (i + 1))), (2, .int (msb σ (cn c) (i + 1))), (0, .ref (g.2.1 15)), (1, .int (nI (cn c)))]) (by first | rw [show msb σ (cn c) (i + 1) = _ from cI_t ⟨c33, Int32.not_lt.mp c48, c57⟩] | rw [show msb σ (cn c) (i + 1) = msb σ (cn c) i from cI_f (fun z => by first | exact z.1 c33 | exact absurd c48 (Int32.not_lt.mpr z.2.1) | exact z.2.2 c57)]) ?_
                  exact ih23 (i + 1) (by omega) (by omega)
                · skip
                  first | exact absurd c69 (by decide) | exact c69.elim
              · skip
                have c57 : ¬ mfk σ i (cn c) := c57
                refine g_iconst (pc' := 61) (v := nI 1) hC dX10_seenBy_60 rfl rfl ?_
                refine g_goto (tgt := 65) hC dX10_seenBy_61 (by decide) ?_
                refine g_istore (pc' := 67) (lv' := [(4, .int (nI 1)), (3, .int (nI i)), (2, .int (msb σ (cn c) i)), (0, .ref (g.2.1 15)), (1, .int (nI (cn c)))]) hC dX10_seenBy_65 rfl (by decide) rfl ?_
                refine g_iload (pc' := 69) (j := 0) hC dX10_seenBy_67 rfl rfl ?_
                refine n_if_eq (pc' := 72) (tgt := 80) hC dX10_seenBy_69 (by decide) rfl (by omega) (fun c69 => ?_) (fun c69 => ?_)
                · skip
                  first | exact absurd c69 (by decide) | exact c69.elim
                · skip
                  refine g_iload_n (pc' := 73) (j := 2) hC dX10_seenBy_72 rfl rfl rfl ?_
                  refine g_iconst (pc' := 74) (v := nI 1) hC dX10_seenBy_73 rfl rfl ?_
                  refine g_iload_n (pc' := 75) (j := 1) hC dX10_seenBy_74 rfl rfl rfl ?_
                  refine g_ishl (pc' := 76) hC dX10_seenBy_75 rfl ?_
                  refine g_ior (pc' := 77) hC dX10_seenBy_76 rfl ?_
                  refine g_goto (tgt := 81) hC dX10_seenBy_77 (by decide) ?_
                  refine g_istore_n (pc' := 82) (lv' := [(2, .int ((msb σ (cn c) i) ||| ((nI 1) <<< ((nI i) &&& 31)))), (4, .int (nI 1)), (3, .int (nI i)), (0, .ref (g.2.1 15)), (1, .int (nI (cn c)))]) hC dX10_seenBy_81 rfl rfl (by decide) rfl ?_
                  refine g_iinc (pc' := 85) (j := 2) (u := nI (i + 1)) (lv' := [(3, .int (nI (i + 1))), (2, .int ((msb σ (cn c) i) ||| ((nI 1) <<< ((nI i) &&& 31)))), (4, .int (nI 1)), (0, .ref (g.2.1 15)), (1, .int (nI (cn c)))]) hC dX10_seenBy_82 rfl rfl (nI_add i 1) (by decide) rfl ?_
                  refine g_goto (tgt := 23) hC dX10_seenBy_85 (by decide) ?_
                  refine gg_lv (lv' := [(3, .int (nI (i + 1))), (2, .int ((msb σ (cn c) i) ||| ((nI 1) <<< ((nI i) &&& 31)))), (0, .ref (g.2.1 15)), (1, .int (nI (cn c)))]) ?_ [0, 1, 3, 4] rfl
                  refine gg_lve (lv' := [(3, .int (nI (i + 1))), (2, .int (msb σ (cn c) (i + 1))), (0, .ref (g.2.1 15)), (1, .int (nI (cn c)))]) (by first | rw [show msb σ (cn c) (i + 1) = _ from cI_t ⟨c33, Int32.not_lt.mp c48, c57⟩] | rw [show msb σ (cn c) (i + 1) = msb σ (cn c) i from cI_f (fun z => by first | exact z.1 c33 | exact absurd c48 (Int32.not_lt.mpr z.2.1) | exact z.2.2 c57)]) ?_
                  exact ih23 (i + 1) (by omega) (by omega)
    refine gg_lv (lv' := [(3, .int (nI 0)), (2, .int (nI 0)), (0, .ref (g.2.1 15)), (1, .int (nI (cn c)))]) ?_ [0, 1, 2, 3] rfl
    exact L23 (rd σ 15 1 - 0 + 1) 0 (by omega) (by omega)
  · skip
    refine g_aload_n (pc' := 14) (j := 0) hC dX10_seenBy_13 rfl rfl rfl ?_
    refine g_iconst (pc' := 15) (v := nI 1) hC dX10_seenBy_14 rfl rfl ?_
    refine f_Vi (pc' := 18) (k := 15) (st := []) hC (m_refuse x.2.1 g z0 (uv σ 15 0 (nI 0)) ((nI 1))) k_X10_refuse wM_X10_171 (by decide) (by decide) (ct_15 g (uv σ 15 0 (nI 0))) rfl rfl rfl rfl (Nat.le_of_ble_eq_true rfl) dX10_seenBy_15 rfl (Nat.zero_le _) (Nat.zero_le _) ?_
    refine g_ret hC dX10_seenBy_18 rfl ?_
    exact ⟨by unfold msn; rw [cI_f (c10)], by unfold msn; rw [cI_f (c10)]⟩
set_option maxHeartbeats 4000000 in
set_option maxRecDepth 20000 in
theorem m_exchange (l : Launch) (g : Lay) (z0 : Nat) (σ : St) (ua : Int32) (ub : Int32) (hM : MI σ)  : CTi l yX10_exchange cX10_exchange 4 (some .int) 2 g z0 [.ref (g.2.1 15), .int ua, .int ub] σ (FI ((mxc σ ua ub).1) ((mxc σ ua ub).2)) := by
  refine CTi.of (by decide) (Nat.le_of_ble_eq_true rfl) ?_
  intro x hxl hxa hC
  have hC : Cx x RX10 cX10_exchange 4 (some .int) 2 g z0 := hC
  have hM0 := MI_m0 hM
  show GG x g z0 4 0 0 (Qi x g z0 (FI ((mxc σ ua ub).1) ((mxc σ ua ub).2))) σ 0 [(0, .ref (g.2.1 15)), (1, .int ua), (2, .int ub)] []
  refine g_aload_n (pc' := 1) (j := 0) hC dX10_exchange_0 rfl rfl rfl ?_
  refine g_iconst (pc' := 2) (v := nI 0) hC dX10_exchange_1 rfl rfl ?_
  refine pf_X10_0 (pc' := 5) hC wF_X10_66 dX10_exchange_2 rfl ?_
  refine g_aload_n (pc' := 6) (j := 0) hC dX10_exchange_5 rfl rfl rfl ?_
  refine g_iload_n (pc' := 7) (j := 1) hC dX10_exchange_6 rfl rfl rfl ?_
  refine f_Vi (pc' := 10) (k := 15) (st := []) hC (m_isClient x.2.1 g z0 (uv σ 15 0 (nI 0)) ua) k_X10_isClient wM_X10_165 (by decide) (by decide) (ct_15 g (uv σ 15 0 (nI 0))) rfl rfl rfl rfl (Nat.le_of_ble_eq_true rfl) dX10_exchange_7 rfl (Nat.zero_le _) (Nat.zero_le _) ?_
  refine gg_topi (b := bI (vlt (σ.1 15 1) ua)) (by simp (disch := decide) only [mh_uv, mh_ur, mcomp_uv, rd_uv, rd_ur, uv_cell, ur_cell, uv_idx, uv_fun, rd_idx, ne_eq, not_false_eq_true]) ?_
  refine b_if_eq (pc' := 13) (tgt := 26) hC dX10_exchange_10 (by decide) rfl (fun c10 => ?_) (fun c10 => ?_)
  · skip
    refine g_aload_n (pc' := 27) (j := 0) hC dX10_exchange_26 rfl rfl rfl ?_
    refine g_iconst (pc' := 28) (v := nI 1) hC dX10_exchange_27 rfl rfl ?_
    refine f_Vi (pc' := 31) (k := 15) (st := []) hC (m_refuse x.2.1 g z0 (uv σ 15 0 (nI 0)) ((nI 1))) k_X10_refuse wM_X10_171 (by decide) (by decide) (ct_15 g (uv σ 15 0 (nI 0))) rfl rfl rfl rfl (Nat.le_of_ble_eq_true rfl) dX10_exchange_28 rfl (Nat.zero_le _) (Nat.zero_le _) ?_
    refine g_ret hC dX10_exchange_31 rfl ?_
    first | exact ⟨by unfold mxc; rw [cI_f (fun z => c10 z.1)], by unfold mxc; rw [cI_f (fun z => c10 z.1)]⟩ | exact ⟨by unfold mxc; rw [cI_f (fun z => c18 z.2.1)], by unfold mxc; rw [cI_f (fun z => c18 z.2.1)]⟩ | exact ⟨by unfold mxc; rw [cI_f (fun z => z.2.2 c23)], by unfold mxc; rw [cI_f (fun z => z.2.2 c23)]⟩
  · skip
    refine g_aload_n (pc' := 14) (j := 0) hC dX10_exchange_13 rfl rfl rfl ?_
    refine g_iload_n (pc' := 15) (j := 2) hC dX10_exchange_14 rfl rfl rfl ?_
    refine f_Vi (pc' := 18) (k := 15) (st := []) hC (m_isClient x.2.1 g z0 (uv σ 15 0 (nI 0)) ub) k_X10_isClient wM_X10_165 (by decide) (by decide) (ct_15 g (uv σ 15 0 (nI 0))) rfl rfl rfl rfl (Nat.le_of_ble_eq_true rfl) dX10_exchange_15 rfl (Nat.zero_le _) (Nat.zero_le _) ?_
    refine gg_topi (b := bI (vlt (σ.1 15 1) ub)) (by simp (disch := decide) only [mh_uv, mh_ur, mcomp_uv, rd_uv, rd_ur, uv_cell, ur_cell, uv_idx, uv_fun, rd_idx, ne_eq, not_false_eq_true]) ?_
    refine b_if_eq (pc' := 21) (tgt := 26) hC dX10_exchange_18 (by decide) rfl (fun c18 => ?_) (fun c18 => ?_)
    · skip
      refine g_aload_n (pc' := 27) (j := 0) hC dX10_exchange_26 rfl rfl rfl ?_
      refine g_iconst (pc' := 28) (v := nI 1) hC dX10_exchange_27 rfl rfl ?_
      refine f_Vi (pc' := 31) (k := 15) (st := []) hC (m_refuse x.2.1 g z0 (uv σ 15 0 (nI 0)) ((nI 1))) k_X10_refuse wM_X10_171 (by decide) (by decide) (ct_15 g (uv σ 15 0 (nI 0))) rfl rfl rfl rfl (Nat.le_of_ble_eq_true rfl) dX10_exchange_28 rfl (Nat.zero_le _) (Nat.zero_le _) ?_
      refine g_ret hC dX10_exchange_31 rfl ?_
      first | exact ⟨by unfold mxc; rw [cI_f (fun z => c10 z.1)], by unfold mxc; rw [cI_f (fun z => c10 z.1)]⟩ | exact ⟨by unfold mxc; rw [cI_f (fun z => c18 z.2.1)], by unfold mxc; rw [cI_f (fun z => c18 z.2.1)]⟩ | exact ⟨by unfold mxc; rw [cI_f (fun z => z.2.2 c23)], by unfold mxc; rw [cI_f (fun z => z.2.2 c23)]⟩
    · skip
      refine g_iload_n (pc' := 22) (j := 1) hC dX10_exchange_21 rfl rfl rfl ?_
      refine g_iload_n (pc' := 23) (j := 2) hC dX10_exchange_22 rfl rfl rfl ?_
      refine g_icmp_ne (pc' := 26) (tgt := 32) hC dX10_exchange_23 (by decide) rfl (fun c23 => ?_) (fun c23 => ?_)
      · skip
        obtain ⟨hcN, hcL, hcM⟩ := hM.cl c10
        refine gg_lve (lv' := [(0, .ref (g.2.1 15)), (1, .int (nI (cn ua))), (2, .int ub)]) (by rw [← hcN]) ?_
        obtain ⟨hdN, hdL, hdM⟩ := hM.cl c18
        have hpa := hM.pos (c := cn ua) (by omega)
        have hpb := hM.pos (c := cn ub) (by omega)
        have hpa2 := hpa.2
        have hpb2 := hpb.2
        refine gg_lve (lv' := [(0, .ref (g.2.1 15)), (1, .int (nI (cn ua))), (2, .int (nI (cn ub)))]) (by rw [← hdN]) ?_
        refine g_aload_n (pc' := 33) (j := 0) hC dX10_exchange_32 rfl rfl rfl ?_
        refine g_iload_n (pc' := 34) (j := 1) hC dX10_exchange_33 rfl rfl rfl ?_
        refine g_iload_n (pc' := 35) (j := 2) hC dX10_exchange_34 rfl rfl rfl ?_
        refine f_Vi (pc' := 38) (k := 15) (st := []) hC (m_areForked x.2.1 g z0 (uv σ 15 0 (nI 0)) ((cn ua)) ((cn ub)) (by omega) (by omega) (hM0.pos (by omega)) (hM0.pos (by omega))) k_X10_areForked wM_X10_185 (by decide) (by decide) (ct_15 g (uv σ 15 0 (nI 0))) rfl rfl rfl rfl (Nat.le_of_ble_eq_true rfl) dX10_exchange_35 rfl (Nat.zero_le _) (Nat.zero_le _) ?_
        refine b_if_eq (pc' := 41) (tgt := 101) hC dX10_exchange_38 (by decide) rfl (fun c38 => ?_) (fun c38 => ?_)
        · skip
          have c38 : ¬ mfk σ (cn ua) (cn ub) := c38
          refine g_aload_n (pc' := 102) (j := 0) hC dX10_exchange_101 rfl rfl rfl ?_
          refine gf_X10_14 (pc' := 105) hC wF_X10_34 dX10_exchange_102 rfl ?_
          refine g_iload_n (pc' := 106) (j := 1) hC dX10_exchange_105 rfl rfl rfl ?_
          refine a_ld (pc' := 107) (k := 24) (i := cn ua) hC (by decide) (ct_24 g (uv σ 15 0 (nI 0))) (by omega) (by decide) dX10_exchange_106 rfl ?_
          refine gg_topi (b := nI (rd σ 24 (cn ua))) ((uv_cell _ _ _ _ (by decide)).trans ((hM.pos (by omega)).1)) ?_
          refine g_aload_n (pc' := 108) (j := 0) hC dX10_exchange_107 rfl rfl rfl ?_
          refine gf_X10_14 (pc' := 111) hC wF_X10_34 dX10_exchange_108 rfl ?_
          refine g_iload_n (pc' := 112) (j := 2) hC dX10_exchange_111 rfl rfl rfl ?_
          refine a_ld (pc' := 113) (k := 24) (i := cn ub) hC (by decide) (ct_24 g (uv σ 15 0 (nI 0))) (by omega) (by decide) dX10_exchange_112 rfl ?_
          refine gg_topi (b := nI (rd σ 24 (cn ub))) ((uv_cell _ _ _ _ (by decide)).trans ((hM.pos (by omega)).1)) ?_
          refine n_icmp_ne (pc' := 116) (tgt := 118) hC dX10_exchange_113 (by decide) rfl (by omega) (by omega) (fun c113 => ?_) (fun c113 => ?_)
          · skip
            refine g_aload_n (pc' := 119) (j := 0) hC dX10_exchange_118 rfl rfl rfl ?_
            refine gf_X10_14 (pc' := 122) hC wF_X10_34 dX10_exchange_119 rfl ?_
            refine g_iload_n (pc' := 123) (j := 1) hC dX10_exchange_122 rfl rfl rfl ?_
            refine a_ld (pc' := 124) (k := 24) (i := cn ua) hC (by decide) (ct_24 g (uv σ 15 0 (nI 0))) (by omega) (by decide) dX10_exchange_123 rfl ?_
            refine gg_topi (b := nI (rd σ 24 (cn ua))) ((uv_cell _ _ _ _ (by decide)).trans ((hM.pos (by omega)).1)) ?_
            refine g_aload_n (pc' := 125) (j := 0) hC dX10_exchange_124 rfl rfl rfl ?_
            refine gf_X10_14 (pc' := 128) hC wF_X10_34 dX10_exchange_125 rfl ?_
            refine g_iload_n (pc' := 129) (j := 2) hC dX10_exchange_128 rfl rfl rfl ?_
            refine a_ld (pc' := 130) (k := 24) (i := cn ub) hC (by decide) (ct_24 g (uv σ 15 0 (nI 0))) (by omega) (by decide) dX10_exchange_129 rfl ?_
            refine gg_topi (b := nI (rd σ 24 (cn ub))) ((uv_cell _ _ _ _ (by decide)).trans ((hM.pos (by omega)).1)) ?_
            refine n_icmp_ge (pc' := 133) (tgt := 137) hC dX10_exchange_130 (by decide) rfl (by omega) (by omega) (fun c130 => ?_) (fun c130 => ?_)
            · skip
              refine g_iconst (pc' := 138) (v := nI 2) hC dX10_exchange_137 rfl rfl ?_
              refine g_ret hC dX10_exchange_138 rfl ?_
              first | exact ⟨by unfold mxc; rw [cI_t (⟨c10, c18, c23⟩), cI_f (c38), cI_f (c113), cI_t (c130)], by unfold mxc; rw [cI_t (⟨c10, c18, c23⟩), cI_f (c38), cI_f (c113), cI_t (c130)]⟩ | exact ⟨by unfold mxc; rw [cI_t (⟨c10, c18, c23⟩), cI_f (c38), cI_f (c113), cI_f (Nat.not_lt.mpr c130)], by unfold mxc; rw [cI_t (⟨c10, c18, c23⟩), cI_f (c38), cI_f (c113), cI_f (Nat.not_lt.mpr c130)]⟩
            · skip
              refine g_iconst (pc' := 134) (v := nI 1) hC dX10_exchange_133 rfl rfl ?_
              refine g_goto (tgt := 138) hC dX10_exchange_134 (by decide) ?_
              refine g_ret hC dX10_exchange_138 rfl ?_
              first | exact ⟨by unfold mxc; rw [cI_t (⟨c10, c18, c23⟩), cI_f (c38), cI_f (c113), cI_t (c130)], by unfold mxc; rw [cI_t (⟨c10, c18, c23⟩), cI_f (c38), cI_f (c113), cI_t (c130)]⟩ | exact ⟨by unfold mxc; rw [cI_t (⟨c10, c18, c23⟩), cI_f (c38), cI_f (c113), cI_f (Nat.not_lt.mpr c130)], by unfold mxc; rw [cI_t (⟨c10, c18, c23⟩), cI_f (c38), cI_f (c113), cI_f (Nat.not_lt.mpr c130)]⟩
          · skip
            refine g_iconst (pc' := 117) (v := nI 0) hC dX10_exchange_116 rfl rfl ?_
            refine g_ret hC dX10_exchange_117 rfl ?_
            exact ⟨by unfold mxc; rw [cI_t (⟨c10, c18, c23⟩), cI_f (c38), cI_t (c113)], by unfold mxc; rw [cI_t (⟨c10, c18, c23⟩), cI_f (c38), cI_t (c113)]⟩
        · skip
          have c38 : mfk σ (cn ua) (cn ub) := c38
          refine g_iconst (pc' := 42) (v := nI 0) hC dX10_exchange_41 rfl rfl ?_
          refine g_istore_n (pc' := 43) (lv' := [(3, .int (nI 0)), (0, .ref (g.2.1 15)), (1, .int (nI (cn ua))), (2, .int (nI (cn ub)))]) hC dX10_exchange_42 rfl rfl (by decide) rfl ?_
          have L43 : ∀ (fu : Nat) (n : Nat), (n ≤ min (rd σ 24 (cn ua)) (rd σ 24 (cn ub))) → (∀ j, j < n → ¬ mdd σ (cn ua) (cn ub) j) → (201 - n) < fu → GG x g z0 4 0 0 (Qi x g z0 (FI ((mxc σ ua ub).1) ((mxc σ ua ub).2))) (uv σ 15 0 (nI 0)) 43 [(3, .int (nI n)), (0, .ref (g.2.1 15)), (1, .int (nI (cn ua))), (2, .int (nI (cn ub)))] [] := by
            intro fu
            induction fu with
            | zero => intro n hn hmin hz; exact absurd hz (Nat.not_lt_zero _)
            | succ fu ih43 =>
              intro n hn hmin hf
              refine g_aload_n (pc' := 44) (j := 1) hC dX10_exchange_43 rfl rfl rfl ?_
              refine g_iload_n (pc' := 45) (j := 2) hC dX10_exchange_44 rfl rfl rfl ?_
              refine g_iload_n (pc' := 46) (j := 0) hC dX10_exchange_45 rfl rfl rfl ?_
              refine f_Vi (pc' := 49) (k := 15) (st := []) hC (m_hashIn x.2.1 g z0 (uv σ 15 0 (nI 0)) ((cn ua)) n (by omega) (by omega)) k_X10_hashIn wM_X10_90 (by decide) (by decide) (ct_15 g (uv σ 15 0 (nI 0))) rfl rfl rfl rfl (Nat.le_of_ble_eq_true rfl) dX10_exchange_46 rfl (Nat.zero_le _) (Nat.zero_le _) ?_
              refine gg_topi (b := σ.1 27 (201 * (cn ua) + n)) (by simp (disch := decide) only [mh_uv, mh_ur, mcomp_uv, rd_uv, rd_ur, uv_cell, ur_cell, uv_idx, uv_fun, rd_idx, ne_eq, not_false_eq_true]) ?_
              refine g_aload_n (pc' := 50) (j := 1) hC dX10_exchange_49 rfl rfl rfl ?_
              refine g_iload_n (pc' := 51) (j := 3) hC dX10_exchange_50 rfl rfl rfl ?_
              refine g_iload_n (pc' := 52) (j := 0) hC dX10_exchange_51 rfl rfl rfl ?_
              refine f_Vi (pc' := 55) (k := 15) (st := [.int (σ.1 27 (201 * (cn ua) + n))]) hC (m_hashIn x.2.1 g z0 (uv σ 15 0 (nI 0)) ((cn ub)) n (by omega) (by omega)) k_X10_hashIn wM_X10_90 (by decide) (by decide) (ct_15 g (uv σ 15 0 (nI 0))) rfl rfl rfl rfl (Nat.le_of_ble_eq_true rfl) dX10_exchange_52 rfl (Nat.zero_le _) (Nat.zero_le _) ?_
              refine gg_topi (b := σ.1 27 (201 * (cn ub) + n)) (by simp (disch := decide) only [mh_uv, mh_ur, mcomp_uv, rd_uv, rd_ur, uv_cell, ur_cell, uv_idx, uv_fun, rd_idx, ne_eq, not_false_eq_true]) ?_
              refine g_icmp_ne (pc' := 58) (tgt := 65) hC dX10_exchange_55 (by decide) rfl (fun c55 => ?_) (fun c55 => ?_)
              · skip
                refine g_aload_n (pc' := 66) (j := 1) hC dX10_exchange_65 rfl rfl rfl ?_
                refine g_iconst (pc' := 67) (v := nI 2) hC dX10_exchange_66 rfl rfl ?_
                refine g_iload_n (pc' := 68) (j := 2) hC dX10_exchange_67 rfl rfl rfl ?_
                refine g_iload_n (pc' := 69) (j := 3) hC dX10_exchange_68 rfl rfl rfl ?_
                refine g_iload_n (pc' := 70) (j := 0) hC dX10_exchange_69 rfl rfl rfl ?_
                refine g_aload_n (pc' := 71) (j := 1) hC dX10_exchange_70 rfl rfl rfl ?_
                refine g_iload_n (pc' := 72) (j := 2) hC dX10_exchange_71 rfl rfl rfl ?_
                refine g_iload_n (pc' := 73) (j := 0) hC dX10_exchange_72 rfl rfl rfl ?_
                refine f_Vi (pc' := 76) (k := 15) (st := [.int (nI n), .int (nI (cn ub)), .int (nI (cn ua)), .int (nI 2), .ref (g.2.1 15)]) hC (m_hashIn x.2.1 g z0 (uv σ 15 0 (nI 0)) ((cn ua)) n (by omega) (by omega)) k_X10_hashIn wM_X10_90 (by decide) (by decide) (ct_15 g (uv σ 15 0 (nI 0))) rfl rfl rfl rfl (Nat.le_of_ble_eq_true rfl) dX10_exchange_73 rfl (Nat.zero_le _) (Nat.zero_le _) ?_
                refine gg_topi (b := σ.1 27 (201 * (cn ua) + n)) (by simp (disch := decide) only [mh_uv, mh_ur, mcomp_uv, rd_uv, rd_ur, uv_cell, ur_cell, uv_idx, uv_fun, rd_idx, ne_eq, not_false_eq_true]) ?_
                refine g_aload_n (pc' := 77) (j := 1) hC dX10_exchange_76 rfl rfl rfl ?_
                refine g_iload_n (pc' := 78) (j := 3) hC dX10_exchange_77 rfl rfl rfl ?_
                refine g_iload_n (pc' := 79) (j := 0) hC dX10_exchange_78 rfl rfl rfl ?_
                refine f_Vi (pc' := 82) (k := 15) (st := [.int (σ.1 27 (201 * (cn ua) + n)), .int (nI n), .int (nI (cn ub)), .int (nI (cn ua)), .int (nI 2), .ref (g.2.1 15)]) hC (m_hashIn x.2.1 g z0 (uv σ 15 0 (nI 0)) ((cn ub)) n (by omega) (by omega)) k_X10_hashIn wM_X10_90 (by decide) (by decide) (ct_15 g (uv σ 15 0 (nI 0))) rfl rfl rfl rfl (Nat.le_of_ble_eq_true rfl) dX10_exchange_79 rfl (Nat.zero_le _) (Nat.zero_le _) ?_
                refine gg_topi (b := σ.1 27 (201 * (cn ub) + n)) (by simp (disch := decide) only [mh_uv, mh_ur, mcomp_uv, rd_uv, rd_ur, uv_cell, ur_cell, uv_idx, uv_fun, rd_idx, ne_eq, not_false_eq_true]) ?_
                refine f_Vv (pc' := 85) (k := 15) (st := []) hC (m_blames6 x.2.1 g z0 (uv σ 15 0 (nI 0)) ((nI 2)) ((nI (cn ua))) ((nI (cn ub))) ((nI n)) ((σ.1 27 (201 * (cn ua) + n))) ((σ.1 27 (201 * (cn ub) + n))) (hM0.blms)) k_X10_blames wM_X10_146 (by decide) (by decide) (ct_15 g (uv σ 15 0 (nI 0))) rfl rfl rfl rfl (Nat.le_of_ble_eq_true rfl) dX10_exchange_82 rfl (Nat.zero_le _) (Nat.zero_le _) ?_
                refine g_aload_n (pc' := 86) (j := 1) hC dX10_exchange_85 rfl rfl rfl ?_
                refine gf_X10_18 (pc' := 89) hC wF_X10_46 dX10_exchange_86 rfl ?_
                refine g_iload_n (pc' := 90) (j := 2) hC dX10_exchange_89 rfl rfl rfl ?_
                refine g_iconst (pc' := 91) (v := nI 1) hC dX10_exchange_90 rfl rfl ?_
                refine a_stz (pc' := 92) (k := 28) (i := cn ua) hC (by decide) (fun σ9 => (ct_28 g σ9)) (by omega) (by decide) rfl dX10_exchange_91 rfl ?_
                refine g_aload_n (pc' := 93) (j := 1) hC dX10_exchange_92 rfl rfl rfl ?_
                refine gf_X10_18 (pc' := 96) hC wF_X10_46 dX10_exchange_93 rfl ?_
                refine g_iload_n (pc' := 97) (j := 3) hC dX10_exchange_96 rfl rfl rfl ?_
                refine g_iconst (pc' := 98) (v := nI 1) hC dX10_exchange_97 rfl rfl ?_
                refine a_stz (pc' := 99) (k := 28) (i := cn ub) hC (by decide) (fun σ9 => (ct_28 g σ9)) (by omega) (by decide) rfl dX10_exchange_98 rfl ?_
                refine g_iconst (pc' := 100) (v := nI 3) hC dX10_exchange_99 rfl rfl ?_
                refine g_ret hC dX10_exchange_100 rfl ?_
                have el : lst (mdd σ (cn ua) (cn ub)) = n := lst_eq c55 hmin; exact ⟨by unfold mxc; rw [cI_t ⟨c10, c18, c23⟩, cI_t c38], by unfold mxc; rw [cI_t ⟨c10, c18, c23⟩, cI_t c38, el, ← hcN, ← hdN]⟩
              · skip
                refine g_iload_n (pc' := 59) (j := 0) hC dX10_exchange_58 rfl rfl rfl ?_
                refine g_iconst (pc' := 60) (v := nI 1) hC dX10_exchange_59 rfl rfl ?_
                refine n_iadd (pc' := 61) hC dX10_exchange_60 rfl ?_
                refine g_istore_n (pc' := 62) (lv' := [(3, .int (nI (n + 1))), (0, .ref (g.2.1 15)), (1, .int (nI (cn ua))), (2, .int (nI (cn ub)))]) hC dX10_exchange_61 rfl rfl (by decide) rfl ?_
                refine g_goto (tgt := 43) hC dX10_exchange_62 (by decide) ?_
                refine gg_lv (lv' := [(3, .int (nI (n + 1))), (0, .ref (g.2.1 15)), (1, .int (nI (cn ua))), (2, .int (nI (cn ub)))]) ?_ [0, 1, 2, 3] rfl
                exact ih43 (n + 1) (by have : n ≠ min (rd σ 24 (cn ua)) (rd σ 24 (cn ub)) := (fun e => c38 (e ▸ c55)); omega) (lt_s hmin (fun z => z c55)) (by omega)
          refine gg_lv (lv' := [(3, .int (nI 0)), (0, .ref (g.2.1 15)), (1, .int (nI (cn ua))), (2, .int (nI (cn ub)))]) ?_ [0, 1, 2, 3] rfl
          exact L43 (201 - 0 + 1) 0 (by omega) (lt_0) (by omega)
      · skip
        refine g_aload_n (pc' := 27) (j := 0) hC dX10_exchange_26 rfl rfl rfl ?_
        refine g_iconst (pc' := 28) (v := nI 1) hC dX10_exchange_27 rfl rfl ?_
        refine f_Vi (pc' := 31) (k := 15) (st := []) hC (m_refuse x.2.1 g z0 (uv σ 15 0 (nI 0)) ((nI 1))) k_X10_refuse wM_X10_171 (by decide) (by decide) (ct_15 g (uv σ 15 0 (nI 0))) rfl rfl rfl rfl (Nat.le_of_ble_eq_true rfl) dX10_exchange_28 rfl (Nat.zero_le _) (Nat.zero_le _) ?_
        refine g_ret hC dX10_exchange_31 rfl ?_
        first | exact ⟨by unfold mxc; rw [cI_f (fun z => c10 z.1)], by unfold mxc; rw [cI_f (fun z => c10 z.1)]⟩ | exact ⟨by unfold mxc; rw [cI_f (fun z => c18 z.2.1)], by unfold mxc; rw [cI_f (fun z => c18 z.2.1)]⟩ | exact ⟨by unfold mxc; rw [cI_f (fun z => z.2.2 c23)], by unfold mxc; rw [cI_f (fun z => z.2.2 c23)]⟩
set_option maxHeartbeats 4000000 in
set_option maxRecDepth 20000 in
theorem m_fork (l : Launch) (g : Lay) (z0 : Nat) (σ : St) (s : Int32) (hM : MI σ) (hS : MS σ)  : CTi l yX10_fork cX10_fork 4 (some .int) 2 g z0 [.ref (g.2.1 15), .int s] σ (FI ((mfo σ s).1) ((mfo σ s).2)) := by
  refine CTi.of (by decide) (Nat.le_of_ble_eq_true rfl) ?_
  intro x hxl hxa hC
  have hC : Cx x RX10 cX10_fork 4 (some .int) 2 g z0 := hC
  have hM0 := MI_m0 hM
  have hC2 := hM.1.1.2
  have hB2 := hM.1.2.2.2.1.2
  show GG x g z0 4 0 0 (Qi x g z0 (FI ((mfo σ s).1) ((mfo σ s).2))) σ 0 [(0, .ref (g.2.1 15)), (1, .int s)] []
  refine g_aload_n (pc' := 1) (j := 0) hC dX10_fork_0 rfl rfl rfl ?_
  refine g_iconst (pc' := 2) (v := nI 0) hC dX10_fork_1 rfl rfl ?_
  refine pf_X10_0 (pc' := 5) hC wF_X10_66 dX10_fork_2 rfl ?_
  refine g_iload_n (pc' := 6) (j := 1) hC dX10_fork_5 rfl rfl rfl ?_
  refine g_iconst (pc' := 7) (v := nI 1) hC dX10_fork_6 rfl rfl ?_
  refine g_icmp_lt (pc' := 10) (tgt := 20) hC dX10_fork_7 (by decide) rfl (fun c7 => ?_) (fun c7 => ?_)
  · skip
    refine g_aload_n (pc' := 21) (j := 0) hC dX10_fork_20 rfl rfl rfl ?_
    refine g_iconst (pc' := 22) (v := nI 1) hC dX10_fork_21 rfl rfl ?_
    refine f_Vi (pc' := 25) (k := 15) (st := []) hC (m_refuse x.2.1 g z0 (uv σ 15 0 (nI 0)) ((nI 1))) k_X10_refuse wM_X10_171 (by decide) (by decide) (ct_15 g (uv σ 15 0 (nI 0))) rfl rfl rfl rfl (Nat.le_of_ble_eq_true rfl) dX10_fork_22 rfl (Nat.zero_le _) (Nat.zero_le _) ?_
    refine g_ret hC dX10_fork_25 rfl ?_
    first | exact ⟨by unfold mfo; rw [cI_f (fun z => absurd c7 (Int32.not_lt.mpr z.1))], by unfold mfo; rw [cI_f (fun z => absurd c7 (Int32.not_lt.mpr z.1))]⟩ | exact ⟨by unfold mfo; rw [cI_f (fun z => c17 z.2)], by unfold mfo; rw [cI_f (fun z => c17 z.2)]⟩
  · skip
    refine g_iload_n (pc' := 11) (j := 1) hC dX10_fork_10 rfl rfl rfl ?_
    refine g_iconst (pc' := 12) (v := nI 1) hC dX10_fork_11 rfl rfl ?_
    refine g_aload_n (pc' := 13) (j := 0) hC dX10_fork_12 rfl rfl rfl ?_
    refine gf_X10_1 (pc' := 16) hC wF_X10_69 dX10_fork_13 rfl ?_
    refine gg_topi (b := nI (rd σ 15 1)) ((uv_idx _ _ _ _ (by decide)).trans (hM.1.1.1)) ?_
    refine g_ishl (pc' := 17) hC dX10_fork_16 rfl ?_
    refine g_icmp_lt (pc' := 20) (tgt := 26) hC dX10_fork_17 (by decide) rfl (fun c17 => ?_) (fun c17 => ?_)
    · skip
      have hv : mfv σ s := ⟨Int32.not_lt.mp c7, c17⟩
      refine g_aload_n (pc' := 27) (j := 0) hC dX10_fork_26 rfl rfl rfl ?_
      refine g_iload_n (pc' := 28) (j := 1) hC dX10_fork_27 rfl rfl rfl ?_
      refine f_Vi (pc' := 31) (k := 15) (st := []) hC (m_seenByAll x.2.1 g z0 (uv σ 15 0 (nI 0)) s (hM0.1.1)) k_X10_seenByAll wM_X10_192 (by decide) (by decide) (ct_15 g (uv σ 15 0 (nI 0))) rfl rfl rfl rfl (Nat.le_of_ble_eq_true rfl) dX10_fork_28 rfl (Nat.zero_le _) (Nat.zero_le _) ?_
      refine gg_topi (b := msa (σ.1 23) s (rd σ 15 1) 0 (-1)) (by simp (disch := decide) only [mh_uv, mh_ur, mcomp_uv, rd_uv, rd_ur, uv_cell, ur_cell, uv_idx, uv_fun, rd_idx, ne_eq, not_false_eq_true]) ?_
      refine g_istore_n (pc' := 32) (lv' := [(2, .int (msa (σ.1 23) s (rd σ 15 1) 0 (-1))), (0, .ref (g.2.1 15)), (1, .int s)]) hC dX10_fork_31 rfl rfl (by decide) rfl ?_
      refine g_iload_n (pc' := 33) (j := 0) hC dX10_fork_32 rfl rfl rfl ?_
      refine g_iconst (pc' := 34) (v := (-1)) hC dX10_fork_33 rfl rfl ?_
      refine g_icmp_eq (pc' := 37) (tgt := 46) hC dX10_fork_34 (by decide) rfl (fun c34 => ?_) (fun c34 => ?_)
      · skip
        have hq : msF σ s = -1 ∨ rd σ 15 4 = 8 := Or.inl c34
        refine g_aload_n (pc' := 47) (j := 1) hC dX10_fork_46 rfl rfl rfl ?_
        refine g_iconst (pc' := 48) (v := nI 2) hC dX10_fork_47 rfl rfl ?_
        refine f_Vi (pc' := 51) (k := 15) (st := []) hC (m_refuse x.2.1 g z0 (uv σ 15 0 (nI 0)) ((nI 2))) k_X10_refuse wM_X10_171 (by decide) (by decide) (ct_15 g (uv σ 15 0 (nI 0))) rfl rfl rfl rfl (Nat.le_of_ble_eq_true rfl) dX10_fork_48 rfl (Nat.zero_le _) (Nat.zero_le _) ?_
        refine g_ret hC dX10_fork_51 rfl ?_
        exact ⟨by unfold mfo; rw [cI_t (hv), cI_t (hq)], by unfold mfo; rw [cI_t (hv), cI_t (hq)]⟩
      · skip
        have c34 : ¬ msF σ s = -1 := c34
        refine g_aload_n (pc' := 38) (j := 1) hC dX10_fork_37 rfl rfl rfl ?_
        refine gf_X10_4 (pc' := 41) hC wF_X10_79 dX10_fork_38 rfl ?_
        refine gg_topi (b := nI (rd σ 15 4)) ((uv_idx _ _ _ _ (by decide)).trans (hM.1.2.2.2.1.1)) ?_
        refine g_bipush (pc' := 43) (v := nI 8) hC dX10_fork_41 rfl rfl ?_
        refine n_icmp_ne (pc' := 46) (tgt := 52) hC dX10_fork_43 (by decide) rfl (by omega) (by omega) (fun c43 => ?_) (fun c43 => ?_)
        · skip
          have hz : ¬ (msF σ s = -1 ∨ rd σ 15 4 = 8) := (fun z => z.elim c34 c43)
          obtain ⟨hfN, hfL⟩ := msF_n hM hS s c34
          have hl9 := hM.len (b := cn (msF σ s)) (by omega)
          have hl92 := hl9.2
          refine gg_lve (lv' := [(2, .int (nI (cn (msF σ s)))), (0, .ref (g.2.1 15)), (1, .int s)]) (by rw [← hfN]; rfl) ?_
          refine g_aload_n (pc' := 53) (j := 1) hC dX10_fork_52 rfl rfl rfl ?_
          refine g_iload_n (pc' := 54) (j := 0) hC dX10_fork_53 rfl rfl rfl ?_
          refine g_aload_n (pc' := 55) (j := 1) hC dX10_fork_54 rfl rfl rfl ?_
          refine gf_X10_4 (pc' := 58) hC wF_X10_79 dX10_fork_55 rfl ?_
          refine gg_topi (b := nI (rd σ 15 4)) ((uv_idx _ _ _ _ (by decide)).trans (hM.1.2.2.2.1.1)) ?_
          refine g_aload_n (pc' := 59) (j := 1) hC dX10_fork_58 rfl rfl rfl ?_
          refine gf_X10_6 (pc' := 62) hC wF_X10_7 dX10_fork_59 rfl ?_
          refine g_iload_n (pc' := 63) (j := 0) hC dX10_fork_62 rfl rfl rfl ?_
          refine a_ld (pc' := 64) (k := 16) (i := cn (msF σ s)) hC (by decide) (ct_16 g (uv σ 15 0 (nI 0))) (by omega) (by decide) dX10_fork_63 rfl ?_
          refine gg_topi (b := nI (rd σ 16 (cn (msF σ s)))) ((uv_cell _ _ _ _ (by decide)).trans (hl9.1)) ?_
          refine f_Vv (pc' := 67) (k := 15) (st := []) hC (m_copies x.2.1 g z0 (uv σ 15 0 (nI 0)) ((cn (msF σ s))) ((rd σ 15 4)) ((rd σ 16 (cn (msF σ s)))) (by omega) (by omega) (by omega) (by omega)) k_X10_copies wM_X10_195 (by decide) (by decide) (ct_15 g (uv σ 15 0 (nI 0))) rfl rfl rfl rfl (Nat.le_of_ble_eq_true rfl) dX10_fork_64 rfl (Nat.zero_le _) (Nat.zero_le _) ?_
          refine g_iconst (pc' := 68) (v := nI 0) hC dX10_fork_67 rfl rfl ?_
          refine g_istore_n (pc' := 69) (lv' := [(3, .int (nI 0)), (2, .int (nI (cn (msF σ s)))), (0, .ref (g.2.1 15)), (1, .int s)]) hC dX10_fork_68 rfl rfl (by decide) rfl ?_
          have L69 : ∀ (fu : Nat) (i : Nat), (i ≤ rd σ 15 1) → (rd σ 15 1 - i) < fu → GG x g z0 4 0 0 (Qi x g z0 (FI ((mfo σ s).1) ((mfo σ s).2))) (ur (mcps (uv σ 15 0 (nI 0)) (cn (msF σ s)) (rd σ 15 4) (rd σ 16 (cn (msF σ s)))) 23 (fkr (σ.1 23) s (nI (rd σ 15 4)) i)) 69 [(3, .int (nI i)), (2, .int (nI (cn (msF σ s)))), (0, .ref (g.2.1 15)), (1, .int s)] [] := by
            intro fu
            induction fu with
            | zero => intro i hi hz; exact absurd hz (Nat.not_lt_zero _)
            | succ fu ih69 =>
              intro i hi hf
              refine g_iload_n (pc' := 70) (j := 0) hC dX10_fork_69 rfl rfl rfl ?_
              refine g_aload_n (pc' := 71) (j := 2) hC dX10_fork_70 rfl rfl rfl ?_
              refine gf_X10_1 (pc' := 74) hC wF_X10_69 dX10_fork_71 rfl ?_
              refine gg_topi (b := nI (rd σ 15 1)) ((ur_cell _ _ _ (by decide)).trans ((mcps_o _ _ _ _ _ (by decide)).trans ((uv_idx _ _ _ _ (by decide)).trans hM.1.1.1))) ?_
              refine n_icmp_ge (pc' := 77) (tgt := 110) hC dX10_fork_74 (by decide) rfl (by omega) (by omega) (fun c74 => ?_) (fun c74 => ?_)
              · skip
                refine g_aload_n (pc' := 111) (j := 2) hC dX10_fork_110 rfl rfl rfl ?_
                refine g_aload_n (pc' := 112) (j := 2) hC dX10_fork_111 rfl rfl rfl ?_
                refine gf_X10_4 (pc' := 115) hC wF_X10_79 dX10_fork_112 rfl ?_
                refine gg_topi (b := nI (rd σ 15 4)) ((ur_cell _ _ _ (by decide)).trans ((mcps_o _ _ _ _ _ (by decide)).trans ((uv_idx _ _ _ _ (by decide)).trans hM.1.2.2.2.1.1))) ?_
                refine g_iconst (pc' := 116) (v := nI 1) hC dX10_fork_115 rfl rfl ?_
                refine n_iadd (pc' := 117) hC dX10_fork_116 rfl ?_
                refine pf_X10_4 (pc' := 120) hC wF_X10_79 dX10_fork_117 rfl ?_
                refine g_aload_n (pc' := 121) (j := 2) hC dX10_fork_120 rfl rfl rfl ?_
                refine gf_X10_4 (pc' := 124) hC wF_X10_79 dX10_fork_121 rfl ?_
                refine gg_topi (b := nI ((rd σ 15 4) + 1)) (uv_same _ _ _ _) ?_
                refine g_iconst (pc' := 125) (v := nI 1) hC dX10_fork_124 rfl rfl ?_
                refine n_isub (pc' := 126) hC dX10_fork_125 rfl (by omega) ?_
                refine g_ret hC dX10_fork_126 rfl ?_
                exact ⟨by unfold mfo; rw [cI_t hv, cI_f hz]; rfl, by unfold mfo; rw [cI_t hv, cI_f hz, show rd σ 15 1 = i by omega]⟩
              · skip
                refine g_aload_n (pc' := 78) (j := 2) hC dX10_fork_77 rfl rfl rfl ?_
                refine gf_X10_13 (pc' := 81) hC wF_X10_31 dX10_fork_78 rfl ?_
                refine g_iload_n (pc' := 82) (j := 0) hC dX10_fork_81 rfl rfl rfl ?_
                refine g_iload_n (pc' := 83) (j := 3) hC dX10_fork_82 rfl rfl rfl ?_
                refine g_iload_n (pc' := 84) (j := 0) hC dX10_fork_83 rfl rfl rfl ?_
                refine f_Si (pc' := 87) (st := [.int (nI i), .ref (g.2.1 23)]) hC (m_has x.2.1 g z0 (ur (mcps (uv σ 15 0 (nI 0)) (cn (msF σ s)) (rd σ 15 4) (rd σ 16 (cn (msF σ s)))) 23 (fkr (σ.1 23) s (nI (rd σ 15 4)) i)) s i) k_X10_has wM_X10_189 (by decide) rfl rfl (Nat.le_of_ble_eq_true rfl) dX10_fork_84 rfl (Nat.zero_le _) (Nat.zero_le _) ?_
                refine b_if_eq (pc' := 90) (tgt := 97) hC dX10_fork_87 (by decide) rfl (fun c87 => ?_) (fun c87 => ?_)
                · skip
                  refine g_aload_n (pc' := 98) (j := 2) hC dX10_fork_97 rfl rfl rfl ?_
                  refine gf_X10_13 (pc' := 101) hC wF_X10_31 dX10_fork_98 rfl ?_
                  refine g_iload_n (pc' := 102) (j := 0) hC dX10_fork_101 rfl rfl rfl ?_
                  refine a_ld (pc' := 103) (k := 23) (i := i) hC (by decide) (ct_23 g (ur (mcps (uv σ 15 0 (nI 0)) (cn (msF σ s)) (rd σ 15 4) (rd σ 16 (cn (msF σ s)))) 23 (fkr (σ.1 23) s (nI (rd σ 15 4)) i))) (by omega) (by decide) dX10_fork_102 rfl ?_
                  refine a_st (pc' := 104) (k := 23) (i := i) hC (by decide) (fun σ9 => (ct_23 g σ9)) (by omega) (by decide) dX10_fork_103 rfl ?_
                  refine g_iinc (pc' := 107) (j := 0) (u := nI (i + 1)) (lv' := [(3, .int (nI (i + 1))), (2, .int (nI (cn (msF σ s)))), (0, .ref (g.2.1 15)), (1, .int s)]) hC dX10_fork_104 rfl rfl (nI_add i 1) (by decide) rfl ?_
                  refine g_goto (tgt := 69) hC dX10_fork_107 (by decide) ?_
                  refine gg_st (σ' := (ur (mcps (uv σ 15 0 (nI 0)) (cn (msF σ s)) (rd σ 15 4) (rd σ 16 (cn (msF σ s)))) 23 (fkr (σ.1 23) s (nI (rd σ 15 4)) (i + 1)))) (by first | exact fkr_t _ _ _ _ _ c87 | exact fkr_f _ _ _ _ _ c87) ?_
                  refine gg_lv (lv' := [(3, .int (nI (i + 1))), (2, .int (nI (cn (msF σ s)))), (0, .ref (g.2.1 15)), (1, .int s)]) ?_ [0, 1, 2, 3] rfl
                  exact ih69 (i + 1) (by omega) (by omega)
                · skip
                  refine g_aload_n (pc' := 91) (j := 2) hC dX10_fork_90 rfl rfl rfl ?_
                  refine gf_X10_4 (pc' := 94) hC wF_X10_79 dX10_fork_91 rfl ?_
                  refine gg_topi (b := nI (rd σ 15 4)) ((ur_cell _ _ _ (by decide)).trans ((mcps_o _ _ _ _ _ (by decide)).trans ((uv_idx _ _ _ _ (by decide)).trans hM.1.2.2.2.1.1))) ?_
                  refine g_goto (tgt := 103) hC dX10_fork_94 (by decide) ?_
                  refine a_st (pc' := 104) (k := 23) (i := i) hC (by decide) (fun σ9 => (ct_23 g σ9)) (by omega) (by decide) dX10_fork_103 rfl ?_
                  refine g_iinc (pc' := 107) (j := 0) (u := nI (i + 1)) (lv' := [(3, .int (nI (i + 1))), (2, .int (nI (cn (msF σ s)))), (0, .ref (g.2.1 15)), (1, .int s)]) hC dX10_fork_104 rfl rfl (nI_add i 1) (by decide) rfl ?_
                  refine g_goto (tgt := 69) hC dX10_fork_107 (by decide) ?_
                  refine gg_st (σ' := (ur (mcps (uv σ 15 0 (nI 0)) (cn (msF σ s)) (rd σ 15 4) (rd σ 16 (cn (msF σ s)))) 23 (fkr (σ.1 23) s (nI (rd σ 15 4)) (i + 1)))) (by first | exact fkr_t _ _ _ _ _ c87 | exact fkr_f _ _ _ _ _ c87) ?_
                  refine gg_lv (lv' := [(3, .int (nI (i + 1))), (2, .int (nI (cn (msF σ s)))), (0, .ref (g.2.1 15)), (1, .int s)]) ?_ [0, 1, 2, 3] rfl
                  exact ih69 (i + 1) (by omega) (by omega)
          refine gg_st (σ' := (ur (mcps (uv σ 15 0 (nI 0)) (cn (msF σ s)) (rd σ 15 4) (rd σ 16 (cn (msF σ s)))) 23 (fkr (σ.1 23) s (nI (rd σ 15 4)) 0))) (by rw [show σ.1 23 = (mcps (uv σ 15 0 (nI 0)) (cn (msF σ s)) (rd σ 15 4) (rd σ 16 (cn (msF σ s)))).1 23 from (funext fun j => ((mcps_o _ _ _ _ _ (by decide)).trans (uv_cell _ _ _ _ (by decide))).symm)]; exact (fkr_0 _ _ _).symm) ?_
          refine gg_lv (lv' := [(3, .int (nI 0)), (2, .int (nI (cn (msF σ s)))), (0, .ref (g.2.1 15)), (1, .int s)]) ?_ [0, 1, 2, 3] rfl
          exact L69 (rd σ 15 1 - 0 + 1) 0 (by omega) (by omega)
        · skip
          have hq : msF σ s = -1 ∨ rd σ 15 4 = 8 := Or.inr c43
          refine g_aload_n (pc' := 47) (j := 1) hC dX10_fork_46 rfl rfl rfl ?_
          refine g_iconst (pc' := 48) (v := nI 2) hC dX10_fork_47 rfl rfl ?_
          refine f_Vi (pc' := 51) (k := 15) (st := []) hC (m_refuse x.2.1 g z0 (uv σ 15 0 (nI 0)) ((nI 2))) k_X10_refuse wM_X10_171 (by decide) (by decide) (ct_15 g (uv σ 15 0 (nI 0))) rfl rfl rfl rfl (Nat.le_of_ble_eq_true rfl) dX10_fork_48 rfl (Nat.zero_le _) (Nat.zero_le _) ?_
          refine g_ret hC dX10_fork_51 rfl ?_
          exact ⟨by unfold mfo; rw [cI_t (hv), cI_t (hq)], by unfold mfo; rw [cI_t (hv), cI_t (hq)]⟩
    · skip
      refine g_aload_n (pc' := 21) (j := 0) hC dX10_fork_20 rfl rfl rfl ?_
      refine g_iconst (pc' := 22) (v := nI 1) hC dX10_fork_21 rfl rfl ?_
      refine f_Vi (pc' := 25) (k := 15) (st := []) hC (m_refuse x.2.1 g z0 (uv σ 15 0 (nI 0)) ((nI 1))) k_X10_refuse wM_X10_171 (by decide) (by decide) (ct_15 g (uv σ 15 0 (nI 0))) rfl rfl rfl rfl (Nat.le_of_ble_eq_true rfl) dX10_fork_22 rfl (Nat.zero_le _) (Nat.zero_le _) ?_
      refine g_ret hC dX10_fork_25 rfl ?_
      first | exact ⟨by unfold mfo; rw [cI_f (fun z => absurd c7 (Int32.not_lt.mpr z.1))], by unfold mfo; rw [cI_f (fun z => absurd c7 (Int32.not_lt.mpr z.1))]⟩ | exact ⟨by unfold mfo; rw [cI_f (fun z => c17 z.2)], by unfold mfo; rw [cI_f (fun z => c17 z.2)]⟩
set_option maxHeartbeats 4000000 in
set_option maxRecDepth 20000 in
theorem m_comesOver (l : Launch) (g : Lay) (z0 : Nat) (σ : St) (c : Nat) (fo : Int32) (sm : Nat) (md : Nat) (hc : c < 6) (hM : MI σ) (hsm : sm ≤ 200) (hmd : md < 8)  : CTv l yX10_comesOver cX10_comesOver 5 3 g z0 [.ref (g.2.1 15), .int (nI c), .int fo, .int (nI sm), .int (nI md)] σ (FV (mcv σ c fo sm md)) := by
  refine CTv.of (by decide) (Nat.le_of_ble_eq_true rfl) ?_
  intro x hxl hxa hC
  have hC : Cx x RX10 cX10_comesOver 5 none 3 g z0 := hC
  have hp2 := (hM.pos hc).2
  have hM1 : MI (uv σ 28 c (nI 0)) := MI_uv28 hM (by omega)
  show GG x g z0 5 0 0 (Qv x g z0 (FV (mcv σ c fo sm md))) σ 0 [(0, .ref (g.2.1 15)), (1, .int (nI c)), (2, .int fo), (3, .int (nI sm)), (4, .int (nI md))] []
  refine g_aload_n (pc' := 1) (j := 0) hC dX10_comesOver_0 rfl rfl rfl ?_
  refine g_iload_n (pc' := 2) (j := 1) hC dX10_comesOver_1 rfl rfl rfl ?_
  refine f_Vi (pc' := 5) (k := 15) (st := []) hC (m_goesWith x.2.1 g z0 σ c (by omega) (by first | exact hM | (simp (disch := decide) only [nb, rd_uv, rd_ur, uv_cell, ur_cell]; exact hM) | omega)) k_X10_goesWith wM_X10_216 (by decide) (by decide) (ct_15 g σ) rfl rfl rfl rfl (Nat.le_of_ble_eq_true rfl) dX10_comesOver_2 rfl (Nat.zero_le _) (Nat.zero_le _) ?_
  refine b_if_eq (pc' := 8) (tgt := 36) hC dX10_comesOver_5 (by decide) rfl (fun c5 => ?_) (fun c5 => ?_)
  · skip
    have hR : cI (mgw σ c) (cI (¬ fo = 0 ∧ sm < rd σ 24 c) (mtk (uv σ 28 c (nI 0)) c md) (uv σ 28 c (nI 0))) σ = σ := by rw [cI_f c5]
    refine g_aload_n (pc' := 37) (j := 0) hC dX10_comesOver_36 rfl rfl rfl ?_
    refine gf_X10_13 (pc' := 40) hC wF_X10_31 dX10_comesOver_37 rfl ?_
    refine g_iload_n (pc' := 41) (j := 1) hC dX10_comesOver_40 rfl rfl rfl ?_
    refine g_iload (pc' := 43) (j := 4) hC dX10_comesOver_41 rfl rfl ?_
    refine a_st (pc' := 44) (k := 23) (i := c) hC (by decide) (fun σ9 => (ct_23 g σ9)) (by omega) (by decide) dX10_comesOver_43 rfl ?_
    refine g_retv hC dX10_comesOver_44 ?_
    show _ = mcv σ c fo sm md; unfold mcv; rw [hR]
  · skip
    refine g_aload_n (pc' := 9) (j := 0) hC dX10_comesOver_8 rfl rfl rfl ?_
    refine gf_X10_18 (pc' := 12) hC wF_X10_46 dX10_comesOver_9 rfl ?_
    refine g_iload_n (pc' := 13) (j := 1) hC dX10_comesOver_12 rfl rfl rfl ?_
    refine g_iconst (pc' := 14) (v := nI 0) hC dX10_comesOver_13 rfl rfl ?_
    refine a_stz (pc' := 15) (k := 28) (i := c) hC (by decide) (fun σ9 => (ct_28 g σ9)) (by omega) (by decide) rfl dX10_comesOver_14 rfl ?_
    refine g_iload_n (pc' := 16) (j := 2) hC dX10_comesOver_15 rfl rfl rfl ?_
    refine g_if_eq (pc' := 19) (tgt := 36) hC dX10_comesOver_16 (by decide) rfl (fun c16 => ?_) (fun c16 => ?_)
    · skip
      have hR : cI (mgw σ c) (cI (¬ fo = 0 ∧ sm < rd σ 24 c) (mtk (uv σ 28 c (nI 0)) c md) (uv σ 28 c (nI 0))) σ = uv σ 28 c (nI 0) := by rw [cI_t c5, cI_f (fun z => z.1 c16)]
      refine g_aload_n (pc' := 37) (j := 0) hC dX10_comesOver_36 rfl rfl rfl ?_
      refine gf_X10_13 (pc' := 40) hC wF_X10_31 dX10_comesOver_37 rfl ?_
      refine g_iload_n (pc' := 41) (j := 1) hC dX10_comesOver_40 rfl rfl rfl ?_
      refine g_iload (pc' := 43) (j := 4) hC dX10_comesOver_41 rfl rfl ?_
      refine a_st (pc' := 44) (k := 23) (i := c) hC (by decide) (fun σ9 => (ct_23 g σ9)) (by omega) (by decide) dX10_comesOver_43 rfl ?_
      refine g_retv hC dX10_comesOver_44 ?_
      show _ = mcv σ c fo sm md; unfold mcv; rw [hR]
    · skip
      refine g_aload_n (pc' := 20) (j := 0) hC dX10_comesOver_19 rfl rfl rfl ?_
      refine gf_X10_14 (pc' := 23) hC wF_X10_34 dX10_comesOver_20 rfl ?_
      refine g_iload_n (pc' := 24) (j := 1) hC dX10_comesOver_23 rfl rfl rfl ?_
      refine a_ld (pc' := 25) (k := 24) (i := c) hC (by decide) (ct_24 g (uv σ 28 c (nI 0))) (by omega) (by decide) dX10_comesOver_24 rfl ?_
      refine gg_topi (b := nI (rd σ 24 c)) ((uv_cell _ _ _ _ (by decide)).trans ((hM.pos hc).1)) ?_
      refine g_iload_n (pc' := 26) (j := 3) hC dX10_comesOver_25 rfl rfl rfl ?_
      refine n_icmp_le (pc' := 29) (tgt := 36) hC dX10_comesOver_26 (by decide) rfl (by omega) (by omega) (fun c26 => ?_) (fun c26 => ?_)
      · skip
        have hR : cI (mgw σ c) (cI (¬ fo = 0 ∧ sm < rd σ 24 c) (mtk (uv σ 28 c (nI 0)) c md) (uv σ 28 c (nI 0))) σ = uv σ 28 c (nI 0) := by rw [cI_t c5, cI_f (fun z => absurd z.2 (Nat.not_lt.mpr c26))]
        refine g_aload_n (pc' := 37) (j := 0) hC dX10_comesOver_36 rfl rfl rfl ?_
        refine gf_X10_13 (pc' := 40) hC wF_X10_31 dX10_comesOver_37 rfl ?_
        refine g_iload_n (pc' := 41) (j := 1) hC dX10_comesOver_40 rfl rfl rfl ?_
        refine g_iload (pc' := 43) (j := 4) hC dX10_comesOver_41 rfl rfl ?_
        refine a_st (pc' := 44) (k := 23) (i := c) hC (by decide) (fun σ9 => (ct_23 g σ9)) (by omega) (by decide) dX10_comesOver_43 rfl ?_
        refine g_retv hC dX10_comesOver_44 ?_
        show _ = mcv σ c fo sm md; unfold mcv; rw [hR]
      · skip
        have hR : cI (mgw σ c) (cI (¬ fo = 0 ∧ sm < rd σ 24 c) (mtk (uv σ 28 c (nI 0)) c md) (uv σ 28 c (nI 0))) σ = mtk (uv σ 28 c (nI 0)) c md := by rw [cI_t c5, cI_t ⟨c16, c26⟩]
        refine g_aload_n (pc' := 30) (j := 0) hC dX10_comesOver_29 rfl rfl rfl ?_
        refine g_iload_n (pc' := 31) (j := 1) hC dX10_comesOver_30 rfl rfl rfl ?_
        refine g_iload (pc' := 33) (j := 4) hC dX10_comesOver_31 rfl rfl ?_
        refine f_Vv (pc' := 36) (k := 15) (st := []) hC (m_takes x.2.1 g z0 (uv σ 28 c (nI 0)) c md (by omega) (by omega) (hM1.len hmd) (fun i hi => hM1.aut hi)) k_X10_takes wM_X10_135 (by decide) (by decide) (ct_15 g (uv σ 28 c (nI 0))) rfl rfl rfl rfl (Nat.le_of_ble_eq_true rfl) dX10_comesOver_33 rfl (Nat.zero_le _) (Nat.zero_le _) ?_
        refine g_aload_n (pc' := 37) (j := 0) hC dX10_comesOver_36 rfl rfl rfl ?_
        refine gf_X10_13 (pc' := 40) hC wF_X10_31 dX10_comesOver_37 rfl ?_
        refine g_iload_n (pc' := 41) (j := 1) hC dX10_comesOver_40 rfl rfl rfl ?_
        refine g_iload (pc' := 43) (j := 4) hC dX10_comesOver_41 rfl rfl ?_
        refine a_st (pc' := 44) (k := 23) (i := c) hC (by decide) (fun σ9 => (ct_23 g σ9)) (by omega) (by decide) dX10_comesOver_43 rfl ?_
        refine g_retv hC dX10_comesOver_44 ?_
        show _ = mcv σ c fo sm md; unfold mcv; rw [hR]
