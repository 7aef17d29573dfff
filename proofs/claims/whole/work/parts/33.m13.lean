set_option maxHeartbeats 4000000 in
set_option maxRecDepth 20000 in
theorem m_puts (l : Launch) (g : Lay) (z0 : Nat) (σ : St) (v : Int32) (hB : nb σ 15 26 896)  : CTv l yX10_puts cX10_puts 3 0 g z0 [.ref (g.2.1 15), .int v] σ (FV (mput σ v)) := by
  refine CTv.of (by decide) (Nat.le_of_ble_eq_true rfl) ?_
  intro x hxl hxa hC
  have hC : Cx x RX10 cX10_puts 3 none 0 g z0 := hC
  have hB2 := hB.2
  show GG x g z0 3 0 0 (Qv x g z0 (FV (mput σ v))) σ 0 [(0, .ref (g.2.1 15)), (1, .int v)] []
  refine g_bipush (pc' := 2) (v := nI 24) hC dX10_puts_0 rfl rfl ?_
  refine g_istore_n (pc' := 3) (lv' := [(2, .int (nI 24)), (0, .ref (g.2.1 15)), (1, .int v)]) hC dX10_puts_2 rfl rfl (by decide) rfl ?_
  refine g_iload_n (pc' := 4) (j := 0) hC dX10_puts_3 rfl rfl rfl ?_
  refine n_if_lt (pc' := 7) (tgt := 41) hC dX10_puts_4 (by decide) rfl (by omega) (fun c4 => ?_) (fun c4 => ?_)
  · skip
    first | exact absurd c4 (by decide) | exact c4.elim
  · skip
    refine g_aload_n (pc' := 8) (j := 1) hC dX10_puts_7 rfl rfl rfl ?_
    refine gf_X10_25 (pc' := 11) hC wF_X10_56 dX10_puts_8 rfl ?_
    refine g_aload_n (pc' := 12) (j := 1) hC dX10_puts_11 rfl rfl rfl ?_
    refine gf_X10_26 (pc' := 15) hC wF_X10_219 dX10_puts_12 rfl ?_
    refine gg_topi (b := nI (rd σ 15 26)) (hB.1) ?_
    refine g_iload_n (pc' := 16) (j := 2) hC dX10_puts_15 rfl rfl rfl ?_
    refine g_iload_n (pc' := 17) (j := 0) hC dX10_puts_16 rfl rfl rfl ?_
    refine g_ishr (pc' := 18) hC dX10_puts_17 rfl ?_
    refine g_sipush (pc' := 21) (v := nI 255) hC dX10_puts_18 rfl rfl ?_
    refine g_iand (pc' := 22) hC dX10_puts_21 rfl ?_
    refine a_st (pc' := 23) (k := 31) (i := rd σ 15 26) hC (by decide) (fun σ9 => (ct_31 g σ9)) (by omega) (by decide) dX10_puts_22 rfl ?_
    refine g_aload_n (pc' := 24) (j := 1) hC dX10_puts_23 rfl rfl rfl ?_
    refine g_aload_n (pc' := 25) (j := 1) hC dX10_puts_24 rfl rfl rfl ?_
    refine gf_X10_26 (pc' := 28) hC wF_X10_219 dX10_puts_25 rfl ?_
    refine gg_topi (b := nI (rd σ 15 26)) ((uv_cell _ _ _ _ (by decide)).trans (hB.1)) ?_
    refine g_iconst (pc' := 29) (v := nI 1) hC dX10_puts_28 rfl rfl ?_
    refine n_iadd (pc' := 30) hC dX10_puts_29 rfl ?_
    refine pf_X10_26 (pc' := 33) hC wF_X10_219 dX10_puts_30 rfl ?_
    refine g_iload_n (pc' := 34) (j := 0) hC dX10_puts_33 rfl rfl rfl ?_
    refine g_bipush (pc' := 36) (v := nI 8) hC dX10_puts_34 rfl rfl ?_
    refine g_isub (pc' := 37) hC dX10_puts_36 rfl ?_
    refine gg_topi (b := nI 16) rfl ?_
    refine g_istore_n (pc' := 38) (lv' := [(2, .int (nI 16)), (0, .ref (g.2.1 15)), (1, .int v)]) hC dX10_puts_37 rfl rfl (by decide) rfl ?_
    refine g_goto (tgt := 3) hC dX10_puts_38 (by decide) ?_
    refine g_iload_n (pc' := 4) (j := 0) hC dX10_puts_3 rfl rfl rfl ?_
    refine n_if_lt (pc' := 7) (tgt := 41) hC dX10_puts_4 (by decide) rfl (by omega) (fun c4 => ?_) (fun c4 => ?_)
    · skip
      first | exact absurd c4 (by decide) | exact c4.elim
    · skip
      refine g_aload_n (pc' := 8) (j := 1) hC dX10_puts_7 rfl rfl rfl ?_
      refine gf_X10_25 (pc' := 11) hC wF_X10_56 dX10_puts_8 rfl ?_
      refine g_aload_n (pc' := 12) (j := 1) hC dX10_puts_11 rfl rfl rfl ?_
      refine gf_X10_26 (pc' := 15) hC wF_X10_219 dX10_puts_12 rfl ?_
      refine gg_topi (b := nI ((rd σ 15 26) + 1)) (uv_same _ _ _ _) ?_
      refine g_iload_n (pc' := 16) (j := 2) hC dX10_puts_15 rfl rfl rfl ?_
      refine g_iload_n (pc' := 17) (j := 0) hC dX10_puts_16 rfl rfl rfl ?_
      refine g_ishr (pc' := 18) hC dX10_puts_17 rfl ?_
      refine g_sipush (pc' := 21) (v := nI 255) hC dX10_puts_18 rfl rfl ?_
      refine g_iand (pc' := 22) hC dX10_puts_21 rfl ?_
      refine a_st (pc' := 23) (k := 31) (i := (rd σ 15 26) + 1) hC (by decide) (fun σ9 => (ct_31 g σ9)) (by omega) (by decide) dX10_puts_22 rfl ?_
      refine g_aload_n (pc' := 24) (j := 1) hC dX10_puts_23 rfl rfl rfl ?_
      refine g_aload_n (pc' := 25) (j := 1) hC dX10_puts_24 rfl rfl rfl ?_
      refine gf_X10_26 (pc' := 28) hC wF_X10_219 dX10_puts_25 rfl ?_
      refine gg_topi (b := nI ((rd σ 15 26) + 1)) ((uv_cell _ _ _ _ (by decide)).trans (uv_same _ _ _ _)) ?_
      refine g_iconst (pc' := 29) (v := nI 1) hC dX10_puts_28 rfl rfl ?_
      refine n_iadd (pc' := 30) hC dX10_puts_29 rfl ?_
      refine pf_X10_26 (pc' := 33) hC wF_X10_219 dX10_puts_30 rfl ?_
      refine g_iload_n (pc' := 34) (j := 0) hC dX10_puts_33 rfl rfl rfl ?_
      refine g_bipush (pc' := 36) (v := nI 8) hC dX10_puts_34 rfl rfl ?_
      refine g_isub (pc' := 37) hC dX10_puts_36 rfl ?_
      refine gg_topi (b := nI 8) rfl ?_
      refine g_istore_n (pc' := 38) (lv' := [(2, .int (nI 8)), (0, .ref (g.2.1 15)), (1, .int v)]) hC dX10_puts_37 rfl rfl (by decide) rfl ?_
      refine g_goto (tgt := 3) hC dX10_puts_38 (by decide) ?_
      refine g_iload_n (pc' := 4) (j := 0) hC dX10_puts_3 rfl rfl rfl ?_
      refine n_if_lt (pc' := 7) (tgt := 41) hC dX10_puts_4 (by decide) rfl (by omega) (fun c4 => ?_) (fun c4 => ?_)
      · skip
        first | exact absurd c4 (by decide) | exact c4.elim
      · skip
        refine g_aload_n (pc' := 8) (j := 1) hC dX10_puts_7 rfl rfl rfl ?_
        refine gf_X10_25 (pc' := 11) hC wF_X10_56 dX10_puts_8 rfl ?_
        refine g_aload_n (pc' := 12) (j := 1) hC dX10_puts_11 rfl rfl rfl ?_
        refine gf_X10_26 (pc' := 15) hC wF_X10_219 dX10_puts_12 rfl ?_
        refine gg_topi (b := nI (((rd σ 15 26) + 1) + 1)) (uv_same _ _ _ _) ?_
        refine g_iload_n (pc' := 16) (j := 2) hC dX10_puts_15 rfl rfl rfl ?_
        refine g_iload_n (pc' := 17) (j := 0) hC dX10_puts_16 rfl rfl rfl ?_
        refine g_ishr (pc' := 18) hC dX10_puts_17 rfl ?_
        refine g_sipush (pc' := 21) (v := nI 255) hC dX10_puts_18 rfl rfl ?_
        refine g_iand (pc' := 22) hC dX10_puts_21 rfl ?_
        refine a_st (pc' := 23) (k := 31) (i := ((rd σ 15 26) + 1) + 1) hC (by decide) (fun σ9 => (ct_31 g σ9)) (by omega) (by decide) dX10_puts_22 rfl ?_
        refine g_aload_n (pc' := 24) (j := 1) hC dX10_puts_23 rfl rfl rfl ?_
        refine g_aload_n (pc' := 25) (j := 1) hC dX10_puts_24 rfl rfl rfl ?_
        refine gf_X10_26 (pc' := 28) hC wF_X10_219 dX10_puts_25 rfl ?_
        refine gg_topi (b := nI (((rd σ 15 26) + 1) + 1)) ((uv_cell _ _ _ _ (by decide)).trans (uv_same _ _ _ _)) ?_
        refine g_iconst (pc' := 29) (v := nI 1) hC dX10_puts_28 rfl rfl ?_
        refine n_iadd (pc' := 30) hC dX10_puts_29 rfl ?_
        refine pf_X10_26 (pc' := 33) hC wF_X10_219 dX10_puts_30 rfl ?_
        refine g_iload_n (pc' := 34) (j := 0) hC dX10_puts_33 rfl rfl rfl ?_
        refine g_bipush (pc' := 36) (v := nI 8) hC dX10_puts_34 rfl rfl ?_
        refine g_isub (pc' := 37) hC dX10_puts_36 rfl ?_
        refine gg_topi (b := nI 0) rfl ?_
        refine g_istore_n (pc' := 38) (lv' := [(2, .int (nI 0)), (0, .ref (g.2.1 15)), (1, .int v)]) hC dX10_puts_37 rfl rfl (by decide) rfl ?_
        refine g_goto (tgt := 3) hC dX10_puts_38 (by decide) ?_
        refine g_iload_n (pc' := 4) (j := 0) hC dX10_puts_3 rfl rfl rfl ?_
        refine n_if_lt (pc' := 7) (tgt := 41) hC dX10_puts_4 (by decide) rfl (by omega) (fun c4 => ?_) (fun c4 => ?_)
        · skip
          first | exact absurd c4 (by decide) | exact c4.elim
        · skip
          refine g_aload_n (pc' := 8) (j := 1) hC dX10_puts_7 rfl rfl rfl ?_
          refine gf_X10_25 (pc' := 11) hC wF_X10_56 dX10_puts_8 rfl ?_
          refine g_aload_n (pc' := 12) (j := 1) hC dX10_puts_11 rfl rfl rfl ?_
          refine gf_X10_26 (pc' := 15) hC wF_X10_219 dX10_puts_12 rfl ?_
          refine gg_topi (b := nI ((((rd σ 15 26) + 1) + 1) + 1)) (uv_same _ _ _ _) ?_
          refine g_iload_n (pc' := 16) (j := 2) hC dX10_puts_15 rfl rfl rfl ?_
          refine g_iload_n (pc' := 17) (j := 0) hC dX10_puts_16 rfl rfl rfl ?_
          refine g_ishr (pc' := 18) hC dX10_puts_17 rfl ?_
          refine g_sipush (pc' := 21) (v := nI 255) hC dX10_puts_18 rfl rfl ?_
          refine g_iand (pc' := 22) hC dX10_puts_21 rfl ?_
          refine a_st (pc' := 23) (k := 31) (i := (((rd σ 15 26) + 1) + 1) + 1) hC (by decide) (fun σ9 => (ct_31 g σ9)) (by omega) (by decide) dX10_puts_22 rfl ?_
          refine g_aload_n (pc' := 24) (j := 1) hC dX10_puts_23 rfl rfl rfl ?_
          refine g_aload_n (pc' := 25) (j := 1) hC dX10_puts_24 rfl rfl rfl ?_
          refine gf_X10_26 (pc' := 28) hC wF_X10_219 dX10_puts_25 rfl ?_
          refine gg_topi (b := nI ((((rd σ 15 26) + 1) + 1) + 1)) ((uv_cell _ _ _ _ (by decide)).trans (uv_same _ _ _ _)) ?_
          refine g_iconst (pc' := 29) (v := nI 1) hC dX10_puts_28 rfl rfl ?_
          refine n_iadd (pc' := 30) hC dX10_puts_29 rfl ?_
          refine pf_X10_26 (pc' := 33) hC wF_X10_219 dX10_puts_30 rfl ?_
          refine g_iload_n (pc' := 34) (j := 0) hC dX10_puts_33 rfl rfl rfl ?_
          refine g_bipush (pc' := 36) (v := nI 8) hC dX10_puts_34 rfl rfl ?_
          refine g_isub (pc' := 37) hC dX10_puts_36 rfl ?_
          refine gg_topi (b := (-8)) rfl ?_
          refine g_istore_n (pc' := 38) (lv' := [(2, .int ((-8))), (0, .ref (g.2.1 15)), (1, .int v)]) hC dX10_puts_37 rfl rfl (by decide) rfl ?_
          refine g_goto (tgt := 3) hC dX10_puts_38 (by decide) ?_
          refine g_iload_n (pc' := 4) (j := 0) hC dX10_puts_3 rfl rfl rfl ?_
          refine g_if_lt (pc' := 7) (tgt := 41) hC dX10_puts_4 (by decide) rfl (fun c4 => ?_) (fun c4 => ?_)
          · skip
            refine g_retv hC dX10_puts_41 ?_
            exact rfl
          · skip
            first | exact absurd c4 (by decide) | exact c4.elim
set_option maxHeartbeats 4000000 in
set_option maxRecDepth 20000 in
theorem m_feed (l : Launch) (g : Lay) (z0 : Nat) (σ : St) (a : Int32) (b : Int32) (c : Int32) (d : Int32) (e : Int32) (hM : MI σ)  : CTi l yX10_feed cX10_feed 6 (some .int) 1 g z0 [.ref (g.2.1 15), .int a, .int b, .int c, .int d, .int e] σ (FI ((mfd σ a b c d e).1) ((mfd σ a b c d e).2)) := by
  refine CTi.of (by decide) (Nat.le_of_ble_eq_true rfl) ?_
  intro x hxl hxa hC
  have hC : Cx x RX10 cX10_feed 6 (some .int) 1 g z0 := hC
  have hb2 := hM.2.1.2.2.2
  show GG x g z0 6 0 0 (Qi x g z0 (FI ((mfd σ a b c d e).1) ((mfd σ a b c d e).2))) σ 0 [(0, .ref (g.2.1 15)), (1, .int a), (2, .int b), (3, .int c), (4, .int d), (5, .int e)] []
  refine g_aload_n (pc' := 1) (j := 0) hC dX10_feed_0 rfl rfl rfl ?_
  refine g_iconst (pc' := 2) (v := nI 0) hC dX10_feed_1 rfl rfl ?_
  refine pf_X10_0 (pc' := 5) hC wF_X10_66 dX10_feed_2 rfl ?_
  refine g_aload_n (pc' := 6) (j := 0) hC dX10_feed_5 rfl rfl rfl ?_
  refine gf_X10_26 (pc' := 9) hC wF_X10_219 dX10_feed_6 rfl ?_
  refine gg_topi (b := nI (rd σ 15 26)) ((uv_idx _ _ _ _ (by decide)).trans (hM.2.1.2.2.1)) ?_
  refine g_bipush (pc' := 11) (v := nI 20) hC dX10_feed_9 rfl rfl ?_
  refine n_iadd (pc' := 12) hC dX10_feed_11 rfl ?_
  refine g_sipush (pc' := 15) (v := nI 900) hC dX10_feed_12 rfl rfl ?_
  refine n_icmp_le (pc' := 18) (tgt := 24) hC dX10_feed_15 (by decide) rfl (by omega) (by omega) (fun c15 => ?_) (fun c15 => ?_)
  · skip
    have e0 : rd (m0 σ) 15 26 = rd σ 15 26 := rd_idx _ _ _ _ (by decide)
    have h0 : nb (m0 σ) 15 26 896 := nb_cg (uv_idx _ _ _ _ (by decide)) hM.2.1.2.2 (by omega)
    have h1 := mput_26 (m0 σ) a (m := 896) (by omega) (by decide)
    have h2 := mput_26 (mput (m0 σ) a) b (m := 896) (by omega) (by decide)
    have h3 := mput_26 (mput (mput (m0 σ) a) b) c (m := 896) (by omega) (by decide)
    have h4 := mput_26 (mput (mput (mput (m0 σ) a) b) c) d (m := 896) (by omega) (by decide)
    refine g_aload_n (pc' := 25) (j := 0) hC dX10_feed_24 rfl rfl rfl ?_
    refine g_iload_n (pc' := 26) (j := 1) hC dX10_feed_25 rfl rfl rfl ?_
    refine f_Vv (pc' := 29) (k := 15) (st := []) hC (m_puts x.2.1 g z0 (uv σ 15 0 (nI 0)) a (h0)) k_X10_puts wM_X10_222 (by decide) (by decide) (ct_15 g (uv σ 15 0 (nI 0))) rfl rfl rfl rfl (Nat.le_of_ble_eq_true rfl) dX10_feed_26 rfl (Nat.zero_le _) (Nat.zero_le _) ?_
    refine g_aload_n (pc' := 30) (j := 0) hC dX10_feed_29 rfl rfl rfl ?_
    refine g_iload_n (pc' := 31) (j := 2) hC dX10_feed_30 rfl rfl rfl ?_
    refine f_Vv (pc' := 34) (k := 15) (st := []) hC (m_puts x.2.1 g z0 (mput (uv σ 15 0 (nI 0)) a) b (h1.1)) k_X10_puts wM_X10_222 (by decide) (by decide) (ct_15 g (mput (uv σ 15 0 (nI 0)) a)) rfl rfl rfl rfl (Nat.le_of_ble_eq_true rfl) dX10_feed_31 rfl (Nat.zero_le _) (Nat.zero_le _) ?_
    refine g_aload_n (pc' := 35) (j := 0) hC dX10_feed_34 rfl rfl rfl ?_
    refine g_iload_n (pc' := 36) (j := 3) hC dX10_feed_35 rfl rfl rfl ?_
    refine f_Vv (pc' := 39) (k := 15) (st := []) hC (m_puts x.2.1 g z0 (mput (mput (uv σ 15 0 (nI 0)) a) b) c (h2.1)) k_X10_puts wM_X10_222 (by decide) (by decide) (ct_15 g (mput (mput (uv σ 15 0 (nI 0)) a) b)) rfl rfl rfl rfl (Nat.le_of_ble_eq_true rfl) dX10_feed_36 rfl (Nat.zero_le _) (Nat.zero_le _) ?_
    refine g_aload_n (pc' := 40) (j := 0) hC dX10_feed_39 rfl rfl rfl ?_
    refine g_iload (pc' := 42) (j := 4) hC dX10_feed_40 rfl rfl ?_
    refine f_Vv (pc' := 45) (k := 15) (st := []) hC (m_puts x.2.1 g z0 (mput (mput (mput (uv σ 15 0 (nI 0)) a) b) c) d (h3.1)) k_X10_puts wM_X10_222 (by decide) (by decide) (ct_15 g (mput (mput (mput (uv σ 15 0 (nI 0)) a) b) c)) rfl rfl rfl rfl (Nat.le_of_ble_eq_true rfl) dX10_feed_42 rfl (Nat.zero_le _) (Nat.zero_le _) ?_
    refine g_aload_n (pc' := 46) (j := 0) hC dX10_feed_45 rfl rfl rfl ?_
    refine g_iload (pc' := 48) (j := 5) hC dX10_feed_46 rfl rfl ?_
    refine f_Vv (pc' := 51) (k := 15) (st := []) hC (m_puts x.2.1 g z0 (mput (mput (mput (mput (uv σ 15 0 (nI 0)) a) b) c) d) e (h4.1)) k_X10_puts wM_X10_222 (by decide) (by decide) (ct_15 g (mput (mput (mput (mput (uv σ 15 0 (nI 0)) a) b) c) d)) rfl rfl rfl rfl (Nat.le_of_ble_eq_true rfl) dX10_feed_48 rfl (Nat.zero_le _) (Nat.zero_le _) ?_
    refine g_aload_n (pc' := 52) (j := 0) hC dX10_feed_51 rfl rfl rfl ?_
    refine gf_X10_26 (pc' := 55) hC wF_X10_219 dX10_feed_52 rfl ?_
    refine g_ret hC dX10_feed_55 rfl ?_
    exact ⟨by unfold mfd; rw [cI_t (c15)], by unfold mfd; rw [cI_t (c15)]⟩
  · skip
    refine g_aload_n (pc' := 19) (j := 0) hC dX10_feed_18 rfl rfl rfl ?_
    refine g_iconst (pc' := 20) (v := nI 1) hC dX10_feed_19 rfl rfl ?_
    refine f_Vi (pc' := 23) (k := 15) (st := []) hC (m_refuse x.2.1 g z0 (uv σ 15 0 (nI 0)) ((nI 1))) k_X10_refuse wM_X10_171 (by decide) (by decide) (ct_15 g (uv σ 15 0 (nI 0))) rfl rfl rfl rfl (Nat.le_of_ble_eq_true rfl) dX10_feed_20 rfl (Nat.zero_le _) (Nat.zero_le _) ?_
    refine g_ret hC dX10_feed_23 rfl ?_
    exact ⟨by unfold mfd; rw [cI_f (Nat.not_le.mpr c15)], by unfold mfd; rw [cI_f (Nat.not_le.mpr c15)]⟩
set_option maxHeartbeats 4000000 in
set_option maxRecDepth 20000 in
theorem m_opensText (l : Launch) (g : Lay) (z0 : Nat) (σ : St) (n : Int32)   : CTv l yX10_opensText cX10_opensText 2 0 g z0 [.ref (g.2.1 15), .int n] σ (FV (mopn σ n)) := by
  refine CTv.of (by decide) (Nat.le_of_ble_eq_true rfl) ?_
  intro x hxl hxa hC
  have hC : Cx x RX10 cX10_opensText 2 none 0 g z0 := hC
  show GG x g z0 2 0 0 (Qv x g z0 (FV (mopn σ n))) σ 0 [(0, .ref (g.2.1 15)), (1, .int n)] []
  refine g_aload_n (pc' := 1) (j := 0) hC dX10_opensText_0 rfl rfl rfl ?_
  refine g_iload_n (pc' := 2) (j := 1) hC dX10_opensText_1 rfl rfl rfl ?_
  refine pf_X10_28 (pc' := 5) hC wF_X10_231 dX10_opensText_2 rfl ?_
  refine g_aload_n (pc' := 6) (j := 0) hC dX10_opensText_5 rfl rfl rfl ?_
  refine g_iconst (pc' := 7) (v := nI 0) hC dX10_opensText_6 rfl rfl ?_
  refine pf_X10_27 (pc' := 10) hC wF_X10_234 dX10_opensText_7 rfl ?_
  refine g_aload_n (pc' := 11) (j := 0) hC dX10_opensText_10 rfl rfl rfl ?_
  refine g_iconst (pc' := 12) (v := (-1)) hC dX10_opensText_11 rfl rfl ?_
  refine pf_X10_29 (pc' := 15) hC wF_X10_250 dX10_opensText_12 rfl ?_
  refine g_aload_n (pc' := 16) (j := 0) hC dX10_opensText_15 rfl rfl rfl ?_
  refine g_iconst (pc' := 17) (v := nI 0) hC dX10_opensText_16 rfl rfl ?_
  refine pf_X10_32 (pc' := 20) hC wF_X10_225 dX10_opensText_17 rfl ?_
  refine g_aload_n (pc' := 21) (j := 0) hC dX10_opensText_20 rfl rfl rfl ?_
  refine g_iconst (pc' := 22) (v := (-1)) hC dX10_opensText_21 rfl rfl ?_
  refine pf_X10_33 (pc' := 25) hC wF_X10_59 dX10_opensText_22 rfl ?_
  refine g_aload_n (pc' := 26) (j := 0) hC dX10_opensText_25 rfl rfl rfl ?_
  refine g_iconst (pc' := 27) (v := nI 0) hC dX10_opensText_26 rfl rfl ?_
  refine pf_X10_26 (pc' := 30) hC wF_X10_219 dX10_opensText_27 rfl ?_
  refine g_retv hC dX10_opensText_30 ?_
  exact rfl
set_option maxHeartbeats 4000000 in
set_option maxRecDepth 20000 in
theorem m_stepOf (l : Launch) (g : Lay) (z0 : Nat) (σ : St) (w : Int64)   : CTi l yX10_stepOf cX10_stepOf 3 (some .int) 0 g z0 [.ref (g.2.1 15), .long w] σ (FI (stp w) σ) := by
  refine CTi.of (by decide) (Nat.le_of_ble_eq_true rfl) ?_
  intro x hxl hxa hC
  have hC : Cx x RX10 cX10_stepOf 3 (some .int) 0 g z0 := hC
  show GG x g z0 3 0 0 (Qi x g z0 (FI (stp w) σ)) σ 0 [(0, .ref (g.2.1 15)), (1, .long w)] []
  refine g_lload_n (pc' := 1) (j := 1) hC dX10_stepOf_0 rfl rfl rfl ?_
  refine g_ldc2 (pc' := 4) (v := 212555) hC wC_X10_324 dX10_stepOf_1 rfl ?_
  refine g_lcmp (pc' := 5) hC dX10_stepOf_4 rfl ?_
  refine c_if_ne (pc' := 8) (tgt := 10) hC dX10_stepOf_5 (by decide) rfl (fun c5 => ?_) (fun c5 => ?_)
  · skip
    refine g_lload_n (pc' := 11) (j := 1) hC dX10_stepOf_10 rfl rfl rfl ?_
    refine g_ldc2 (pc' := 14) (v := 442053) hC wC_X10_326 dX10_stepOf_11 rfl ?_
    refine g_lcmp (pc' := 15) hC dX10_stepOf_14 rfl ?_
    refine c_if_ne (pc' := 18) (tgt := 20) hC dX10_stepOf_15 (by decide) rfl (fun c15 => ?_) (fun c15 => ?_)
    · skip
      refine g_lload_n (pc' := 21) (j := 1) hC dX10_stepOf_20 rfl rfl rfl ?_
      refine g_ldc2 (pc' := 24) (v := 609985988) hC wC_X10_328 dX10_stepOf_21 rfl ?_
      refine g_lcmp (pc' := 25) hC dX10_stepOf_24 rfl ?_
      refine c_if_ne (pc' := 28) (tgt := 30) hC dX10_stepOf_25 (by decide) rfl (fun c25 => ?_) (fun c25 => ?_)
      · skip
        refine g_lload_n (pc' := 31) (j := 1) hC dX10_stepOf_30 rfl rfl rfl ?_
        refine g_ldc2 (pc' := 34) (v := 3744028180) hC wC_X10_330 dX10_stepOf_31 rfl ?_
        refine g_lcmp (pc' := 35) hC dX10_stepOf_34 rfl ?_
        refine c_if_ne (pc' := 38) (tgt := 40) hC dX10_stepOf_35 (by decide) rfl (fun c35 => ?_) (fun c35 => ?_)
        · skip
          refine g_lload_n (pc' := 41) (j := 1) hC dX10_stepOf_40 rfl rfl rfl ?_
          refine g_ldc2 (pc' := 44) (v := 197677594853) hC wC_X10_332 dX10_stepOf_41 rfl ?_
          refine g_lcmp (pc' := 45) hC dX10_stepOf_44 rfl ?_
          refine c_if_ne (pc' := 48) (tgt := 51) hC dX10_stepOf_45 (by decide) rfl (fun c45 => ?_) (fun c45 => ?_)
          · skip
            refine g_lload_n (pc' := 52) (j := 1) hC dX10_stepOf_51 rfl rfl rfl ?_
            refine g_ldc2 (pc' := 55) (v := 540276) hC wC_X10_334 dX10_stepOf_52 rfl ?_
            refine g_lcmp (pc' := 56) hC dX10_stepOf_55 rfl ?_
            refine c_if_ne (pc' := 59) (tgt := 62) hC dX10_stepOf_56 (by decide) rfl (fun c56 => ?_) (fun c56 => ?_)
            · skip
              refine g_lload_n (pc' := 63) (j := 1) hC dX10_stepOf_62 rfl rfl rfl ?_
              refine g_ldc2 (pc' := 66) (v := 267308) hC wC_X10_336 dX10_stepOf_63 rfl ?_
              refine g_lcmp (pc' := 67) hC dX10_stepOf_66 rfl ?_
              refine c_if_ne (pc' := 70) (tgt := 75) hC dX10_stepOf_67 (by decide) rfl (fun c67 => ?_) (fun c67 => ?_)
              · skip
                have hR : stp w = -1 := by unfold stp; rw [if_neg c5, if_neg c15, if_neg c25, if_neg c35, if_neg c45, if_neg c56, if_neg c67]
                refine g_iconst (pc' := 76) (v := (-1)) hC dX10_stepOf_75 rfl rfl ?_
                refine g_ret hC dX10_stepOf_76 rfl ?_
                exact ⟨hR.symm, rfl⟩
              · skip
                have hR : stp w = nI 8 := by unfold stp; rw [if_neg c5, if_neg c15, if_neg c25, if_neg c35, if_neg c45, if_neg c56, if_pos c67]
                refine g_bipush (pc' := 72) (v := nI 8) hC dX10_stepOf_70 rfl rfl ?_
                refine g_goto (tgt := 76) hC dX10_stepOf_72 (by decide) ?_
                refine g_ret hC dX10_stepOf_76 rfl ?_
                exact ⟨hR.symm, rfl⟩
            · skip
              refine g_bipush (pc' := 61) (v := nI 7) hC dX10_stepOf_59 rfl rfl ?_
              refine g_ret hC dX10_stepOf_61 rfl ?_
              exact ⟨by unfold stp; rw [if_neg c5, if_neg c15, if_neg c25, if_neg c35, if_neg c45, if_pos c56], rfl⟩
          · skip
            refine g_bipush (pc' := 50) (v := nI 6) hC dX10_stepOf_48 rfl rfl ?_
            refine g_ret hC dX10_stepOf_50 rfl ?_
            exact ⟨by unfold stp; rw [if_neg c5, if_neg c15, if_neg c25, if_neg c35, if_pos c45], rfl⟩
        · skip
          refine g_iconst (pc' := 39) (v := nI 5) hC dX10_stepOf_38 rfl rfl ?_
          refine g_ret hC dX10_stepOf_39 rfl ?_
          exact ⟨by unfold stp; rw [if_neg c5, if_neg c15, if_neg c25, if_pos c35], rfl⟩
      · skip
        refine g_iconst (pc' := 29) (v := nI 4) hC dX10_stepOf_28 rfl rfl ?_
        refine g_ret hC dX10_stepOf_29 rfl ?_
        exact ⟨by unfold stp; rw [if_neg c5, if_neg c15, if_pos c25], rfl⟩
    · skip
      refine g_iconst (pc' := 19) (v := nI 3) hC dX10_stepOf_18 rfl rfl ?_
      refine g_ret hC dX10_stepOf_19 rfl ?_
      exact ⟨by unfold stp; rw [if_neg c5, if_pos c15], rfl⟩
  · skip
    refine g_iconst (pc' := 9) (v := nI 2) hC dX10_stepOf_8 rfl rfl ?_
    refine g_ret hC dX10_stepOf_9 rfl ?_
    exact ⟨by unfold stp; rw [if_pos c5], rfl⟩
set_option maxHeartbeats 4000000 in
set_option maxRecDepth 20000 in
theorem m_readInto (l : Launch) (g : Lay) (z0 : Nat) (σ : St) (pl : Nat) (lo : Int32) (hi : Int32) (hP : PI σ) (hpl : pl < 4) (hs : nb σ 15 39 59)  : CTi l yX10_readInto cX10_readInto 4 (some .boolean) 3 g z0 [.ref (g.2.1 15), .int (nI pl), .int lo, .int hi] σ (FI (bI ((mInto σ pl lo hi).1)) ((mInto σ pl lo hi).2)) := by
  refine CTi.of (by decide) (Nat.le_of_ble_eq_true rfl) ?_
  intro x hxl hxa hC
  have hC : Cx x RX10 cX10_readInto 4 (some .boolean) 3 g z0 := hC
  have hs2 := hs.2
  show GG x g z0 4 0 0 (Qi x g z0 (FI (bI ((mInto σ pl lo hi).1)) ((mInto σ pl lo hi).2))) σ 0 [(0, .ref (g.2.1 15)), (1, .int (nI pl)), (2, .int lo), (3, .int hi)] []
  refine g_aload_n (pc' := 1) (j := 0) hC dX10_readInto_0 rfl rfl rfl ?_
  refine g_iload_n (pc' := 2) (j := 2) hC dX10_readInto_1 rfl rfl rfl ?_
  refine g_iload_n (pc' := 3) (j := 3) hC dX10_readInto_2 rfl rfl rfl ?_
  refine f_Vi (pc' := 6) (k := 15) (st := []) hC (m_readNumber x.2.1 g z0 σ lo hi (by first | exact hP | (simp (disch := decide) only [nb, rd_uv, rd_ur, uv_cell, ur_cell]; exact hP) | omega)) k_X10_readNumber wM_X10_280 (by decide) (by decide) (ct_15 g σ) rfl rfl rfl rfl (Nat.le_of_ble_eq_true rfl) dX10_readInto_3 rfl (Nat.zero_le _) (Nat.zero_le _) ?_
  refine b_if_ne (pc' := 9) (tgt := 11) hC dX10_readInto_6 (by decide) rfl (fun c6 => ?_) (fun c6 => ?_)
  · skip
    refine g_aload_n (pc' := 12) (j := 0) hC dX10_readInto_11 rfl rfl rfl ?_
    refine gf_X10_38 (pc' := 15) hC wF_X10_63 dX10_readInto_12 rfl ?_
    refine g_iconst (pc' := 16) (v := nI 4) hC dX10_readInto_15 rfl rfl ?_
    refine g_aload_n (pc' := 17) (j := 0) hC dX10_readInto_16 rfl rfl rfl ?_
    refine gf_X10_39 (pc' := 20) hC wF_X10_308 dX10_readInto_17 rfl ?_
    refine gg_topi (b := nI (rd σ 15 39)) (((LX_sN σ lo hi).1 _ _ (by omega)).trans hs.1) ?_
    refine n_imul (pc' := 21) hC dX10_readInto_20 rfl ?_
    refine g_iload_n (pc' := 22) (j := 1) hC dX10_readInto_21 rfl rfl rfl ?_
    refine n_iadd (pc' := 23) hC dX10_readInto_22 rfl ?_
    refine g_aload_n (pc' := 24) (j := 0) hC dX10_readInto_23 rfl rfl rfl ?_
    refine gf_X10_31 (pc' := 27) hC wF_X10_271 dX10_readInto_24 rfl ?_
    refine a_st (pc' := 28) (k := 32) (i := (4 * (rd σ 15 39)) + pl) hC (by decide) (fun σ9 => (ct_32 g σ9)) (by omega) (by decide) dX10_readInto_27 rfl ?_
    refine g_iconst (pc' := 29) (v := nI 1) hC dX10_readInto_28 rfl rfl ?_
    refine g_ret hC dX10_readInto_29 rfl ?_
    exact ⟨by unfold mInto; rw [(sq_y c6).1]; exact (bI_t trivial).symm, by unfold mInto; rw [(sq_y c6).2]⟩
  · skip
    refine g_iconst (pc' := 10) (v := nI 0) hC dX10_readInto_9 rfl rfl ?_
    refine g_ret hC dX10_readInto_10 rfl ?_
    exact ⟨(sq_n c6).1.symm, (sq_n c6).2.symm⟩
set_option maxHeartbeats 4000000 in
set_option maxRecDepth 20000 in
theorem m_readClient (l : Launch) (g : Lay) (z0 : Nat) (σ : St) (pl : Nat) (hP : PI σ) (hpl : pl < 4) (hs : nb σ 15 39 59)  : CTi l yX10_readClient cX10_readClient 2 (some .boolean) 4 g z0 [.ref (g.2.1 15), .int (nI pl)] σ (FI (bI ((mInto σ pl (nI 0) (σ.1 15 1 - nI 1)).1)) ((mInto σ pl (nI 0) (σ.1 15 1 - nI 1)).2)) := by
  refine CTi.of (by decide) (Nat.le_of_ble_eq_true rfl) ?_
  intro x hxl hxa hC
  have hC : Cx x RX10 cX10_readClient 2 (some .boolean) 4 g z0 := hC
  show GG x g z0 2 0 0 (Qi x g z0 (FI (bI ((mInto σ pl (nI 0) (σ.1 15 1 - nI 1)).1)) ((mInto σ pl (nI 0) (σ.1 15 1 - nI 1)).2))) σ 0 [(0, .ref (g.2.1 15)), (1, .int (nI pl))] []
  refine g_aload_n (pc' := 1) (j := 0) hC dX10_readClient_0 rfl rfl rfl ?_
  refine g_iload_n (pc' := 2) (j := 1) hC dX10_readClient_1 rfl rfl rfl ?_
  refine g_iconst (pc' := 3) (v := nI 0) hC dX10_readClient_2 rfl rfl ?_
  refine g_aload_n (pc' := 4) (j := 0) hC dX10_readClient_3 rfl rfl rfl ?_
  refine gf_X10_1 (pc' := 7) hC wF_X10_69 dX10_readClient_4 rfl ?_
  refine g_iconst (pc' := 8) (v := nI 1) hC dX10_readClient_7 rfl rfl ?_
  refine g_isub (pc' := 9) hC dX10_readClient_8 rfl ?_
  refine f_Vi (pc' := 12) (k := 15) (st := []) hC (m_readInto x.2.1 g z0 σ pl ((nI 0)) (((σ.1 15 1) - (nI 1))) (by first | exact hP | (simp (disch := decide) only [nb, rd_uv, rd_ur, uv_cell, ur_cell]; exact hP) | omega) (by omega) (by first | exact hs | (simp (disch := decide) only [nb, rd_uv, rd_ur, uv_cell, ur_cell]; exact hs) | omega)) k_X10_readInto wM_X10_311 (by decide) (by decide) (ct_15 g σ) rfl rfl rfl rfl (Nat.le_of_ble_eq_true rfl) dX10_readClient_9 rfl (Nat.zero_le _) (Nat.zero_le _) ?_
  refine g_ret hC dX10_readClient_12 (bI_nar _) ?_
  exact ⟨rfl, rfl⟩
set_option maxHeartbeats 4000000 in
set_option maxRecDepth 20000 in
theorem m_readBranch (l : Launch) (g : Lay) (z0 : Nat) (σ : St) (pl : Nat) (hP : PI σ) (hpl : pl < 4) (hs : nb σ 15 39 59)  : CTi l yX10_readBranch cX10_readBranch 2 (some .boolean) 4 g z0 [.ref (g.2.1 15), .int (nI pl)] σ (FI (bI ((mInto σ pl (nI 0) (nI 7)).1)) ((mInto σ pl (nI 0) (nI 7)).2)) := by
  refine CTi.of (by decide) (Nat.le_of_ble_eq_true rfl) ?_
  intro x hxl hxa hC
  have hC : Cx x RX10 cX10_readBranch 2 (some .boolean) 4 g z0 := hC
  show GG x g z0 2 0 0 (Qi x g z0 (FI (bI ((mInto σ pl (nI 0) (nI 7)).1)) ((mInto σ pl (nI 0) (nI 7)).2))) σ 0 [(0, .ref (g.2.1 15)), (1, .int (nI pl))] []
  refine g_aload_n (pc' := 1) (j := 0) hC dX10_readBranch_0 rfl rfl rfl ?_
  refine g_iload_n (pc' := 2) (j := 1) hC dX10_readBranch_1 rfl rfl rfl ?_
  refine g_iconst (pc' := 3) (v := nI 0) hC dX10_readBranch_2 rfl rfl ?_
  refine g_bipush (pc' := 5) (v := nI 7) hC dX10_readBranch_3 rfl rfl ?_
  refine f_Vi (pc' := 8) (k := 15) (st := []) hC (m_readInto x.2.1 g z0 σ pl ((nI 0)) ((nI 7)) (by first | exact hP | (simp (disch := decide) only [nb, rd_uv, rd_ur, uv_cell, ur_cell]; exact hP) | omega) (by omega) (by first | exact hs | (simp (disch := decide) only [nb, rd_uv, rd_ur, uv_cell, ur_cell]; exact hs) | omega)) k_X10_readInto wM_X10_311 (by decide) (by decide) (ct_15 g σ) rfl rfl rfl rfl (Nat.le_of_ble_eq_true rfl) dX10_readBranch_5 rfl (Nat.zero_le _) (Nat.zero_le _) ?_
  refine g_ret hC dX10_readBranch_8 (bI_nar _) ?_
  exact ⟨rfl, rfl⟩
set_option maxHeartbeats 4000000 in
set_option maxRecDepth 20000 in
theorem m_isTooMany (l : Launch) (g : Lay) (z0 : Nat) (σ : St) (w : Int32) (hs : nb σ 15 39 60)  : CTi l yX10_isTooMany cX10_isTooMany 2 (some .boolean) 1 g z0 [.ref (g.2.1 15), .int w] σ (FI (bI ((mMany σ w).1)) ((mMany σ w).2)) := by
  refine CTi.of (by decide) (Nat.le_of_ble_eq_true rfl) ?_
  intro x hxl hxa hC
  have hC : Cx x RX10 cX10_isTooMany 2 (some .boolean) 1 g z0 := hC
  have hs2 := hs.2
  show GG x g z0 2 0 0 (Qi x g z0 (FI (bI ((mMany σ w).1)) ((mMany σ w).2))) σ 0 [(0, .ref (g.2.1 15)), (1, .int w)] []
  refine g_aload_n (pc' := 1) (j := 0) hC dX10_isTooMany_0 rfl rfl rfl ?_
  refine gf_X10_39 (pc' := 4) hC wF_X10_308 dX10_isTooMany_1 rfl ?_
  refine gg_topi (b := nI (rd σ 15 39)) (hs.1) ?_
  refine g_bipush (pc' := 6) (v := nI 60) hC dX10_isTooMany_4 rfl rfl ?_
  refine n_icmp_ne (pc' := 9) (tgt := 22) hC dX10_isTooMany_6 (by decide) rfl (by omega) (by omega) (fun c6 => ?_) (fun c6 => ?_)
  · skip
    have hR : bI (mMany σ w).1 = nI 0 := bI_f c6
    have hS : (mMany σ w).2 = σ := cI_f c6
    refine g_iconst (pc' := 23) (v := nI 0) hC dX10_isTooMany_22 rfl rfl ?_
    refine g_ret hC dX10_isTooMany_23 rfl ?_
    exact ⟨hR.symm, hS.symm⟩
  · skip
    have hR : bI (mMany σ w).1 = nI 1 := bI_t c6
    have hS : (mMany σ w).2 = mfl σ (nI 3) w := cI_t c6
    refine g_aload_n (pc' := 10) (j := 0) hC dX10_isTooMany_9 rfl rfl rfl ?_
    refine g_iconst (pc' := 11) (v := nI 3) hC dX10_isTooMany_10 rfl rfl ?_
    refine g_iload_n (pc' := 12) (j := 1) hC dX10_isTooMany_11 rfl rfl rfl ?_
    refine f_Vi (pc' := 15) (k := 15) (st := []) hC (m_fails x.2.1 g z0 σ ((nI 3)) w) k_X10_fails wM_X10_253 (by decide) (by decide) (ct_15 g σ) rfl rfl rfl rfl (Nat.le_of_ble_eq_true rfl) dX10_isTooMany_12 rfl (Nat.zero_le _) (Nat.zero_le _) ?_
    refine n_if_ne (pc' := 18) (tgt := 22) hC dX10_isTooMany_15 (by decide) rfl (by omega) (fun c15 => ?_) (fun c15 => ?_)
    · skip
      first | exact absurd c15 (by decide) | exact c15.elim
    · skip
      refine g_iconst (pc' := 19) (v := nI 1) hC dX10_isTooMany_18 rfl rfl ?_
      refine g_goto (tgt := 23) hC dX10_isTooMany_19 (by decide) ?_
      refine g_ret hC dX10_isTooMany_23 rfl ?_
      exact ⟨hR.symm, hS.symm⟩
