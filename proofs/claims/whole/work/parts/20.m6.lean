set_option maxHeartbeats 4000000 in
set_option maxRecDepth 20000 in
theorem m_write (l : Launch) (g : Lay) (z0 : Nat) (σ : St) (c : Int32) (w : Int32) (v : Int32) (hM : MI σ)  : CTi l yX10_write cX10_write 4 (some .int) 5 g z0 [.ref (g.2.1 15), .int c, .int w, .int v] σ (FI ((mwr σ c w v).1) ((mwr σ c w v).2)) := by
  refine CTi.of (by decide) (Nat.le_of_ble_eq_true rfl) ?_
  intro x hxl hxa hC
  have hC : Cx x RX10 cX10_write 4 (some .int) 5 g z0 := hC
  have hM0 := MI_m0 hM
  show GG x g z0 4 0 0 (Qi x g z0 (FI ((mwr σ c w v).1) ((mwr σ c w v).2))) σ 0 [(0, .ref (g.2.1 15)), (1, .int c), (2, .int w), (3, .int v)] []
  refine g_aload_n (pc' := 1) (j := 0) hC dX10_write_0 rfl rfl rfl ?_
  refine g_iconst (pc' := 2) (v := nI 0) hC dX10_write_1 rfl rfl ?_
  refine pf_X10_0 (pc' := 5) hC wF_X10_66 dX10_write_2 rfl ?_
  refine g_aload_n (pc' := 6) (j := 0) hC dX10_write_5 rfl rfl rfl ?_
  refine g_iload_n (pc' := 7) (j := 1) hC dX10_write_6 rfl rfl rfl ?_
  refine f_Vi (pc' := 10) (k := 15) (st := []) hC (m_isClient x.2.1 g z0 (uv σ 15 0 (nI 0)) c) k_X10_isClient wM_X10_165 (by decide) (by decide) (ct_15 g (uv σ 15 0 (nI 0))) rfl rfl rfl rfl (Nat.le_of_ble_eq_true rfl) dX10_write_7 rfl (Nat.zero_le _) (Nat.zero_le _) ?_
  refine gg_topi (b := bI (vlt (σ.1 15 1) c)) (by simp (disch := decide) only [mh_uv, mh_ur, mcomp_uv, rd_uv, rd_ur, uv_cell, ur_cell, uv_idx, uv_fun, rd_idx, ne_eq, not_false_eq_true]) ?_
  refine b_if_eq (pc' := 13) (tgt := 21) hC dX10_write_10 (by decide) rfl (fun c10 => ?_) (fun c10 => ?_)
  · skip
    refine g_aload_n (pc' := 22) (j := 0) hC dX10_write_21 rfl rfl rfl ?_
    refine g_iconst (pc' := 23) (v := nI 1) hC dX10_write_22 rfl rfl ?_
    refine f_Vi (pc' := 26) (k := 15) (st := []) hC (m_refuse x.2.1 g z0 (uv σ 15 0 (nI 0)) ((nI 1))) k_X10_refuse wM_X10_171 (by decide) (by decide) (ct_15 g (uv σ 15 0 (nI 0))) rfl rfl rfl rfl (Nat.le_of_ble_eq_true rfl) dX10_write_23 rfl (Nat.zero_le _) (Nat.zero_le _) ?_
    refine g_ret hC dX10_write_26 rfl ?_
    first | exact ⟨by unfold mwr; rw [cI_f (fun z => c10 z.1)], by unfold mwr; rw [cI_f (fun z => c10 z.1)]⟩ | exact ⟨by unfold mwr; rw [cI_f (fun z => c18 z.2)], by unfold mwr; rw [cI_f (fun z => c18 z.2)]⟩
  · skip
    refine g_aload_n (pc' := 14) (j := 0) hC dX10_write_13 rfl rfl rfl ?_
    refine g_iload_n (pc' := 15) (j := 2) hC dX10_write_14 rfl rfl rfl ?_
    refine f_Vi (pc' := 18) (k := 15) (st := []) hC (m_isBlock x.2.1 g z0 (uv σ 15 0 (nI 0)) w) k_X10_isBlock wM_X10_168 (by decide) (by decide) (ct_15 g (uv σ 15 0 (nI 0))) rfl rfl rfl rfl (Nat.le_of_ble_eq_true rfl) dX10_write_15 rfl (Nat.zero_le _) (Nat.zero_le _) ?_
    refine gg_topi (b := bI (vlt (σ.1 15 2) w)) (by simp (disch := decide) only [mh_uv, mh_ur, mcomp_uv, rd_uv, rd_ur, uv_cell, ur_cell, uv_idx, uv_fun, rd_idx, ne_eq, not_false_eq_true]) ?_
    refine b_if_ne (pc' := 21) (tgt := 27) hC dX10_write_18 (by decide) rfl (fun c18 => ?_) (fun c18 => ?_)
    · skip
      refine g_iload_n (pc' := 28) (j := 3) hC dX10_write_27 rfl rfl rfl ?_
      refine g_iconst (pc' := 29) (v := nI 0) hC dX10_write_28 rfl rfl ?_
      refine g_ldc (pc' := 31) (v := 999999) hC wC_X10_174 dX10_write_29 rfl ?_
      refine gg_topi (b := nI 999999) rfl ?_
      refine f_Si (pc' := 34) (st := []) hC (m_in x.2.1 g z0 (uv σ 15 0 (nI 0)) v ((nI 0)) ((nI 999999))) k_X10_in wM_X10_72 (by decide) rfl rfl (Nat.le_of_ble_eq_true rfl) dX10_write_31 rfl (Nat.zero_le _) (Nat.zero_le _) ?_
      refine b_if_ne (pc' := 37) (tgt := 43) hC dX10_write_34 (by decide) rfl (fun c34 => ?_) (fun c34 => ?_)
      · skip
        obtain ⟨hcN, hcL, hcM⟩ := hM.cl c10
        refine gg_lve (lv' := [(0, .ref (g.2.1 15)), (1, .int (nI (cn c))), (2, .int w), (3, .int v)]) (by rw [← hcN]) ?_
        refine g_aload_n (pc' := 44) (j := 0) hC dX10_write_43 rfl rfl rfl ?_
        refine g_iload_n (pc' := 45) (j := 1) hC dX10_write_44 rfl rfl rfl ?_
        refine g_iconst (pc' := 46) (v := nI 1) hC dX10_write_45 rfl rfl ?_
        refine g_iload_n (pc' := 47) (j := 2) hC dX10_write_46 rfl rfl rfl ?_
        refine g_iload_n (pc' := 48) (j := 3) hC dX10_write_47 rfl rfl rfl ?_
        refine f_Vi (pc' := 51) (k := 15) (st := []) hC (m_operates x.2.1 g z0 (uv σ 15 0 (nI 0)) ((cn c)) ((nI 1)) w v (by omega) (hM0) (by rw [show (uv σ 15 0 (nI 0)).1 15 3 = σ.1 15 3 from uv_idx _ _ _ _ (by decide)]; exact hM.iv hcL)) k_X10_operates wM_X10_175 (by decide) (by decide) (ct_15 g (uv σ 15 0 (nI 0))) rfl rfl rfl rfl (Nat.le_of_ble_eq_true rfl) dX10_write_48 rfl (Nat.zero_le _) (Nat.zero_le _) ?_
        refine b_if_ne (pc' := 54) (tgt := 60) hC dX10_write_51 (by decide) rfl (fun c51 => ?_) (fun c51 => ?_)
        · skip
          refine g_aload_n (pc' := 61) (j := 0) hC dX10_write_60 rfl rfl rfl ?_
          refine gf_X10_14 (pc' := 64) hC wF_X10_34 dX10_write_61 rfl ?_
          refine g_iload_n (pc' := 65) (j := 1) hC dX10_write_64 rfl rfl rfl ?_
          refine a_ld (pc' := 66) (k := 24) (i := cn c) hC (by decide) (ct_24 g (moS (uv σ 15 0 (nI 0)) (cn c) (nI 1) w v)) (by omega) (by decide) dX10_write_65 rfl ?_
          refine g_ret hC dX10_write_66 rfl ?_
          exact ⟨by unfold mwr; rw [cI_t (⟨c10, c18⟩), cI_t (c34), cI_t (c51)], by unfold mwr; rw [cI_t (⟨c10, c18⟩), cI_t (c34), cI_t (c51)]⟩
        · skip
          refine g_aload_n (pc' := 55) (j := 0) hC dX10_write_54 rfl rfl rfl ?_
          refine g_iconst (pc' := 56) (v := nI 3) hC dX10_write_55 rfl rfl ?_
          refine f_Vi (pc' := 59) (k := 15) (st := []) hC (m_refuse x.2.1 g z0 (moS (uv σ 15 0 (nI 0)) (cn c) (nI 1) w v) ((nI 3))) k_X10_refuse wM_X10_171 (by decide) (by decide) (ct_15 g (moS (uv σ 15 0 (nI 0)) (cn c) (nI 1) w v)) rfl rfl rfl rfl (Nat.le_of_ble_eq_true rfl) dX10_write_56 rfl (Nat.zero_le _) (Nat.zero_le _) ?_
          refine g_ret hC dX10_write_59 rfl ?_
          exact ⟨by unfold mwr; rw [cI_t (⟨c10, c18⟩), cI_t (c34), cI_f (c51)], by unfold mwr; rw [cI_t (⟨c10, c18⟩), cI_t (c34), cI_f (c51)]⟩
      · skip
        refine g_aload_n (pc' := 38) (j := 0) hC dX10_write_37 rfl rfl rfl ?_
        refine g_iconst (pc' := 39) (v := nI 2) hC dX10_write_38 rfl rfl ?_
        refine f_Vi (pc' := 42) (k := 15) (st := []) hC (m_refuse x.2.1 g z0 (uv σ 15 0 (nI 0)) ((nI 2))) k_X10_refuse wM_X10_171 (by decide) (by decide) (ct_15 g (uv σ 15 0 (nI 0))) rfl rfl rfl rfl (Nat.le_of_ble_eq_true rfl) dX10_write_39 rfl (Nat.zero_le _) (Nat.zero_le _) ?_
        refine g_ret hC dX10_write_42 rfl ?_
        exact ⟨by unfold mwr; rw [cI_t (⟨c10, c18⟩), cI_f (c34)], by unfold mwr; rw [cI_t (⟨c10, c18⟩), cI_f (c34)]⟩
    · skip
      refine g_aload_n (pc' := 22) (j := 0) hC dX10_write_21 rfl rfl rfl ?_
      refine g_iconst (pc' := 23) (v := nI 1) hC dX10_write_22 rfl rfl ?_
      refine f_Vi (pc' := 26) (k := 15) (st := []) hC (m_refuse x.2.1 g z0 (uv σ 15 0 (nI 0)) ((nI 1))) k_X10_refuse wM_X10_171 (by decide) (by decide) (ct_15 g (uv σ 15 0 (nI 0))) rfl rfl rfl rfl (Nat.le_of_ble_eq_true rfl) dX10_write_23 rfl (Nat.zero_le _) (Nat.zero_le _) ?_
      refine g_ret hC dX10_write_26 rfl ?_
      first | exact ⟨by unfold mwr; rw [cI_f (fun z => c10 z.1)], by unfold mwr; rw [cI_f (fun z => c10 z.1)]⟩ | exact ⟨by unfold mwr; rw [cI_f (fun z => c18 z.2)], by unfold mwr; rw [cI_f (fun z => c18 z.2)]⟩
set_option maxHeartbeats 4000000 in
set_option maxRecDepth 20000 in
theorem m_read (l : Launch) (g : Lay) (z0 : Nat) (σ : St) (c : Int32) (w : Int32) (hM : MI σ)  : CTi l yX10_read cX10_read 3 (some .int) 5 g z0 [.ref (g.2.1 15), .int c, .int w] σ (FI ((mrd σ c w).1) ((mrd σ c w).2)) := by
  refine CTi.of (by decide) (Nat.le_of_ble_eq_true rfl) ?_
  intro x hxl hxa hC
  have hC : Cx x RX10 cX10_read 3 (some .int) 5 g z0 := hC
  have hM0 := MI_m0 hM
  show GG x g z0 3 0 0 (Qi x g z0 (FI ((mrd σ c w).1) ((mrd σ c w).2))) σ 0 [(0, .ref (g.2.1 15)), (1, .int c), (2, .int w)] []
  refine g_aload_n (pc' := 1) (j := 0) hC dX10_read_0 rfl rfl rfl ?_
  refine g_iconst (pc' := 2) (v := nI 0) hC dX10_read_1 rfl rfl ?_
  refine pf_X10_0 (pc' := 5) hC wF_X10_66 dX10_read_2 rfl ?_
  refine g_aload_n (pc' := 6) (j := 0) hC dX10_read_5 rfl rfl rfl ?_
  refine g_iload_n (pc' := 7) (j := 1) hC dX10_read_6 rfl rfl rfl ?_
  refine f_Vi (pc' := 10) (k := 15) (st := []) hC (m_isClient x.2.1 g z0 (uv σ 15 0 (nI 0)) c) k_X10_isClient wM_X10_165 (by decide) (by decide) (ct_15 g (uv σ 15 0 (nI 0))) rfl rfl rfl rfl (Nat.le_of_ble_eq_true rfl) dX10_read_7 rfl (Nat.zero_le _) (Nat.zero_le _) ?_
  refine gg_topi (b := bI (vlt (σ.1 15 1) c)) (by simp (disch := decide) only [mh_uv, mh_ur, mcomp_uv, rd_uv, rd_ur, uv_cell, ur_cell, uv_idx, uv_fun, rd_idx, ne_eq, not_false_eq_true]) ?_
  refine b_if_eq (pc' := 13) (tgt := 21) hC dX10_read_10 (by decide) rfl (fun c10 => ?_) (fun c10 => ?_)
  · skip
    refine g_aload_n (pc' := 22) (j := 0) hC dX10_read_21 rfl rfl rfl ?_
    refine g_iconst (pc' := 23) (v := nI 1) hC dX10_read_22 rfl rfl ?_
    refine f_Vi (pc' := 26) (k := 15) (st := []) hC (m_refuse x.2.1 g z0 (uv σ 15 0 (nI 0)) ((nI 1))) k_X10_refuse wM_X10_171 (by decide) (by decide) (ct_15 g (uv σ 15 0 (nI 0))) rfl rfl rfl rfl (Nat.le_of_ble_eq_true rfl) dX10_read_23 rfl (Nat.zero_le _) (Nat.zero_le _) ?_
    refine g_ret hC dX10_read_26 rfl ?_
    first | exact ⟨by unfold mrd; rw [cI_f (fun z => c10 z.1)], by unfold mrd; rw [cI_f (fun z => c10 z.1)]⟩ | exact ⟨by unfold mrd; rw [cI_f (fun z => c18 z.2)], by unfold mrd; rw [cI_f (fun z => c18 z.2)]⟩
  · skip
    refine g_aload_n (pc' := 14) (j := 0) hC dX10_read_13 rfl rfl rfl ?_
    refine g_iload_n (pc' := 15) (j := 2) hC dX10_read_14 rfl rfl rfl ?_
    refine f_Vi (pc' := 18) (k := 15) (st := []) hC (m_isBlock x.2.1 g z0 (uv σ 15 0 (nI 0)) w) k_X10_isBlock wM_X10_168 (by decide) (by decide) (ct_15 g (uv σ 15 0 (nI 0))) rfl rfl rfl rfl (Nat.le_of_ble_eq_true rfl) dX10_read_15 rfl (Nat.zero_le _) (Nat.zero_le _) ?_
    refine gg_topi (b := bI (vlt (σ.1 15 2) w)) (by simp (disch := decide) only [mh_uv, mh_ur, mcomp_uv, rd_uv, rd_ur, uv_cell, ur_cell, uv_idx, uv_fun, rd_idx, ne_eq, not_false_eq_true]) ?_
    refine b_if_ne (pc' := 21) (tgt := 27) hC dX10_read_18 (by decide) rfl (fun c18 => ?_) (fun c18 => ?_)
    · skip
      obtain ⟨hcN, hcL, hcM⟩ := hM.cl c10
      refine gg_lve (lv' := [(0, .ref (g.2.1 15)), (1, .int (nI (cn c))), (2, .int w)]) (by rw [← hcN]) ?_
      refine g_aload_n (pc' := 28) (j := 0) hC dX10_read_27 rfl rfl rfl ?_
      refine g_iload_n (pc' := 29) (j := 1) hC dX10_read_28 rfl rfl rfl ?_
      refine g_iconst (pc' := 30) (v := nI 0) hC dX10_read_29 rfl rfl ?_
      refine g_iload_n (pc' := 31) (j := 2) hC dX10_read_30 rfl rfl rfl ?_
      refine g_iconst (pc' := 32) (v := nI 0) hC dX10_read_31 rfl rfl ?_
      refine f_Vi (pc' := 35) (k := 15) (st := []) hC (m_operates x.2.1 g z0 (uv σ 15 0 (nI 0)) ((cn c)) ((nI 0)) w ((nI 0)) (by omega) (hM0) (by rw [show (uv σ 15 0 (nI 0)).1 15 3 = σ.1 15 3 from uv_idx _ _ _ _ (by decide)]; exact hM.iv hcL)) k_X10_operates wM_X10_175 (by decide) (by decide) (ct_15 g (uv σ 15 0 (nI 0))) rfl rfl rfl rfl (Nat.le_of_ble_eq_true rfl) dX10_read_32 rfl (Nat.zero_le _) (Nat.zero_le _) ?_
      refine b_if_ne (pc' := 38) (tgt := 44) hC dX10_read_35 (by decide) rfl (fun c35 => ?_) (fun c35 => ?_)
      · skip
        have hM9 : MI (moS (uv σ 15 0 (nI 0)) (cn c) (nI 0) w (nI 0)) := MI_moS hM0 (by omega) _ _ _
        have hs9 := hM9.see (c := cn c) (by omega)
        have hs92 := hs9.2
        refine g_aload_n (pc' := 45) (j := 0) hC dX10_read_44 rfl rfl rfl ?_
        refine g_aload_n (pc' := 46) (j := 0) hC dX10_read_45 rfl rfl rfl ?_
        refine gf_X10_13 (pc' := 49) hC wF_X10_31 dX10_read_46 rfl ?_
        refine g_iload_n (pc' := 50) (j := 1) hC dX10_read_49 rfl rfl rfl ?_
        refine a_ld (pc' := 51) (k := 23) (i := cn c) hC (by decide) (ct_23 g (moS (uv σ 15 0 (nI 0)) (cn c) (nI 0) w (nI 0))) (by omega) (by decide) dX10_read_50 rfl ?_
        refine gg_topi (b := nI (rd (moS (uv σ 15 0 (nI 0)) (cn c) (nI 0) w (nI 0)) 23 (cn c))) (hs9.1) ?_
        refine g_iload_n (pc' := 52) (j := 2) hC dX10_read_51 rfl rfl rfl ?_
        refine f_Vi (pc' := 55) (k := 15) (st := []) hC (m_valueIn x.2.1 g z0 (moS (uv σ 15 0 (nI 0)) (cn c) (nI 0) w (nI 0)) ((rd (moS (uv σ 15 0 (nI 0)) (cn c) (nI 0) w (nI 0)) 23 (cn c))) w (by omega) (hM9.len (by omega))) k_X10_valueIn wM_X10_179 (by decide) (by decide) (ct_15 g (moS (uv σ 15 0 (nI 0)) (cn c) (nI 0) w (nI 0))) rfl rfl rfl rfl (Nat.le_of_ble_eq_true rfl) dX10_read_52 rfl (Nat.zero_le _) (Nat.zero_le _) ?_
        refine g_ret hC dX10_read_55 rfl ?_
        exact ⟨by unfold mrd; rw [cI_t (⟨c10, c18⟩), cI_t (c35)], by unfold mrd; rw [cI_t (⟨c10, c18⟩), cI_t (c35)]⟩
      · skip
        refine g_aload_n (pc' := 39) (j := 0) hC dX10_read_38 rfl rfl rfl ?_
        refine g_iconst (pc' := 40) (v := nI 2) hC dX10_read_39 rfl rfl ?_
        refine f_Vi (pc' := 43) (k := 15) (st := []) hC (m_refuse x.2.1 g z0 (moS (uv σ 15 0 (nI 0)) (cn c) (nI 0) w (nI 0)) ((nI 2))) k_X10_refuse wM_X10_171 (by decide) (by decide) (ct_15 g (moS (uv σ 15 0 (nI 0)) (cn c) (nI 0) w (nI 0))) rfl rfl rfl rfl (Nat.le_of_ble_eq_true rfl) dX10_read_40 rfl (Nat.zero_le _) (Nat.zero_le _) ?_
        refine g_ret hC dX10_read_43 rfl ?_
        exact ⟨by unfold mrd; rw [cI_t (⟨c10, c18⟩), cI_f (c35)], by unfold mrd; rw [cI_t (⟨c10, c18⟩), cI_f (c35)]⟩
    · skip
      refine g_aload_n (pc' := 22) (j := 0) hC dX10_read_21 rfl rfl rfl ?_
      refine g_iconst (pc' := 23) (v := nI 1) hC dX10_read_22 rfl rfl ?_
      refine f_Vi (pc' := 26) (k := 15) (st := []) hC (m_refuse x.2.1 g z0 (uv σ 15 0 (nI 0)) ((nI 1))) k_X10_refuse wM_X10_171 (by decide) (by decide) (ct_15 g (uv σ 15 0 (nI 0))) rfl rfl rfl rfl (Nat.le_of_ble_eq_true rfl) dX10_read_23 rfl (Nat.zero_le _) (Nat.zero_le _) ?_
      refine g_ret hC dX10_read_26 rfl ?_
      first | exact ⟨by unfold mrd; rw [cI_f (fun z => c10 z.1)], by unfold mrd; rw [cI_f (fun z => c10 z.1)]⟩ | exact ⟨by unfold mrd; rw [cI_f (fun z => c18 z.2)], by unfold mrd; rw [cI_f (fun z => c18 z.2)]⟩
set_option maxHeartbeats 4000000 in
set_option maxRecDepth 20000 in
theorem m_post (l : Launch) (g : Lay) (z0 : Nat) (σ : St) (c : Int32) (hM : MI σ)  : CTi l yX10_post cX10_post 2 (some .int) 3 g z0 [.ref (g.2.1 15), .int c] σ (FI ((mpo σ c).1) ((mpo σ c).2)) := by
  refine CTi.of (by decide) (Nat.le_of_ble_eq_true rfl) ?_
  intro x hxl hxa hC
  have hC : Cx x RX10 cX10_post 2 (some .int) 3 g z0 := hC
  have hM0 := MI_m0 hM
  show GG x g z0 2 0 0 (Qi x g z0 (FI ((mpo σ c).1) ((mpo σ c).2))) σ 0 [(0, .ref (g.2.1 15)), (1, .int c)] []
  refine g_aload_n (pc' := 1) (j := 0) hC dX10_post_0 rfl rfl rfl ?_
  refine g_iconst (pc' := 2) (v := nI 0) hC dX10_post_1 rfl rfl ?_
  refine pf_X10_0 (pc' := 5) hC wF_X10_66 dX10_post_2 rfl ?_
  refine g_aload_n (pc' := 6) (j := 0) hC dX10_post_5 rfl rfl rfl ?_
  refine g_iload_n (pc' := 7) (j := 1) hC dX10_post_6 rfl rfl rfl ?_
  refine f_Vi (pc' := 10) (k := 15) (st := []) hC (m_isClient x.2.1 g z0 (uv σ 15 0 (nI 0)) c) k_X10_isClient wM_X10_165 (by decide) (by decide) (ct_15 g (uv σ 15 0 (nI 0))) rfl rfl rfl rfl (Nat.le_of_ble_eq_true rfl) dX10_post_7 rfl (Nat.zero_le _) (Nat.zero_le _) ?_
  refine gg_topi (b := bI (vlt (σ.1 15 1) c)) (by simp (disch := decide) only [mh_uv, mh_ur, mcomp_uv, rd_uv, rd_ur, uv_cell, ur_cell, uv_idx, uv_fun, rd_idx, ne_eq, not_false_eq_true]) ?_
  refine b_if_ne (pc' := 13) (tgt := 19) hC dX10_post_10 (by decide) rfl (fun c10 => ?_) (fun c10 => ?_)
  · skip
    obtain ⟨hcN, hcL, hcM⟩ := hM.cl c10
    refine gg_lve (lv' := [(0, .ref (g.2.1 15)), (1, .int (nI (cn c)))]) (by rw [← hcN]) ?_
    refine g_aload_n (pc' := 20) (j := 0) hC dX10_post_19 rfl rfl rfl ?_
    refine g_iload_n (pc' := 21) (j := 1) hC dX10_post_20 rfl rfl rfl ?_
    refine f_Vv (pc' := 24) (k := 15) (st := []) hC (m_putsPost x.2.1 g z0 (uv σ 15 0 (nI 0)) ((cn c)) (by omega) (hM0.pos (by omega)) (hM0.posts)) k_X10_putsPost wM_X10_161 (by decide) (by decide) (ct_15 g (uv σ 15 0 (nI 0))) rfl rfl rfl rfl (Nat.le_of_ble_eq_true rfl) dX10_post_21 rfl (Nat.zero_le _) (Nat.zero_le _) ?_
    refine g_aload_n (pc' := 25) (j := 0) hC dX10_post_24 rfl rfl rfl ?_
    refine gf_X10_21 (pc' := 28) hC wF_X10_126 dX10_post_25 rfl ?_
    refine g_ret hC dX10_post_28 rfl ?_
    exact ⟨by unfold mpo; rw [cI_t (c10)], by unfold mpo; rw [cI_t (c10)]⟩
  · skip
    refine g_aload_n (pc' := 14) (j := 0) hC dX10_post_13 rfl rfl rfl ?_
    refine g_iconst (pc' := 15) (v := nI 1) hC dX10_post_14 rfl rfl ?_
    refine f_Vi (pc' := 18) (k := 15) (st := []) hC (m_refuse x.2.1 g z0 (uv σ 15 0 (nI 0)) ((nI 1))) k_X10_refuse wM_X10_171 (by decide) (by decide) (ct_15 g (uv σ 15 0 (nI 0))) rfl rfl rfl rfl (Nat.le_of_ble_eq_true rfl) dX10_post_15 rfl (Nat.zero_le _) (Nat.zero_le _) ?_
    refine g_ret hC dX10_post_18 rfl ?_
    exact ⟨by unfold mpo; rw [cI_f (c10)], by unfold mpo; rw [cI_f (c10)]⟩
set_option maxHeartbeats 4000000 in
set_option maxRecDepth 20000 in
theorem m_adopt (l : Launch) (g : Lay) (z0 : Nat) (σ : St) (c : Int32) (hM : MI σ)  : CTi l yX10_adopt cX10_adopt 2 (some .int) 3 g z0 [.ref (g.2.1 15), .int c] σ (FI ((mad σ c).1) ((mad σ c).2)) := by
  refine CTi.of (by decide) (Nat.le_of_ble_eq_true rfl) ?_
  intro x hxl hxa hC
  have hC : Cx x RX10 cX10_adopt 2 (some .int) 3 g z0 := hC
  have hM0 := MI_m0 hM
  show GG x g z0 2 0 0 (Qi x g z0 (FI ((mad σ c).1) ((mad σ c).2))) σ 0 [(0, .ref (g.2.1 15)), (1, .int c)] []
  refine g_aload_n (pc' := 1) (j := 0) hC dX10_adopt_0 rfl rfl rfl ?_
  refine g_iconst (pc' := 2) (v := nI 0) hC dX10_adopt_1 rfl rfl ?_
  refine pf_X10_0 (pc' := 5) hC wF_X10_66 dX10_adopt_2 rfl ?_
  refine g_aload_n (pc' := 6) (j := 0) hC dX10_adopt_5 rfl rfl rfl ?_
  refine g_iload_n (pc' := 7) (j := 1) hC dX10_adopt_6 rfl rfl rfl ?_
  refine f_Vi (pc' := 10) (k := 15) (st := []) hC (m_isClient x.2.1 g z0 (uv σ 15 0 (nI 0)) c) k_X10_isClient wM_X10_165 (by decide) (by decide) (ct_15 g (uv σ 15 0 (nI 0))) rfl rfl rfl rfl (Nat.le_of_ble_eq_true rfl) dX10_adopt_7 rfl (Nat.zero_le _) (Nat.zero_le _) ?_
  refine gg_topi (b := bI (vlt (σ.1 15 1) c)) (by simp (disch := decide) only [mh_uv, mh_ur, mcomp_uv, rd_uv, rd_ur, uv_cell, ur_cell, uv_idx, uv_fun, rd_idx, ne_eq, not_false_eq_true]) ?_
  refine b_if_ne (pc' := 13) (tgt := 19) hC dX10_adopt_10 (by decide) rfl (fun c10 => ?_) (fun c10 => ?_)
  · skip
    have hs9 := (hM.see (c := cn c) (by have := hM.cl c10; omega)).2
    obtain ⟨hcN, hcL, hcM⟩ := hM.cl c10
    refine gg_lve (lv' := [(0, .ref (g.2.1 15)), (1, .int (nI (cn c)))]) (by rw [← hcN]) ?_
    refine g_aload_n (pc' := 20) (j := 0) hC dX10_adopt_19 rfl rfl rfl ?_
    refine g_iload_n (pc' := 21) (j := 1) hC dX10_adopt_20 rfl rfl rfl ?_
    refine g_aload_n (pc' := 22) (j := 0) hC dX10_adopt_21 rfl rfl rfl ?_
    refine gf_X10_13 (pc' := 25) hC wF_X10_31 dX10_adopt_22 rfl ?_
    refine g_iload_n (pc' := 26) (j := 1) hC dX10_adopt_25 rfl rfl rfl ?_
    refine a_ld (pc' := 27) (k := 23) (i := cn c) hC (by decide) (ct_23 g (uv σ 15 0 (nI 0))) (by omega) (by decide) dX10_adopt_26 rfl ?_
    refine gg_topi (b := nI (rd σ 23 (cn c))) ((uv_cell _ _ _ _ (by decide)).trans ((hM.see (by omega)).1)) ?_
    refine f_Vv (pc' := 30) (k := 15) (st := []) hC (m_takes x.2.1 g z0 (uv σ 15 0 (nI 0)) ((cn c)) ((rd σ 23 (cn c))) (by omega) (by omega) (hM0.len (by omega)) (fun i hi => hM0.aut hi)) k_X10_takes wM_X10_135 (by decide) (by decide) (ct_15 g (uv σ 15 0 (nI 0))) rfl rfl rfl rfl (Nat.le_of_ble_eq_true rfl) dX10_adopt_27 rfl (Nat.zero_le _) (Nat.zero_le _) ?_
    refine g_aload_n (pc' := 31) (j := 0) hC dX10_adopt_30 rfl rfl rfl ?_
    refine gf_X10_18 (pc' := 34) hC wF_X10_46 dX10_adopt_31 rfl ?_
    refine g_iload_n (pc' := 35) (j := 1) hC dX10_adopt_34 rfl rfl rfl ?_
    refine g_iconst (pc' := 36) (v := nI 0) hC dX10_adopt_35 rfl rfl ?_
    refine a_stz (pc' := 37) (k := 28) (i := cn c) hC (by decide) (fun σ9 => (ct_28 g σ9)) (by omega) (by decide) rfl dX10_adopt_36 rfl ?_
    refine g_aload_n (pc' := 38) (j := 0) hC dX10_adopt_37 rfl rfl rfl ?_
    refine gf_X10_14 (pc' := 41) hC wF_X10_34 dX10_adopt_38 rfl ?_
    refine g_iload_n (pc' := 42) (j := 1) hC dX10_adopt_41 rfl rfl rfl ?_
    refine a_ld (pc' := 43) (k := 24) (i := cn c) hC (by decide) (ct_24 g (uv (mtk (uv σ 15 0 (nI 0)) (cn c) (rd σ 23 (cn c))) 28 (cn c) (nI 0))) (by omega) (by decide) dX10_adopt_42 rfl ?_
    refine gg_topi (b := (mtk (uv σ 15 0 (nI 0)) (cn c) (rd σ 23 (cn c))).1 24 (cn c)) (uv_cell _ _ _ _ (by decide)) ?_
    refine g_ret hC dX10_adopt_43 rfl ?_
    exact ⟨by unfold mad; rw [cI_t (c10)], by unfold mad; rw [cI_t (c10)]⟩
  · skip
    refine g_aload_n (pc' := 14) (j := 0) hC dX10_adopt_13 rfl rfl rfl ?_
    refine g_iconst (pc' := 15) (v := nI 1) hC dX10_adopt_14 rfl rfl ?_
    refine f_Vi (pc' := 18) (k := 15) (st := []) hC (m_refuse x.2.1 g z0 (uv σ 15 0 (nI 0)) ((nI 1))) k_X10_refuse wM_X10_171 (by decide) (by decide) (ct_15 g (uv σ 15 0 (nI 0))) rfl rfl rfl rfl (Nat.le_of_ble_eq_true rfl) dX10_adopt_15 rfl (Nat.zero_le _) (Nat.zero_le _) ?_
    refine g_ret hC dX10_adopt_18 rfl ?_
    exact ⟨by unfold mad; rw [cI_f (c10)], by unfold mad; rw [cI_f (c10)]⟩
set_option maxHeartbeats 4000000 in
set_option maxRecDepth 20000 in
theorem m_calm (l : Launch) (g : Lay) (z0 : Nat) (σ : St) (c : Int32) (hM : MI σ)  : CTi l yX10_calm cX10_calm 3 (some .boolean) 2 g z0 [.ref (g.2.1 15), .int c] σ (FI ((mca σ c).1) ((mca σ c).2)) := by
  refine CTi.of (by decide) (Nat.le_of_ble_eq_true rfl) ?_
  intro x hxl hxa hC
  have hC : Cx x RX10 cX10_calm 3 (some .boolean) 2 g z0 := hC
  show GG x g z0 3 0 0 (Qi x g z0 (FI ((mca σ c).1) ((mca σ c).2))) σ 0 [(0, .ref (g.2.1 15)), (1, .int c)] []
  refine g_aload_n (pc' := 1) (j := 0) hC dX10_calm_0 rfl rfl rfl ?_
  refine g_aload_n (pc' := 2) (j := 0) hC dX10_calm_1 rfl rfl rfl ?_
  refine g_iload_n (pc' := 3) (j := 1) hC dX10_calm_2 rfl rfl rfl ?_
  refine f_Vi (pc' := 6) (k := 15) (st := [.ref (g.2.1 15)]) hC (m_isClient x.2.1 g z0 σ c) k_X10_isClient wM_X10_165 (by decide) (by decide) (ct_15 g σ) rfl rfl rfl rfl (Nat.le_of_ble_eq_true rfl) dX10_calm_3 rfl (Nat.zero_le _) (Nat.zero_le _) ?_
  refine b_if_eq (pc' := 9) (tgt := 13) hC dX10_calm_6 (by decide) rfl (fun c6 => ?_) (fun c6 => ?_)
  · skip
    refine g_iconst (pc' := 14) (v := nI 1) hC dX10_calm_13 rfl rfl ?_
    refine pf_X10_0 (pc' := 17) hC wF_X10_66 dX10_calm_14 rfl ?_
    refine g_aload_n (pc' := 18) (j := 0) hC dX10_calm_17 rfl rfl rfl ?_
    refine gf_X10_0 (pc' := 21) hC wF_X10_66 dX10_calm_18 rfl ?_
    refine gg_topi (b := nI 1) (uv_same _ _ _ _) ?_
    refine n_if_le (pc' := 24) (tgt := 26) hC dX10_calm_21 (by decide) rfl (by omega) (fun c21 => ?_) (fun c21 => ?_)
    · skip
      first | exact absurd c21 (by decide) | exact c21.elim
    · skip
      refine g_iconst (pc' := 25) (v := nI 0) hC dX10_calm_24 rfl rfl ?_
      refine g_ret hC dX10_calm_25 rfl ?_
      exact ⟨by unfold mca; rw [cI_f (c6)], by unfold mca; rw [cI_f (c6)]⟩
  · skip
    refine g_iconst (pc' := 10) (v := nI 0) hC dX10_calm_9 rfl rfl ?_
    refine g_goto (tgt := 14) hC dX10_calm_10 (by decide) ?_
    refine pf_X10_0 (pc' := 17) hC wF_X10_66 dX10_calm_14 rfl ?_
    refine g_aload_n (pc' := 18) (j := 0) hC dX10_calm_17 rfl rfl rfl ?_
    refine gf_X10_0 (pc' := 21) hC wF_X10_66 dX10_calm_18 rfl ?_
    refine gg_topi (b := nI 0) (uv_same _ _ _ _) ?_
    refine n_if_le (pc' := 24) (tgt := 26) hC dX10_calm_21 (by decide) rfl (by omega) (fun c21 => ?_) (fun c21 => ?_)
    · skip
      obtain ⟨hcN, hcL, hcM⟩ := hM.cl c6
      refine gg_lve (lv' := [(0, .ref (g.2.1 15)), (1, .int (nI (cn c)))]) (by rw [← hcN]) ?_
      refine g_aload_n (pc' := 27) (j := 0) hC dX10_calm_26 rfl rfl rfl ?_
      refine gf_X10_18 (pc' := 30) hC wF_X10_46 dX10_calm_27 rfl ?_
      refine g_iload_n (pc' := 31) (j := 1) hC dX10_calm_30 rfl rfl rfl ?_
      refine a_ldz (pc' := 32) (k := 28) (i := cn c) hC (by decide) (ct_28 g (uv σ 15 0 (nI 0))) (by omega) (by decide) dX10_calm_31 rfl ?_
      refine gg_topi (b := σ.1 28 (cn c)) (uv_cell _ _ _ _ (by decide)) ?_
      refine g_istore_n (pc' := 33) (lv' := [(2, .int (σ.1 28 (cn c))), (0, .ref (g.2.1 15)), (1, .int (nI (cn c)))]) hC dX10_calm_32 rfl rfl (by decide) rfl ?_
      refine g_aload_n (pc' := 34) (j := 1) hC dX10_calm_33 rfl rfl rfl ?_
      refine gf_X10_18 (pc' := 37) hC wF_X10_46 dX10_calm_34 rfl ?_
      refine g_iload_n (pc' := 38) (j := 2) hC dX10_calm_37 rfl rfl rfl ?_
      refine g_iconst (pc' := 39) (v := nI 0) hC dX10_calm_38 rfl rfl ?_
      refine a_stz (pc' := 40) (k := 28) (i := cn c) hC (by decide) (fun σ9 => (ct_28 g σ9)) (by omega) (by decide) rfl dX10_calm_39 rfl ?_
      refine g_iload_n (pc' := 41) (j := 0) hC dX10_calm_40 rfl rfl rfl ?_
      refine g_ret hC dX10_calm_41 (z_nar (hM.v28 _ (by omega))) ?_
      exact ⟨by unfold mca; rw [cI_t (c6)], by unfold mca; rw [cI_t (c6)]⟩
    · skip
      first | exact absurd c21 (by decide) | exact c21.elim
set_option maxHeartbeats 4000000 in
set_option maxRecDepth 20000 in
theorem m_move (l : Launch) (g : Lay) (z0 : Nat) (σ : St) (c : Int32) (b : Int32) (hM : MI σ)  : CTi l yX10_move cX10_move 4 (some .int) 2 g z0 [.ref (g.2.1 15), .int c, .int b] σ (FI ((mmv σ c b).1) ((mmv σ c b).2)) := by
  refine CTi.of (by decide) (Nat.le_of_ble_eq_true rfl) ?_
  intro x hxl hxa hC
  have hC : Cx x RX10 cX10_move 4 (some .int) 2 g z0 := hC
  show GG x g z0 4 0 0 (Qi x g z0 (FI ((mmv σ c b).1) ((mmv σ c b).2))) σ 0 [(0, .ref (g.2.1 15)), (1, .int c), (2, .int b)] []
  refine g_aload_n (pc' := 1) (j := 0) hC dX10_move_0 rfl rfl rfl ?_
  refine g_iconst (pc' := 2) (v := nI 0) hC dX10_move_1 rfl rfl ?_
  refine pf_X10_0 (pc' := 5) hC wF_X10_66 dX10_move_2 rfl ?_
  refine g_aload_n (pc' := 6) (j := 0) hC dX10_move_5 rfl rfl rfl ?_
  refine g_iload_n (pc' := 7) (j := 1) hC dX10_move_6 rfl rfl rfl ?_
  refine f_Vi (pc' := 10) (k := 15) (st := []) hC (m_isClient x.2.1 g z0 (uv σ 15 0 (nI 0)) c) k_X10_isClient wM_X10_165 (by decide) (by decide) (ct_15 g (uv σ 15 0 (nI 0))) rfl rfl rfl rfl (Nat.le_of_ble_eq_true rfl) dX10_move_7 rfl (Nat.zero_le _) (Nat.zero_le _) ?_
  refine gg_topi (b := bI (vlt (σ.1 15 1) c)) (by simp (disch := decide) only [mh_uv, mh_ur, mcomp_uv, rd_uv, rd_ur, uv_cell, ur_cell, uv_idx, uv_fun, rd_idx, ne_eq, not_false_eq_true]) ?_
  refine b_if_eq (pc' := 13) (tgt := 21) hC dX10_move_10 (by decide) rfl (fun c10 => ?_) (fun c10 => ?_)
  · skip
    refine g_aload_n (pc' := 22) (j := 0) hC dX10_move_21 rfl rfl rfl ?_
    refine g_iconst (pc' := 23) (v := nI 1) hC dX10_move_22 rfl rfl ?_
    refine f_Vi (pc' := 26) (k := 15) (st := []) hC (m_refuse x.2.1 g z0 (uv σ 15 0 (nI 0)) ((nI 1))) k_X10_refuse wM_X10_171 (by decide) (by decide) (ct_15 g (uv σ 15 0 (nI 0))) rfl rfl rfl rfl (Nat.le_of_ble_eq_true rfl) dX10_move_23 rfl (Nat.zero_le _) (Nat.zero_le _) ?_
    refine g_ret hC dX10_move_26 rfl ?_
    first | exact ⟨by unfold mmv; rw [cI_f (fun z => c10 z.1)], by unfold mmv; rw [cI_f (fun z => c10 z.1)]⟩ | exact ⟨by unfold mmv; rw [cI_f (fun z => c18 z.2)], by unfold mmv; rw [cI_f (fun z => c18 z.2)]⟩
  · skip
    refine g_aload_n (pc' := 14) (j := 0) hC dX10_move_13 rfl rfl rfl ?_
    refine g_iload_n (pc' := 15) (j := 2) hC dX10_move_14 rfl rfl rfl ?_
    refine f_Vi (pc' := 18) (k := 15) (st := []) hC (m_isBranch x.2.1 g z0 (uv σ 15 0 (nI 0)) b) k_X10_isBranch wM_X10_82 (by decide) (by decide) (ct_15 g (uv σ 15 0 (nI 0))) rfl rfl rfl rfl (Nat.le_of_ble_eq_true rfl) dX10_move_15 rfl (Nat.zero_le _) (Nat.zero_le _) ?_
    refine gg_topi (b := bI (vlt (σ.1 15 4) b)) (by simp (disch := decide) only [mh_uv, mh_ur, mcomp_uv, rd_uv, rd_ur, uv_cell, ur_cell, uv_idx, uv_fun, rd_idx, ne_eq, not_false_eq_true]) ?_
    refine b_if_ne (pc' := 21) (tgt := 27) hC dX10_move_18 (by decide) rfl (fun c18 => ?_) (fun c18 => ?_)
    · skip
      obtain ⟨hcN, hcL, hcM⟩ := hM.cl c10
      refine gg_lve (lv' := [(0, .ref (g.2.1 15)), (1, .int (nI (cn c))), (2, .int b)]) (by rw [← hcN]) ?_
      refine g_aload_n (pc' := 28) (j := 0) hC dX10_move_27 rfl rfl rfl ?_
      refine gf_X10_13 (pc' := 31) hC wF_X10_31 dX10_move_28 rfl ?_
      refine g_iload_n (pc' := 32) (j := 1) hC dX10_move_31 rfl rfl rfl ?_
      refine a_ld (pc' := 33) (k := 23) (i := cn c) hC (by decide) (ct_23 g (uv σ 15 0 (nI 0))) (by omega) (by decide) dX10_move_32 rfl ?_
      refine gg_topi (b := σ.1 23 (cn c)) (uv_cell _ _ _ _ (by decide)) ?_
      refine g_istore_n (pc' := 34) (lv' := [(3, .int (σ.1 23 (cn c))), (0, .ref (g.2.1 15)), (1, .int (nI (cn c))), (2, .int b)]) hC dX10_move_33 rfl rfl (by decide) rfl ?_
      refine g_aload_n (pc' := 35) (j := 1) hC dX10_move_34 rfl rfl rfl ?_
      refine gf_X10_13 (pc' := 38) hC wF_X10_31 dX10_move_35 rfl ?_
      refine g_iload_n (pc' := 39) (j := 2) hC dX10_move_38 rfl rfl rfl ?_
      refine g_iload_n (pc' := 40) (j := 3) hC dX10_move_39 rfl rfl rfl ?_
      refine a_st (pc' := 41) (k := 23) (i := cn c) hC (by decide) (fun σ9 => (ct_23 g σ9)) (by omega) (by decide) dX10_move_40 rfl ?_
      refine g_iload_n (pc' := 42) (j := 0) hC dX10_move_41 rfl rfl rfl ?_
      refine g_ret hC dX10_move_42 rfl ?_
      exact ⟨by unfold mmv; rw [cI_t (⟨c10, c18⟩)], by unfold mmv; rw [cI_t (⟨c10, c18⟩)]⟩
    · skip
      refine g_aload_n (pc' := 22) (j := 0) hC dX10_move_21 rfl rfl rfl ?_
      refine g_iconst (pc' := 23) (v := nI 1) hC dX10_move_22 rfl rfl ?_
      refine f_Vi (pc' := 26) (k := 15) (st := []) hC (m_refuse x.2.1 g z0 (uv σ 15 0 (nI 0)) ((nI 1))) k_X10_refuse wM_X10_171 (by decide) (by decide) (ct_15 g (uv σ 15 0 (nI 0))) rfl rfl rfl rfl (Nat.le_of_ble_eq_true rfl) dX10_move_23 rfl (Nat.zero_le _) (Nat.zero_le _) ?_
      refine g_ret hC dX10_move_26 rfl ?_
      first | exact ⟨by unfold mmv; rw [cI_f (fun z => c10 z.1)], by unfold mmv; rw [cI_f (fun z => c10 z.1)]⟩ | exact ⟨by unfold mmv; rw [cI_f (fun z => c18 z.2)], by unfold mmv; rw [cI_f (fun z => c18 z.2)]⟩
set_option maxHeartbeats 4000000 in
set_option maxRecDepth 20000 in
theorem m_rewind (l : Launch) (g : Lay) (z0 : Nat) (σ : St) (b : Int32) (n : Int32) (hM : MI σ)  : CTi l yX10_rewind cX10_rewind 3 (some .int) 2 g z0 [.ref (g.2.1 15), .int b, .int n] σ (FI ((mrw σ b n).1) ((mrw σ b n).2)) := by
  refine CTi.of (by decide) (Nat.le_of_ble_eq_true rfl) ?_
  intro x hxl hxa hC
  have hC : Cx x RX10 cX10_rewind 3 (some .int) 2 g z0 := hC
  show GG x g z0 3 0 0 (Qi x g z0 (FI ((mrw σ b n).1) ((mrw σ b n).2))) σ 0 [(0, .ref (g.2.1 15)), (1, .int b), (2, .int n)] []
  refine g_aload_n (pc' := 1) (j := 0) hC dX10_rewind_0 rfl rfl rfl ?_
  refine g_iconst (pc' := 2) (v := nI 0) hC dX10_rewind_1 rfl rfl ?_
  refine pf_X10_0 (pc' := 5) hC wF_X10_66 dX10_rewind_2 rfl ?_
  refine g_aload_n (pc' := 6) (j := 0) hC dX10_rewind_5 rfl rfl rfl ?_
  refine g_iload_n (pc' := 7) (j := 1) hC dX10_rewind_6 rfl rfl rfl ?_
  refine f_Vi (pc' := 10) (k := 15) (st := []) hC (m_isBranch x.2.1 g z0 (uv σ 15 0 (nI 0)) b) k_X10_isBranch wM_X10_82 (by decide) (by decide) (ct_15 g (uv σ 15 0 (nI 0))) rfl rfl rfl rfl (Nat.le_of_ble_eq_true rfl) dX10_rewind_7 rfl (Nat.zero_le _) (Nat.zero_le _) ?_
  refine gg_topi (b := bI (vlt (σ.1 15 4) b)) (by simp (disch := decide) only [mh_uv, mh_ur, mcomp_uv, rd_uv, rd_ur, uv_cell, ur_cell, uv_idx, uv_fun, rd_idx, ne_eq, not_false_eq_true]) ?_
  refine b_if_ne (pc' := 13) (tgt := 19) hC dX10_rewind_10 (by decide) rfl (fun c10 => ?_) (fun c10 => ?_)
  · skip
    obtain ⟨hbN, hbL, hbM⟩ := hM.br c10
    refine gg_lve (lv' := [(0, .ref (g.2.1 15)), (1, .int (nI (cn b))), (2, .int n)]) (by rw [← hbN]) ?_
    refine g_iload_n (pc' := 20) (j := 2) hC dX10_rewind_19 rfl rfl rfl ?_
    refine g_iconst (pc' := 21) (v := nI 1) hC dX10_rewind_20 rfl rfl ?_
    refine g_aload_n (pc' := 22) (j := 0) hC dX10_rewind_21 rfl rfl rfl ?_
    refine gf_X10_6 (pc' := 25) hC wF_X10_7 dX10_rewind_22 rfl ?_
    refine g_iload_n (pc' := 26) (j := 1) hC dX10_rewind_25 rfl rfl rfl ?_
    refine a_ld (pc' := 27) (k := 16) (i := cn b) hC (by decide) (ct_16 g (uv σ 15 0 (nI 0))) (by omega) (by decide) dX10_rewind_26 rfl ?_
    refine gg_topi (b := σ.1 16 (cn b)) (uv_cell _ _ _ _ (by decide)) ?_
    refine f_Si (pc' := 30) (st := []) hC (m_in x.2.1 g z0 (uv σ 15 0 (nI 0)) n ((nI 1)) ((σ.1 16 (cn b)))) k_X10_in wM_X10_72 (by decide) rfl rfl (Nat.le_of_ble_eq_true rfl) dX10_rewind_27 rfl (Nat.zero_le _) (Nat.zero_le _) ?_
    refine b_if_ne (pc' := 33) (tgt := 39) hC dX10_rewind_30 (by decide) rfl (fun c30 => ?_) (fun c30 => ?_)
    · skip
      refine g_aload_n (pc' := 40) (j := 0) hC dX10_rewind_39 rfl rfl rfl ?_
      refine gf_X10_6 (pc' := 43) hC wF_X10_7 dX10_rewind_40 rfl ?_
      refine g_iload_n (pc' := 44) (j := 1) hC dX10_rewind_43 rfl rfl rfl ?_
      refine g_aload_n (pc' := 45) (j := 0) hC dX10_rewind_44 rfl rfl rfl ?_
      refine gf_X10_6 (pc' := 48) hC wF_X10_7 dX10_rewind_45 rfl ?_
      refine g_iload_n (pc' := 49) (j := 1) hC dX10_rewind_48 rfl rfl rfl ?_
      refine a_ld (pc' := 50) (k := 16) (i := cn b) hC (by decide) (ct_16 g (uv σ 15 0 (nI 0))) (by omega) (by decide) dX10_rewind_49 rfl ?_
      refine gg_topi (b := σ.1 16 (cn b)) (uv_cell _ _ _ _ (by decide)) ?_
      refine g_iload_n (pc' := 51) (j := 2) hC dX10_rewind_50 rfl rfl rfl ?_
      refine g_isub (pc' := 52) hC dX10_rewind_51 rfl ?_
      refine a_st (pc' := 53) (k := 16) (i := cn b) hC (by decide) (fun σ9 => (ct_16 g σ9)) (by omega) (by decide) dX10_rewind_52 rfl ?_
      refine g_aload_n (pc' := 54) (j := 0) hC dX10_rewind_53 rfl rfl rfl ?_
      refine gf_X10_6 (pc' := 57) hC wF_X10_7 dX10_rewind_54 rfl ?_
      refine g_iload_n (pc' := 58) (j := 1) hC dX10_rewind_57 rfl rfl rfl ?_
      refine a_ld (pc' := 59) (k := 16) (i := cn b) hC (by decide) (ct_16 g (uv (uv σ 15 0 (nI 0)) 16 (cn b) ((σ.1 16 (cn b)) - n))) (by omega) (by decide) dX10_rewind_58 rfl ?_
      refine gg_topi (b := (σ.1 16 (cn b)) - n) (uv_same _ _ _ _) ?_
      refine g_ret hC dX10_rewind_59 rfl ?_
      exact ⟨by unfold mrw; rw [cI_t (c10), cI_t (c30)], by unfold mrw; rw [cI_t (c10), cI_t (c30)]⟩
    · skip
      refine g_aload_n (pc' := 34) (j := 0) hC dX10_rewind_33 rfl rfl rfl ?_
      refine g_iconst (pc' := 35) (v := nI 2) hC dX10_rewind_34 rfl rfl ?_
      refine f_Vi (pc' := 38) (k := 15) (st := []) hC (m_refuse x.2.1 g z0 (uv σ 15 0 (nI 0)) ((nI 2))) k_X10_refuse wM_X10_171 (by decide) (by decide) (ct_15 g (uv σ 15 0 (nI 0))) rfl rfl rfl rfl (Nat.le_of_ble_eq_true rfl) dX10_rewind_35 rfl (Nat.zero_le _) (Nat.zero_le _) ?_
      refine g_ret hC dX10_rewind_38 rfl ?_
      exact ⟨by unfold mrw; rw [cI_t (c10), cI_f (c30)], by unfold mrw; rw [cI_t (c10), cI_f (c30)]⟩
  · skip
    refine g_aload_n (pc' := 14) (j := 0) hC dX10_rewind_13 rfl rfl rfl ?_
    refine g_iconst (pc' := 15) (v := nI 1) hC dX10_rewind_14 rfl rfl ?_
    refine f_Vi (pc' := 18) (k := 15) (st := []) hC (m_refuse x.2.1 g z0 (uv σ 15 0 (nI 0)) ((nI 1))) k_X10_refuse wM_X10_171 (by decide) (by decide) (ct_15 g (uv σ 15 0 (nI 0))) rfl rfl rfl rfl (Nat.le_of_ble_eq_true rfl) dX10_rewind_15 rfl (Nat.zero_le _) (Nat.zero_le _) ?_
    refine g_ret hC dX10_rewind_18 rfl ?_
    exact ⟨by unfold mrw; rw [cI_f (c10)], by unfold mrw; rw [cI_f (c10)]⟩
set_option maxHeartbeats 4000000 in
set_option maxRecDepth 20000 in
theorem m_isEntry (l : Launch) (g : Lay) (z0 : Nat) (σ : St) (b : Int32) (n : Int32) (hM : MI σ)  : CTi l yX10_isEntry cX10_isEntry 3 (some .boolean) 2 g z0 [.ref (g.2.1 15), .int b, .int n] σ (FI (bI (mex σ b n)) σ) := by
  refine CTi.of (by decide) (Nat.le_of_ble_eq_true rfl) ?_
  intro x hxl hxa hC
  have hC : Cx x RX10 cX10_isEntry 3 (some .boolean) 2 g z0 := hC
  show GG x g z0 3 0 0 (Qi x g z0 (FI (bI (mex σ b n)) σ)) σ 0 [(0, .ref (g.2.1 15)), (1, .int b), (2, .int n)] []
  refine g_aload_n (pc' := 1) (j := 0) hC dX10_isEntry_0 rfl rfl rfl ?_
  refine g_iload_n (pc' := 2) (j := 1) hC dX10_isEntry_1 rfl rfl rfl ?_
  refine f_Vi (pc' := 5) (k := 15) (st := []) hC (m_isBranch x.2.1 g z0 σ b) k_X10_isBranch wM_X10_82 (by decide) (by decide) (ct_15 g σ) rfl rfl rfl rfl (Nat.le_of_ble_eq_true rfl) dX10_isEntry_2 rfl (Nat.zero_le _) (Nat.zero_le _) ?_
  refine b_if_eq (pc' := 8) (tgt := 26) hC dX10_isEntry_5 (by decide) rfl (fun c5 => ?_) (fun c5 => ?_)
  · skip
    refine g_iconst (pc' := 27) (v := nI 0) hC dX10_isEntry_26 rfl rfl ?_
    refine g_ret hC dX10_isEntry_27 rfl ?_
    refine ⟨?_, rfl⟩; first | exact (bI_t ⟨c5, c19⟩).symm | exact (bI_f (fun z => c5 z.1)).symm | exact (bI_f (fun z => c19 z.2)).symm
  · skip
    obtain ⟨hbN, hbL, hbM⟩ := hM.br c5
    refine gg_lve (lv' := [(0, .ref (g.2.1 15)), (1, .int (nI (cn b))), (2, .int n)]) (by rw [← hbN]) ?_
    refine g_iload_n (pc' := 9) (j := 2) hC dX10_isEntry_8 rfl rfl rfl ?_
    refine g_iconst (pc' := 10) (v := nI 1) hC dX10_isEntry_9 rfl rfl ?_
    refine g_aload_n (pc' := 11) (j := 0) hC dX10_isEntry_10 rfl rfl rfl ?_
    refine gf_X10_6 (pc' := 14) hC wF_X10_7 dX10_isEntry_11 rfl ?_
    refine g_iload_n (pc' := 15) (j := 1) hC dX10_isEntry_14 rfl rfl rfl ?_
    refine a_ld (pc' := 16) (k := 16) (i := cn b) hC (by decide) (ct_16 g σ) (by omega) (by decide) dX10_isEntry_15 rfl ?_
    refine f_Si (pc' := 19) (st := []) hC (m_in x.2.1 g z0 σ n ((nI 1)) ((σ.1 16 (cn b)))) k_X10_in wM_X10_72 (by decide) rfl rfl (Nat.le_of_ble_eq_true rfl) dX10_isEntry_16 rfl (Nat.zero_le _) (Nat.zero_le _) ?_
    refine b_if_eq (pc' := 22) (tgt := 26) hC dX10_isEntry_19 (by decide) rfl (fun c19 => ?_) (fun c19 => ?_)
    · skip
      refine g_iconst (pc' := 27) (v := nI 0) hC dX10_isEntry_26 rfl rfl ?_
      refine g_ret hC dX10_isEntry_27 rfl ?_
      refine ⟨?_, rfl⟩; first | exact (bI_t ⟨c5, c19⟩).symm | exact (bI_f (fun z => c5 z.1)).symm | exact (bI_f (fun z => c19 z.2)).symm
    · skip
      refine g_iconst (pc' := 23) (v := nI 1) hC dX10_isEntry_22 rfl rfl ?_
      refine g_goto (tgt := 27) hC dX10_isEntry_23 (by decide) ?_
      refine g_ret hC dX10_isEntry_27 rfl ?_
      refine ⟨?_, rfl⟩; first | exact (bI_t ⟨c5, c19⟩).symm | exact (bI_f (fun z => c5 z.1)).symm | exact (bI_f (fun z => c19 z.2)).symm
