set_option maxHeartbeats 4000000 in
set_option maxRecDepth 20000 in
theorem c_hasClient (l : Launch) (g : Lay) (z0 : Nat) (σ : St) (i : Int32) (hn : nb σ 8 4 6)  : CTi l yX6_hasClient cX6_hasClient 2 (some .boolean) 0 g z0 [.ref (g.2.1 8), .int i] σ (FI (bI (vl2 (nI (rd σ 8 4)) i)) σ) := by
  refine CTi.of (by decide) (Nat.le_of_ble_eq_true rfl) ?_
  intro x hxl hxa hC
  have hC : Cx x RX6 cX6_hasClient 2 (some .boolean) 0 g z0 := hC
  show GG x g z0 2 0 0 (Qi x g z0 (FI (bI (vl2 (nI (rd σ 8 4)) i)) σ)) σ 0 [(0, .ref (g.2.1 8)), (1, .int i)] []
  refine g_iload_n (pc' := 1) (j := 1) hC dX6_hasClient_0 rfl rfl rfl ?_
  refine g_if_lt (pc' := 4) (tgt := 16) hC dX6_hasClient_1 (by decide) rfl (fun c1 => ?_) (fun c1 => ?_)
  · skip
    refine g_iconst (pc' := 17) (v := nI 0) hC dX6_hasClient_16 rfl rfl ?_
    refine g_ret hC dX6_hasClient_17 rfl ?_
    exact ⟨(bI_f (fun z => z.1 c1)).symm, rfl⟩
  · skip
    refine g_iload_n (pc' := 5) (j := 1) hC dX6_hasClient_4 rfl rfl rfl ?_
    refine g_aload_n (pc' := 6) (j := 0) hC dX6_hasClient_5 rfl rfl rfl ?_
    refine gf_X6_4 (pc' := 9) hC wF_X6_44 dX6_hasClient_6 rfl ?_
    refine gg_topi (b := nI (rd σ 8 4)) (hn.1) ?_
    refine g_icmp_ge (pc' := 12) (tgt := 16) hC dX6_hasClient_9 (by decide) rfl (fun c9 => ?_) (fun c9 => ?_)
    · skip
      refine g_iconst (pc' := 17) (v := nI 0) hC dX6_hasClient_16 rfl rfl ?_
      refine g_ret hC dX6_hasClient_17 rfl ?_
      exact ⟨(bI_f (fun z => z.2 c9)).symm, rfl⟩
    · skip
      refine g_iconst (pc' := 13) (v := nI 1) hC dX6_hasClient_12 rfl rfl ?_
      refine g_goto (tgt := 17) hC dX6_hasClient_13 (by decide) ?_
      refine g_ret hC dX6_hasClient_17 rfl ?_
      exact ⟨(bI_t (⟨c1, c9⟩)).symm, rfl⟩
set_option maxHeartbeats 4000000 in
set_option maxRecDepth 20000 in
theorem c_hasBlock (l : Launch) (g : Lay) (z0 : Nat) (σ : St) (i : Int32) (hn : nb σ 8 5 16)  : CTi l yX6_hasBlock cX6_hasBlock 2 (some .boolean) 0 g z0 [.ref (g.2.1 8), .int i] σ (FI (bI (vl2 (nI (rd σ 8 5)) i)) σ) := by
  refine CTi.of (by decide) (Nat.le_of_ble_eq_true rfl) ?_
  intro x hxl hxa hC
  have hC : Cx x RX6 cX6_hasBlock 2 (some .boolean) 0 g z0 := hC
  show GG x g z0 2 0 0 (Qi x g z0 (FI (bI (vl2 (nI (rd σ 8 5)) i)) σ)) σ 0 [(0, .ref (g.2.1 8)), (1, .int i)] []
  refine g_iload_n (pc' := 1) (j := 1) hC dX6_hasBlock_0 rfl rfl rfl ?_
  refine g_if_lt (pc' := 4) (tgt := 16) hC dX6_hasBlock_1 (by decide) rfl (fun c1 => ?_) (fun c1 => ?_)
  · skip
    refine g_iconst (pc' := 17) (v := nI 0) hC dX6_hasBlock_16 rfl rfl ?_
    refine g_ret hC dX6_hasBlock_17 rfl ?_
    exact ⟨(bI_f (fun z => z.1 c1)).symm, rfl⟩
  · skip
    refine g_iload_n (pc' := 5) (j := 1) hC dX6_hasBlock_4 rfl rfl rfl ?_
    refine g_aload_n (pc' := 6) (j := 0) hC dX6_hasBlock_5 rfl rfl rfl ?_
    refine gf_X6_5 (pc' := 9) hC wF_X6_47 dX6_hasBlock_6 rfl ?_
    refine gg_topi (b := nI (rd σ 8 5)) (hn.1) ?_
    refine g_icmp_ge (pc' := 12) (tgt := 16) hC dX6_hasBlock_9 (by decide) rfl (fun c9 => ?_) (fun c9 => ?_)
    · skip
      refine g_iconst (pc' := 17) (v := nI 0) hC dX6_hasBlock_16 rfl rfl ?_
      refine g_ret hC dX6_hasBlock_17 rfl ?_
      exact ⟨(bI_f (fun z => z.2 c9)).symm, rfl⟩
    · skip
      refine g_iconst (pc' := 13) (v := nI 1) hC dX6_hasBlock_12 rfl rfl ?_
      refine g_goto (tgt := 17) hC dX6_hasBlock_13 (by decide) ?_
      refine g_ret hC dX6_hasBlock_17 rfl ?_
      exact ⟨(bI_t (⟨c1, c9⟩)).symm, rfl⟩
set_option maxHeartbeats 4000000 in
set_option maxRecDepth 20000 in
theorem c_hasBranch (l : Launch) (g : Lay) (z0 : Nat) (σ : St) (i : Int32) (hn : nb σ 8 6 8)  : CTi l yX6_hasBranch cX6_hasBranch 2 (some .boolean) 0 g z0 [.ref (g.2.1 8), .int i] σ (FI (bI (vl2 (nI (rd σ 8 6)) i)) σ) := by
  refine CTi.of (by decide) (Nat.le_of_ble_eq_true rfl) ?_
  intro x hxl hxa hC
  have hC : Cx x RX6 cX6_hasBranch 2 (some .boolean) 0 g z0 := hC
  show GG x g z0 2 0 0 (Qi x g z0 (FI (bI (vl2 (nI (rd σ 8 6)) i)) σ)) σ 0 [(0, .ref (g.2.1 8)), (1, .int i)] []
  refine g_iload_n (pc' := 1) (j := 1) hC dX6_hasBranch_0 rfl rfl rfl ?_
  refine g_if_lt (pc' := 4) (tgt := 16) hC dX6_hasBranch_1 (by decide) rfl (fun c1 => ?_) (fun c1 => ?_)
  · skip
    refine g_iconst (pc' := 17) (v := nI 0) hC dX6_hasBranch_16 rfl rfl ?_
    refine g_ret hC dX6_hasBranch_17 rfl ?_
    exact ⟨(bI_f (fun z => z.1 c1)).symm, rfl⟩
  · skip
    refine g_iload_n (pc' := 5) (j := 1) hC dX6_hasBranch_4 rfl rfl rfl ?_
    refine g_aload_n (pc' := 6) (j := 0) hC dX6_hasBranch_5 rfl rfl rfl ?_
    refine gf_X6_6 (pc' := 9) hC wF_X6_50 dX6_hasBranch_6 rfl ?_
    refine gg_topi (b := nI (rd σ 8 6)) (hn.1) ?_
    refine g_icmp_ge (pc' := 12) (tgt := 16) hC dX6_hasBranch_9 (by decide) rfl (fun c9 => ?_) (fun c9 => ?_)
    · skip
      refine g_iconst (pc' := 17) (v := nI 0) hC dX6_hasBranch_16 rfl rfl ?_
      refine g_ret hC dX6_hasBranch_17 rfl ?_
      exact ⟨(bI_f (fun z => z.2 c9)).symm, rfl⟩
    · skip
      refine g_iconst (pc' := 13) (v := nI 1) hC dX6_hasBranch_12 rfl rfl ?_
      refine g_goto (tgt := 17) hC dX6_hasBranch_13 (by decide) ?_
      refine g_ret hC dX6_hasBranch_17 rfl ?_
      exact ⟨(bI_t (⟨c1, c9⟩)).symm, rfl⟩
set_option maxHeartbeats 4000000 in
set_option maxRecDepth 20000 in
theorem c_addBlame (l : Launch) (g : Lay) (z0 : Nat) (σ : St) (kd : Int32) (ua : Int32) (ub : Int32) (n : Int32) (f : Int32) (s : Int32) (hr : nb σ 11 3 60)  : CTv l yX6_addBlame cX6_addBlame 8 2 g z0 [.ref (g.2.1 8), .int kd, .int ua, .int ub, .int n, .int f, .int s] σ (FV (cbl σ kd ua ub n f s)) := by
  refine CTv.of (by decide) (Nat.le_of_ble_eq_true rfl) ?_
  intro x hxl hxa hC
  have hC : Cx x RX6 cX6_addBlame 8 none 2 g z0 := hC
  have hcr := crn_lt (σ := σ) (k := 11) (lim := 60) (by decide)
  show GG x g z0 8 0 0 (Qv x g z0 (FV (cbl σ kd ua ub n f s))) σ 0 [(0, .ref (g.2.1 8)), (1, .int kd), (2, .int ua), (3, .int ub), (4, .int n), (5, .int f), (6, .int s)] []
  refine g_aload_n (pc' := 1) (j := 0) hC dX6_addBlame_0 rfl rfl rfl ?_
  refine gf_X6_2 (pc' := 4) hC wF_X6_28 dX6_addBlame_1 rfl ?_
  refine f_Vi (pc' := 7) (k := 11) (st := []) hC (c_addRowa x.2.1 g z0 σ (by first | exact hr | (simp (disch := decide) only [nb, rd_uv, rd_ur, uv_cell, ur_cell]; exact hr) | omega)) k_X4_addRow wM_X6_154 (by decide) (by decide) (ct_11 g σ) rfl rfl rfl rfl (Nat.le_of_ble_eq_true rfl) dX6_addBlame_4 rfl (Nat.zero_le _) (Nat.zero_le _) ?_
  refine g_istore (pc' := 9) (lv' := [(7, .int (nI (crn σ 11 60))), (0, .ref (g.2.1 8)), (1, .int kd), (2, .int ua), (3, .int ub), (4, .int n), (5, .int f), (6, .int s)]) hC dX6_addBlame_7 rfl (by decide) rfl ?_
  refine g_aload_n (pc' := 10) (j := 1) hC dX6_addBlame_9 rfl rfl rfl ?_
  refine gf_X6_2 (pc' := 13) hC wF_X6_28 dX6_addBlame_10 rfl ?_
  refine g_iload (pc' := 15) (j := 0) hC dX6_addBlame_13 rfl rfl ?_
  refine g_iconst (pc' := 16) (v := nI 0) hC dX6_addBlame_15 rfl rfl ?_
  refine g_iload_n (pc' := 17) (j := 2) hC dX6_addBlame_16 rfl rfl rfl ?_
  refine f_Vv (pc' := 20) (k := 11) (st := []) hC (c_setParta x.2.1 g z0 (cr0 σ 11 60 6) ((crn σ 11 60)) 0 kd (by omega) (by omega)) k_X4_setPart wM_X6_157 (by decide) (by decide) (ct_11 g (cr0 σ 11 60 6)) rfl rfl rfl rfl (Nat.le_of_ble_eq_true rfl) dX6_addBlame_17 rfl (Nat.zero_le _) (Nat.zero_le _) ?_
  refine g_aload_n (pc' := 21) (j := 1) hC dX6_addBlame_20 rfl rfl rfl ?_
  refine gf_X6_2 (pc' := 24) hC wF_X6_28 dX6_addBlame_21 rfl ?_
  refine g_iload (pc' := 26) (j := 0) hC dX6_addBlame_24 rfl rfl ?_
  refine g_iconst (pc' := 27) (v := nI 1) hC dX6_addBlame_26 rfl rfl ?_
  refine g_iload_n (pc' := 28) (j := 3) hC dX6_addBlame_27 rfl rfl rfl ?_
  refine f_Vv (pc' := 31) (k := 11) (st := []) hC (c_setParta x.2.1 g z0 (uv (cr0 σ 11 60 6) 12 ((crn σ 11 60) * 6 + 0) kd) ((crn σ 11 60)) 1 ua (by omega) (by omega)) k_X4_setPart wM_X6_157 (by decide) (by decide) (ct_11 g (uv (cr0 σ 11 60 6) 12 ((crn σ 11 60) * 6 + 0) kd)) rfl rfl rfl rfl (Nat.le_of_ble_eq_true rfl) dX6_addBlame_28 rfl (Nat.zero_le _) (Nat.zero_le _) ?_
  refine g_aload_n (pc' := 32) (j := 1) hC dX6_addBlame_31 rfl rfl rfl ?_
  refine gf_X6_2 (pc' := 35) hC wF_X6_28 dX6_addBlame_32 rfl ?_
  refine g_iload (pc' := 37) (j := 0) hC dX6_addBlame_35 rfl rfl ?_
  refine g_iconst (pc' := 38) (v := nI 2) hC dX6_addBlame_37 rfl rfl ?_
  refine g_iload_n (pc' := 39) (j := 4) hC dX6_addBlame_38 rfl rfl rfl ?_
  refine f_Vv (pc' := 42) (k := 11) (st := []) hC (c_setParta x.2.1 g z0 (uv (uv (cr0 σ 11 60 6) 12 ((crn σ 11 60) * 6 + 0) kd) 12 ((crn σ 11 60) * 6 + 1) ua) ((crn σ 11 60)) 2 ub (by omega) (by omega)) k_X4_setPart wM_X6_157 (by decide) (by decide) (ct_11 g (uv (uv (cr0 σ 11 60 6) 12 ((crn σ 11 60) * 6 + 0) kd) 12 ((crn σ 11 60) * 6 + 1) ua)) rfl rfl rfl rfl (Nat.le_of_ble_eq_true rfl) dX6_addBlame_39 rfl (Nat.zero_le _) (Nat.zero_le _) ?_
  refine g_aload_n (pc' := 43) (j := 1) hC dX6_addBlame_42 rfl rfl rfl ?_
  refine gf_X6_2 (pc' := 46) hC wF_X6_28 dX6_addBlame_43 rfl ?_
  refine g_iload (pc' := 48) (j := 0) hC dX6_addBlame_46 rfl rfl ?_
  refine g_iconst (pc' := 49) (v := nI 3) hC dX6_addBlame_48 rfl rfl ?_
  refine g_iload (pc' := 51) (j := 5) hC dX6_addBlame_49 rfl rfl ?_
  refine f_Vv (pc' := 54) (k := 11) (st := []) hC (c_setParta x.2.1 g z0 (uv (uv (uv (cr0 σ 11 60 6) 12 ((crn σ 11 60) * 6 + 0) kd) 12 ((crn σ 11 60) * 6 + 1) ua) 12 ((crn σ 11 60) * 6 + 2) ub) ((crn σ 11 60)) 3 n (by omega) (by omega)) k_X4_setPart wM_X6_157 (by decide) (by decide) (ct_11 g (uv (uv (uv (cr0 σ 11 60 6) 12 ((crn σ 11 60) * 6 + 0) kd) 12 ((crn σ 11 60) * 6 + 1) ua) 12 ((crn σ 11 60) * 6 + 2) ub)) rfl rfl rfl rfl (Nat.le_of_ble_eq_true rfl) dX6_addBlame_51 rfl (Nat.zero_le _) (Nat.zero_le _) ?_
  refine g_aload_n (pc' := 55) (j := 1) hC dX6_addBlame_54 rfl rfl rfl ?_
  refine gf_X6_2 (pc' := 58) hC wF_X6_28 dX6_addBlame_55 rfl ?_
  refine g_iload (pc' := 60) (j := 0) hC dX6_addBlame_58 rfl rfl ?_
  refine g_iconst (pc' := 61) (v := nI 4) hC dX6_addBlame_60 rfl rfl ?_
  refine g_iload (pc' := 63) (j := 6) hC dX6_addBlame_61 rfl rfl ?_
  refine f_Vv (pc' := 66) (k := 11) (st := []) hC (c_setParta x.2.1 g z0 (uv (uv (uv (uv (cr0 σ 11 60 6) 12 ((crn σ 11 60) * 6 + 0) kd) 12 ((crn σ 11 60) * 6 + 1) ua) 12 ((crn σ 11 60) * 6 + 2) ub) 12 ((crn σ 11 60) * 6 + 3) n) ((crn σ 11 60)) 4 f (by omega) (by omega)) k_X4_setPart wM_X6_157 (by decide) (by decide) (ct_11 g (uv (uv (uv (uv (cr0 σ 11 60 6) 12 ((crn σ 11 60) * 6 + 0) kd) 12 ((crn σ 11 60) * 6 + 1) ua) 12 ((crn σ 11 60) * 6 + 2) ub) 12 ((crn σ 11 60) * 6 + 3) n)) rfl rfl rfl rfl (Nat.le_of_ble_eq_true rfl) dX6_addBlame_63 rfl (Nat.zero_le _) (Nat.zero_le _) ?_
  refine g_aload_n (pc' := 67) (j := 1) hC dX6_addBlame_66 rfl rfl rfl ?_
  refine gf_X6_2 (pc' := 70) hC wF_X6_28 dX6_addBlame_67 rfl ?_
  refine g_iload (pc' := 72) (j := 0) hC dX6_addBlame_70 rfl rfl ?_
  refine g_iconst (pc' := 73) (v := nI 5) hC dX6_addBlame_72 rfl rfl ?_
  refine g_iload (pc' := 75) (j := 7) hC dX6_addBlame_73 rfl rfl ?_
  refine f_Vv (pc' := 78) (k := 11) (st := []) hC (c_setParta x.2.1 g z0 (uv (uv (uv (uv (uv (cr0 σ 11 60 6) 12 ((crn σ 11 60) * 6 + 0) kd) 12 ((crn σ 11 60) * 6 + 1) ua) 12 ((crn σ 11 60) * 6 + 2) ub) 12 ((crn σ 11 60) * 6 + 3) n) 12 ((crn σ 11 60) * 6 + 4) f) ((crn σ 11 60)) 5 s (by omega) (by omega)) k_X4_setPart wM_X6_157 (by decide) (by decide) (ct_11 g (uv (uv (uv (uv (uv (cr0 σ 11 60 6) 12 ((crn σ 11 60) * 6 + 0) kd) 12 ((crn σ 11 60) * 6 + 1) ua) 12 ((crn σ 11 60) * 6 + 2) ub) 12 ((crn σ 11 60) * 6 + 3) n) 12 ((crn σ 11 60) * 6 + 4) f)) rfl rfl rfl rfl (Nat.le_of_ble_eq_true rfl) dX6_addBlame_75 rfl (Nat.zero_le _) (Nat.zero_le _) ?_
  refine g_retv hC dX6_addBlame_78 ?_
  exact rfl
set_option maxHeartbeats 4000000 in
set_option maxRecDepth 20000 in
theorem c_addPost (l : Launch) (g : Lay) (z0 : Nat) (σ : St) (c : Nat) (hc : c < 6) (hp : nb σ (90 + 3 * c) 2 200) (hr : nb σ 13 3 40)  : CTv l yX6_addPost cX6_addPost 7 2 g z0 [.ref (g.2.1 8), .int (nI c)] σ (FV (cps σ c)) := by
  refine CTv.of (by decide) (Nat.le_of_ble_eq_true rfl) ?_
  intro x hxl hxa hC
  have hC : Cx x RX6 cX6_addPost 7 none 2 g z0 := hC
  have hp2 := hp.2
  have hcr := crn_lt (σ := uv σ 8 8 (csl σ c)) (k := 13) (lim := 40) (by decide)
  show GG x g z0 7 0 0 (Qv x g z0 (FV (cps σ c))) σ 0 [(0, .ref (g.2.1 8)), (1, .int (nI c))] []
  refine g_aload_n (pc' := 1) (j := 0) hC dX6_addPost_0 rfl rfl rfl ?_
  refine gf_X6_1 (pc' := 4) hC wF_X6_19 dX6_addPost_1 rfl ?_
  refine g_iload_n (pc' := 5) (j := 1) hC dX6_addPost_4 rfl rfl rfl ?_
  refine a_ldr (pc' := 6) (k := 10) (t := 6) (i := c) hC (by decide) (ct_10 g σ) rfl (by omega) (by decide) dX6_addPost_5 rfl ?_
  refine g_astore_n (pc' := 7) (lv' := [(2, .ref (g.2.1 (90 + 3 * c))), (0, .ref (g.2.1 8)), (1, .int (nI c))]) hC dX6_addPost_6 rfl rfl (by decide) rfl ?_
  refine g_aload_n (pc' := 8) (j := 0) hC dX6_addPost_7 rfl rfl rfl ?_
  refine f_Vi (pc' := 11) (k := 90 + 3 * c) (st := []) hC (c_lastHashC x.2.1 g z0 σ c (by omega) (by first | exact hp | (simp (disch := decide) only [nb, rd_uv, rd_ur, uv_cell, ur_cell]; exact hp) | omega)) k_X2_lastHash wM_X6_132 (by decide) (by have := (by omega : c < 6); show _ < 228; omega) (ct_cl g σ (by omega : c < 6)) rfl rfl rfl rfl (Nat.le_of_ble_eq_true rfl) dX6_addPost_8 rfl (Nat.zero_le _) (Nat.zero_le _) ?_
  refine g_istore_n (pc' := 12) (lv' := [(3, .int (σ.1 (90 + 3 * c + 1) (rd σ (90 + 3 * c) 2))), (2, .ref (g.2.1 (90 + 3 * c))), (0, .ref (g.2.1 8)), (1, .int (nI c))]) hC dX6_addPost_11 rfl rfl (by decide) rfl ?_
  refine g_aload_n (pc' := 13) (j := 2) hC dX6_addPost_12 rfl rfl rfl ?_
  refine gf_X6_8 (pc' := 16) hC wF_X6_39 dX6_addPost_13 rfl ?_
  refine g_i2l (pc' := 17) hC dX6_addPost_16 rfl ?_
  refine g_ldc2 (pc' := 20) (v := 1000003) hC wC_X6_161 dX6_addPost_17 rfl ?_
  refine g_lmul (pc' := 21) hC dX6_addPost_20 rfl ?_
  refine g_iload_n (pc' := 22) (j := 0) hC dX6_addPost_21 rfl rfl rfl ?_
  refine g_i2l (pc' := 23) hC dX6_addPost_22 rfl ?_
  refine g_ldc2 (pc' := 26) (v := 7919) hC wC_X6_163 dX6_addPost_23 rfl ?_
  refine g_lmul (pc' := 27) hC dX6_addPost_26 rfl ?_
  refine g_ladd (pc' := 28) hC dX6_addPost_27 rfl ?_
  refine g_aload_n (pc' := 29) (j := 1) hC dX6_addPost_28 rfl rfl rfl ?_
  refine gf_X2_2 (pc' := 32) (b := c) hC (by omega : c < 6) wF_X6_74 dX6_addPost_29 rfl ?_
  refine gg_topi (b := nI (rd σ (90 + 3 * c) 2)) (hp.1) ?_
  refine g_i2l (pc' := 33) hC dX6_addPost_32 rfl ?_
  refine g_ldc2 (pc' := 36) (v := 17) hC wC_X6_165 dX6_addPost_33 rfl ?_
  refine g_lmul (pc' := 37) hC dX6_addPost_36 rfl ?_
  refine g_ladd (pc' := 38) hC dX6_addPost_37 rfl ?_
  refine g_iload_n (pc' := 39) (j := 3) hC dX6_addPost_38 rfl rfl rfl ?_
  refine g_i2l (pc' := 40) hC dX6_addPost_39 rfl ?_
  refine g_ladd (pc' := 41) hC dX6_addPost_40 rfl ?_
  refine g_lstore (pc' := 43) (lv' := [(4, .long ((((((σ.1 8 8).toInt64) * 1000003) + (((σ.1 (90 + 3 * c + 1) (rd σ (90 + 3 * c) 2)).toInt64) * 7919)) + (((nI (rd σ (90 + 3 * c) 2)).toInt64) * 17)) + ((nI c).toInt64))), (3, .int (σ.1 (90 + 3 * c + 1) (rd σ (90 + 3 * c) 2))), (2, .ref (g.2.1 (90 + 3 * c))), (0, .ref (g.2.1 8)), (1, .int (nI c))]) hC dX6_addPost_41 rfl (by decide) rfl ?_
  refine g_aload_n (pc' := 44) (j := 3) hC dX6_addPost_43 rfl rfl rfl ?_
  refine g_lload (pc' := 46) (j := 0) hC dX6_addPost_44 rfl rfl ?_
  refine g_ldc2 (pc' := 49) (v := 2147483647) hC wC_X6_167 dX6_addPost_46 rfl ?_
  refine g_lrem (pc' := 50) hC dX6_addPost_49 rfl (by decide) ?_
  refine g_l2i (pc' := 51) hC dX6_addPost_50 rfl ?_
  refine pf_X6_8 (pc' := 54) hC wF_X6_39 dX6_addPost_51 rfl ?_
  refine gg_st (σ' := uv σ 8 8 (csl σ c)) rfl ?_
  refine g_aload_n (pc' := 55) (j := 3) hC dX6_addPost_54 rfl rfl rfl ?_
  refine gf_X6_3 (pc' := 58) hC wF_X6_32 dX6_addPost_55 rfl ?_
  refine f_Vi (pc' := 61) (k := 13) (st := []) hC (c_addRowb x.2.1 g z0 (uv σ 8 8 (csl σ c)) (nb_cg (uv_cell _ _ _ _ (by decide)) hr hr.2)) k_X4_addRow wM_X6_154 (by decide) (by decide) (ct_13 g (uv σ 8 8 (csl σ c))) rfl rfl rfl rfl (Nat.le_of_ble_eq_true rfl) dX6_addPost_58 rfl (Nat.zero_le _) (Nat.zero_le _) ?_
  refine g_istore (pc' := 63) (lv' := [(6, .int (nI (crn (uv σ 8 8 (csl σ c)) 13 40))), (4, .long ((((((σ.1 8 8).toInt64) * 1000003) + (((σ.1 (90 + 3 * c + 1) (rd σ (90 + 3 * c) 2)).toInt64) * 7919)) + (((nI (rd σ (90 + 3 * c) 2)).toInt64) * 17)) + ((nI c).toInt64))), (3, .int (σ.1 (90 + 3 * c + 1) (rd σ (90 + 3 * c) 2))), (2, .ref (g.2.1 (90 + 3 * c))), (0, .ref (g.2.1 8)), (1, .int (nI c))]) hC dX6_addPost_61 rfl (by decide) rfl ?_
  refine g_aload_n (pc' := 64) (j := 4) hC dX6_addPost_63 rfl rfl rfl ?_
  refine gf_X6_3 (pc' := 67) hC wF_X6_32 dX6_addPost_64 rfl ?_
  refine g_iload (pc' := 69) (j := 0) hC dX6_addPost_67 rfl rfl ?_
  refine g_iconst (pc' := 70) (v := nI 0) hC dX6_addPost_69 rfl rfl ?_
  refine g_iload_n (pc' := 71) (j := 5) hC dX6_addPost_70 rfl rfl rfl ?_
  refine f_Vv (pc' := 74) (k := 13) (st := []) hC (c_setPartb x.2.1 g z0 (cr0 (uv σ 8 8 (csl σ c)) 13 40 4) ((crn (uv σ 8 8 (csl σ c)) 13 40)) 0 ((nI c)) (by omega) (by omega)) k_X4_setPart wM_X6_157 (by decide) (by decide) (ct_13 g (cr0 (uv σ 8 8 (csl σ c)) 13 40 4)) rfl rfl rfl rfl (Nat.le_of_ble_eq_true rfl) dX6_addPost_71 rfl (Nat.zero_le _) (Nat.zero_le _) ?_
  refine g_aload_n (pc' := 75) (j := 4) hC dX6_addPost_74 rfl rfl rfl ?_
  refine gf_X6_3 (pc' := 78) hC wF_X6_32 dX6_addPost_75 rfl ?_
  refine g_iload (pc' := 80) (j := 0) hC dX6_addPost_78 rfl rfl ?_
  refine g_iconst (pc' := 81) (v := nI 1) hC dX6_addPost_80 rfl rfl ?_
  refine g_aload_n (pc' := 82) (j := 3) hC dX6_addPost_81 rfl rfl rfl ?_
  refine gf_X2_2 (pc' := 85) (b := c) hC (by omega : c < 6) wF_X6_74 dX6_addPost_82 rfl ?_
  refine gg_topi (b := nI (rd σ (90 + 3 * c) 2)) ((uv_cell _ _ _ _ (by omega)).trans ((cr0_o _ _ _ _ _ (by omega) (by omega)).trans ((uv_cell _ _ _ _ (by omega)).trans hp.1))) ?_
  refine f_Vv (pc' := 88) (k := 13) (st := []) hC (c_setPartb x.2.1 g z0 (uv (cr0 (uv σ 8 8 (csl σ c)) 13 40 4) 14 ((crn (uv σ 8 8 (csl σ c)) 13 40) * 4 + 0) ((nI c))) ((crn (uv σ 8 8 (csl σ c)) 13 40)) 1 ((nI (rd σ (90 + 3 * c) 2))) (by omega) (by omega)) k_X4_setPart wM_X6_157 (by decide) (by decide) (ct_13 g (uv (cr0 (uv σ 8 8 (csl σ c)) 13 40 4) 14 ((crn (uv σ 8 8 (csl σ c)) 13 40) * 4 + 0) ((nI c)))) rfl rfl rfl rfl (Nat.le_of_ble_eq_true rfl) dX6_addPost_85 rfl (Nat.zero_le _) (Nat.zero_le _) ?_
  refine g_aload_n (pc' := 89) (j := 4) hC dX6_addPost_88 rfl rfl rfl ?_
  refine gf_X6_3 (pc' := 92) hC wF_X6_32 dX6_addPost_89 rfl ?_
  refine g_iload (pc' := 94) (j := 0) hC dX6_addPost_92 rfl rfl ?_
  refine g_iconst (pc' := 95) (v := nI 2) hC dX6_addPost_94 rfl rfl ?_
  refine g_iload_n (pc' := 96) (j := 2) hC dX6_addPost_95 rfl rfl rfl ?_
  refine f_Vv (pc' := 99) (k := 13) (st := []) hC (c_setPartb x.2.1 g z0 (uv (uv (cr0 (uv σ 8 8 (csl σ c)) 13 40 4) 14 ((crn (uv σ 8 8 (csl σ c)) 13 40) * 4 + 0) ((nI c))) 14 ((crn (uv σ 8 8 (csl σ c)) 13 40) * 4 + 1) ((nI (rd σ (90 + 3 * c) 2)))) ((crn (uv σ 8 8 (csl σ c)) 13 40)) 2 ((σ.1 (90 + 3 * c + 1) (rd σ (90 + 3 * c) 2))) (by omega) (by omega)) k_X4_setPart wM_X6_157 (by decide) (by decide) (ct_13 g (uv (uv (cr0 (uv σ 8 8 (csl σ c)) 13 40 4) 14 ((crn (uv σ 8 8 (csl σ c)) 13 40) * 4 + 0) ((nI c))) 14 ((crn (uv σ 8 8 (csl σ c)) 13 40) * 4 + 1) ((nI (rd σ (90 + 3 * c) 2))))) rfl rfl rfl rfl (Nat.le_of_ble_eq_true rfl) dX6_addPost_96 rfl (Nat.zero_le _) (Nat.zero_le _) ?_
  refine g_aload_n (pc' := 100) (j := 4) hC dX6_addPost_99 rfl rfl rfl ?_
  refine gf_X6_3 (pc' := 103) hC wF_X6_32 dX6_addPost_100 rfl ?_
  refine g_iload (pc' := 105) (j := 0) hC dX6_addPost_103 rfl rfl ?_
  refine g_iconst (pc' := 106) (v := nI 3) hC dX6_addPost_105 rfl rfl ?_
  refine g_aload_n (pc' := 107) (j := 4) hC dX6_addPost_106 rfl rfl rfl ?_
  refine gf_X6_8 (pc' := 110) hC wF_X6_39 dX6_addPost_107 rfl ?_
  refine gg_topi (b := csl σ c) ((uv_cell _ _ _ _ (by decide)).trans ((uv_cell _ _ _ _ (by decide)).trans ((uv_cell _ _ _ _ (by decide)).trans ((cr0_o _ _ _ _ _ (by omega) (by omega)).trans (uv_same _ _ _ _))))) ?_
  refine f_Vv (pc' := 113) (k := 13) (st := []) hC (c_setPartb x.2.1 g z0 (uv (uv (uv (cr0 (uv σ 8 8 (csl σ c)) 13 40 4) 14 ((crn (uv σ 8 8 (csl σ c)) 13 40) * 4 + 0) ((nI c))) 14 ((crn (uv σ 8 8 (csl σ c)) 13 40) * 4 + 1) ((nI (rd σ (90 + 3 * c) 2)))) 14 ((crn (uv σ 8 8 (csl σ c)) 13 40) * 4 + 2) ((σ.1 (90 + 3 * c + 1) (rd σ (90 + 3 * c) 2)))) ((crn (uv σ 8 8 (csl σ c)) 13 40)) 3 ((csl σ c)) (by omega) (by omega)) k_X4_setPart wM_X6_157 (by decide) (by decide) (ct_13 g (uv (uv (uv (cr0 (uv σ 8 8 (csl σ c)) 13 40 4) 14 ((crn (uv σ 8 8 (csl σ c)) 13 40) * 4 + 0) ((nI c))) 14 ((crn (uv σ 8 8 (csl σ c)) 13 40) * 4 + 1) ((nI (rd σ (90 + 3 * c) 2)))) 14 ((crn (uv σ 8 8 (csl σ c)) 13 40) * 4 + 2) ((σ.1 (90 + 3 * c + 1) (rd σ (90 + 3 * c) 2))))) rfl rfl rfl rfl (Nat.le_of_ble_eq_true rfl) dX6_addPost_110 rfl (Nat.zero_le _) (Nat.zero_le _) ?_
  refine g_retv hC dX6_addPost_113 ?_
  exact rfl
set_option maxHeartbeats 4000000 in
set_option maxRecDepth 20000 in
theorem c_beginS (l : Launch) (g : Lay) (z0 : Nat) (σ : St) (ua : Int32) (ub : Int32) (uc : Int32)   : CTv l yX6_begin cX6_begin 5 2 g z0 [.ref (g.2.1 8), .int ua, .int ub, .int uc] σ (FV (csv σ ua ub uc)) := by
  refine CTv.of (by decide) (Nat.le_of_ble_eq_true rfl) ?_
  intro x hxl hxa hC
  have hC : Cx x RX6 cX6_begin 5 none 2 g z0 := hC
  show GG x g z0 5 0 0 (Qv x g z0 (FV (csv σ ua ub uc))) σ 0 [(0, .ref (g.2.1 8)), (1, .int ua), (2, .int ub), (3, .int uc)] []
  refine g_aload_n (pc' := 1) (j := 0) hC dX6_begin_0 rfl rfl rfl ?_
  refine g_iload_n (pc' := 2) (j := 1) hC dX6_begin_1 rfl rfl rfl ?_
  refine pf_X6_4 (pc' := 5) hC wF_X6_44 dX6_begin_2 rfl ?_
  refine g_aload_n (pc' := 6) (j := 0) hC dX6_begin_5 rfl rfl rfl ?_
  refine g_iload_n (pc' := 7) (j := 2) hC dX6_begin_6 rfl rfl rfl ?_
  refine pf_X6_5 (pc' := 10) hC wF_X6_47 dX6_begin_7 rfl ?_
  refine g_aload_n (pc' := 11) (j := 0) hC dX6_begin_10 rfl rfl rfl ?_
  refine g_iload_n (pc' := 12) (j := 3) hC dX6_begin_11 rfl rfl rfl ?_
  refine pf_X6_7 (pc' := 15) hC wF_X6_35 dX6_begin_12 rfl ?_
  refine g_aload_n (pc' := 16) (j := 0) hC dX6_begin_15 rfl rfl rfl ?_
  refine g_iconst (pc' := 17) (v := nI 1) hC dX6_begin_16 rfl rfl ?_
  refine pf_X6_6 (pc' := 20) hC wF_X6_50 dX6_begin_17 rfl ?_
  refine g_aload_n (pc' := 21) (j := 0) hC dX6_begin_20 rfl rfl rfl ?_
  refine gf_X6_0 (pc' := 24) hC wF_X6_11 dX6_begin_21 rfl ?_
  refine g_iconst (pc' := 25) (v := nI 0) hC dX6_begin_24 rfl rfl ?_
  refine a_ldr (pc' := 26) (k := 9) (t := 5) (i := 0) hC (by decide) (ct_9 g (uv (uv (uv (uv σ 8 4 ua) 8 5 ub) 8 7 uc) 8 6 (nI 1))) rfl (by omega) (by decide) dX6_begin_25 rfl ?_
  refine g_iconst (pc' := 27) (v := nI 0) hC dX6_begin_26 rfl rfl ?_
  refine pf_X1_6 (pc' := 30) (b := 0) hC (by omega : 0 < 8) wF_X6_53 dX6_begin_27 rfl ?_
  refine g_iconst (pc' := 31) (v := nI 0) hC dX6_begin_30 rfl rfl ?_
  refine g_istore (pc' := 33) (lv' := [(4, .int (nI 0)), (0, .ref (g.2.1 8)), (1, .int ua), (2, .int ub), (3, .int uc)]) hC dX6_begin_31 rfl (by decide) rfl ?_
  have L33 : ∀ (fu : Nat) (i : Nat), (i ≤ 6) → (6 - i) < fu → GG x g z0 5 0 0 (Qv x g z0 (FV (csv σ ua ub uc))) (cbg (csv0 σ ua ub uc) i) 33 [(4, .int (nI i)), (0, .ref (g.2.1 8)), (1, .int ua), (2, .int ub), (3, .int uc)] [] := by
    intro fu
    induction fu with
    | zero => intro i hi hz; exact absurd hz (Nat.not_lt_zero _)
    | succ fu ih33 =>
      intro i hi hf
      refine g_iload (pc' := 35) (j := 0) hC dX6_begin_33 rfl rfl ?_
      refine g_bipush (pc' := 37) (v := nI 6) hC dX6_begin_35 rfl rfl ?_
      refine n_icmp_ge (pc' := 40) (tgt := 56) hC dX6_begin_37 (by decide) rfl (by omega) (by omega) (fun c37 => ?_) (fun c37 => ?_)
      · skip
        refine g_aload_n (pc' := 57) (j := 1) hC dX6_begin_56 rfl rfl rfl ?_
        refine gf_X6_2 (pc' := 60) hC wF_X6_28 dX6_begin_57 rfl ?_
        refine g_iconst (pc' := 61) (v := nI 0) hC dX6_begin_60 rfl rfl ?_
        refine pf_X4a_3 (pc' := 64) hC wF_X6_59 dX6_begin_61 rfl ?_
        refine g_aload_n (pc' := 65) (j := 1) hC dX6_begin_64 rfl rfl rfl ?_
        refine gf_X6_3 (pc' := 68) hC wF_X6_32 dX6_begin_65 rfl ?_
        refine g_iconst (pc' := 69) (v := nI 0) hC dX6_begin_68 rfl rfl ?_
        refine pf_X4b_3 (pc' := 72) hC wF_X6_59 dX6_begin_69 rfl ?_
        refine g_aload_n (pc' := 73) (j := 1) hC dX6_begin_72 rfl rfl rfl ?_
        refine g_iconst (pc' := 74) (v := nI 1) hC dX6_begin_73 rfl rfl ?_
        refine pf_X6_8 (pc' := 77) hC wF_X6_39 dX6_begin_74 rfl ?_
        refine g_retv hC dX6_begin_77 ?_
        exact by rw [show i = 6 by omega]; exact rfl
      · skip
        refine g_aload_n (pc' := 41) (j := 1) hC dX6_begin_40 rfl rfl rfl ?_
        refine gf_X6_1 (pc' := 44) hC wF_X6_19 dX6_begin_41 rfl ?_
        refine g_iload (pc' := 46) (j := 0) hC dX6_begin_44 rfl rfl ?_
        refine a_ldr (pc' := 47) (k := 10) (t := 6) (i := i) hC (by decide) (ct_10 g (cbg (csv0 σ ua ub uc) i)) rfl (by omega) (by decide) dX6_begin_46 rfl ?_
        refine f_Vv (pc' := 50) (k := 90 + 3 * i) (st := []) hC (c_beginC x.2.1 g z0 (cbg (csv0 σ ua ub uc) i) i (by omega)) k_X2_begin wM_X6_56 (by decide) (by have := (by omega : i < 6); show _ < 228; omega) (ct_cl g (cbg (csv0 σ ua ub uc) i) (by omega : i < 6)) rfl rfl rfl rfl (Nat.le_of_ble_eq_true rfl) dX6_begin_47 rfl (Nat.zero_le _) (Nat.zero_le _) ?_
        refine g_iinc (pc' := 53) (j := 0) (u := nI (i + 1)) (lv' := [(4, .int (nI (i + 1))), (0, .ref (g.2.1 8)), (1, .int ua), (2, .int ub), (3, .int uc)]) hC dX6_begin_50 rfl rfl (nI_add i 1) (by decide) rfl ?_
        refine g_goto (tgt := 33) hC dX6_begin_53 (by decide) ?_
        refine gg_st (σ' := (cbg (csv0 σ ua ub uc) ((i + 1)))) (rfl) ?_
        refine gg_lv (lv' := [(4, .int (nI (i + 1))), (0, .ref (g.2.1 8)), (1, .int ua), (2, .int ub), (3, .int uc)]) ?_ [0, 1, 2, 3, 4] rfl
        exact ih33 ((i + 1)) (by omega) (by omega)
  refine gg_st (σ' := (cbg (csv0 σ ua ub uc) 0)) (rfl) ?_
  refine gg_lv (lv' := [(4, .int (nI 0)), (0, .ref (g.2.1 8)), (1, .int ua), (2, .int ub), (3, .int uc)]) ?_ [0, 1, 2, 3, 4] rfl
  exact L33 (6 - 0 + 1) 0 (by omega) (by omega)
set_option maxHeartbeats 4000000 in
set_option maxRecDepth 20000 in
theorem c_firstRefutedBy (l : Launch) (g : Lay) (z0 : Nat) (σ : St) (b : Nat) (hb : b < 8) (hL : nb σ (34 + 7 * b) 6 200) (hr : nb σ 13 3 40) (hpp : ∀ k, k < 40 → nb σ 14 (k * 4 + 1) 200)  : CTi l yX6_firstRefutedBy cX6_firstRefutedBy 4 (some .int) 1 g z0 [.ref (g.2.1 8), .ref (g.2.1 (34 + 7 * b))] σ (FI (nI (cfr σ b)) σ) := by
  refine CTi.of (by decide) (Nat.le_of_ble_eq_true rfl) ?_
  intro x hxl hxa hC
  have hC : Cx x RX6 cX6_firstRefutedBy 4 (some .int) 1 g z0 := hC
  have hL2 := hL.2
  have hr2 := hr.2
  show GG x g z0 4 0 0 (Qi x g z0 (FI (nI (cfr σ b)) σ)) σ 0 [(0, .ref (g.2.1 8)), (1, .ref (g.2.1 (34 + 7 * b)))] []
  refine g_iconst (pc' := 1) (v := nI 0) hC dX6_firstRefutedBy_0 rfl rfl ?_
  refine g_istore_n (pc' := 2) (lv' := [(2, .int (nI 0)), (0, .ref (g.2.1 8)), (1, .ref (g.2.1 (34 + 7 * b)))]) hC dX6_firstRefutedBy_1 rfl rfl (by decide) rfl ?_
  have L2 : ∀ (fu : Nat) (i : Nat), (i ≤ rd σ 13 3) → (∀ j, j < i → ¬ cwt σ b j) → (rd σ 13 3 - i) < fu → GG x g z0 4 0 0 (Qi x g z0 (FI (nI (cfr σ b)) σ)) σ 2 [(2, .int (nI i)), (0, .ref (g.2.1 8)), (1, .ref (g.2.1 (34 + 7 * b)))] [] := by
    intro fu
    induction fu with
    | zero => intro i hi hj hz; exact absurd hz (Nat.not_lt_zero _)
    | succ fu ih2 =>
      intro i hi hj hf
      have hj0 := hj
      refine g_iload_n (pc' := 3) (j := 0) hC dX6_firstRefutedBy_2 rfl rfl rfl ?_
      refine g_aload_n (pc' := 4) (j := 1) hC dX6_firstRefutedBy_3 rfl rfl rfl ?_
      refine gf_X6_3 (pc' := 7) hC wF_X6_32 dX6_firstRefutedBy_4 rfl ?_
      refine gf_X4b_3 (pc' := 10) hC wF_X6_59 dX6_firstRefutedBy_7 rfl ?_
      refine gg_topi (b := nI (rd σ 13 3)) (hr.1) ?_
      refine n_icmp_ge (pc' := 13) (tgt := 57) hC dX6_firstRefutedBy_10 (by decide) rfl (by omega) (by omega) (fun c10 => ?_) (fun c10 => ?_)
      · skip
        refine g_aload_n (pc' := 58) (j := 1) hC dX6_firstRefutedBy_57 rfl rfl rfl ?_
        refine gf_X6_3 (pc' := 61) hC wF_X6_32 dX6_firstRefutedBy_58 rfl ?_
        refine gf_X4b_3 (pc' := 64) hC wF_X6_59 dX6_firstRefutedBy_61 rfl ?_
        refine gg_topi (b := nI (rd σ 13 3)) (hr.1) ?_
        refine g_ret hC dX6_firstRefutedBy_64 rfl ?_
        exact ⟨congrArg nI (lst_eq (Or.inl (Nat.le_refl _)) (fun j hj z => z.elim (fun q => by omega) (hj0 j (by omega)))).symm, rfl⟩
      · skip
        have hpi := (hpp i (by omega)).2
        refine g_aload_n (pc' := 14) (j := 1) hC dX6_firstRefutedBy_13 rfl rfl rfl ?_
        refine gf_X6_3 (pc' := 17) hC wF_X6_32 dX6_firstRefutedBy_14 rfl ?_
        refine g_iload_n (pc' := 18) (j := 0) hC dX6_firstRefutedBy_17 rfl rfl rfl ?_
        refine g_iconst (pc' := 19) (v := nI 1) hC dX6_firstRefutedBy_18 rfl rfl ?_
        refine f_Vi (pc' := 22) (k := 13) (st := []) hC (c_partOfb x.2.1 g z0 σ i 1 (by omega) (by omega)) k_X4_partOf wM_X6_124 (by decide) (by decide) (ct_13 g σ) rfl rfl rfl rfl (Nat.le_of_ble_eq_true rfl) dX6_firstRefutedBy_19 rfl (Nat.zero_le _) (Nat.zero_le _) ?_
        refine gg_topi (b := nI (rd σ 14 (i * 4 + 1))) ((hpp _ (by omega)).1) ?_
        refine g_istore_n (pc' := 23) (lv' := [(3, .int (nI (rd σ 14 (i * 4 + 1)))), (2, .int (nI i)), (0, .ref (g.2.1 8)), (1, .ref (g.2.1 (34 + 7 * b)))]) hC dX6_firstRefutedBy_22 rfl rfl (by decide) rfl ?_
        refine g_iload_n (pc' := 24) (j := 0) hC dX6_firstRefutedBy_23 rfl rfl rfl ?_
        refine g_aload_n (pc' := 25) (j := 3) hC dX6_firstRefutedBy_24 rfl rfl rfl ?_
        refine gf_X1_6 (pc' := 28) (b := b) hC (by omega : b < 8) wF_X6_53 dX6_firstRefutedBy_25 rfl ?_
        refine gg_topi (b := nI (rd σ (34 + 7 * b) 6)) (hL.1) ?_
        refine n_icmp_gt (pc' := 31) (tgt := 51) hC dX6_firstRefutedBy_28 (by decide) rfl (by omega) (by omega) (fun c28 => ?_) (fun c28 => ?_)
        · skip
          refine g_iinc (pc' := 54) (j := 1) (u := nI (i + 1)) (lv' := [(2, .int (nI (i + 1))), (3, .int (nI (rd σ 14 (i * 4 + 1)))), (0, .ref (g.2.1 8)), (1, .ref (g.2.1 (34 + 7 * b)))]) hC dX6_firstRefutedBy_51 rfl rfl (nI_add i 1) (by decide) rfl ?_
          refine g_goto (tgt := 2) hC dX6_firstRefutedBy_54 (by decide) ?_
          refine gg_lv (lv' := [(2, .int (nI (i + 1))), (0, .ref (g.2.1 8)), (1, .ref (g.2.1 (34 + 7 * b)))]) ?_ [0, 2, 3] rfl
          exact ih2 ((i + 1)) (by omega) (fun j hj => (Nat.lt_or_eq_of_le (Nat.le_of_lt_succ hj)).elim (hj0 j) (fun e => e ▸ fun z => by first | exact z.2.2 c46 | (have := z.2.1; omega))) (by omega)
        · skip
          refine g_aload_n (pc' := 32) (j := 3) hC dX6_firstRefutedBy_31 rfl rfl rfl ?_
          refine gf_X1_5 (pc' := 35) (b := b) hC (by omega : b < 8) wF_X6_128 dX6_firstRefutedBy_32 rfl ?_
          refine g_iload_n (pc' := 36) (j := 0) hC dX6_firstRefutedBy_35 rfl rfl rfl ?_
          refine a_ld (pc' := 37) (k := 34 + 7 * b + 6) (i := rd σ 14 (i * 4 + 1)) hC (by have := (by omega : b < 8); show _ < 228; omega) (ct_ba g σ (by omega : b < 8) (by decide) (by decide)) (by omega) (by decide) dX6_firstRefutedBy_36 rfl ?_
          refine g_aload_n (pc' := 38) (j := 2) hC dX6_firstRefutedBy_37 rfl rfl rfl ?_
          refine gf_X6_3 (pc' := 41) hC wF_X6_32 dX6_firstRefutedBy_38 rfl ?_
          refine g_iload_n (pc' := 42) (j := 1) hC dX6_firstRefutedBy_41 rfl rfl rfl ?_
          refine g_iconst (pc' := 43) (v := nI 2) hC dX6_firstRefutedBy_42 rfl rfl ?_
          refine f_Vi (pc' := 46) (k := 13) (st := [.int (σ.1 (34 + 7 * b + 6) (rd σ 14 (i * 4 + 1)))]) hC (c_partOfb x.2.1 g z0 σ i 2 (by omega) (by omega)) k_X4_partOf wM_X6_124 (by decide) (by decide) (ct_13 g σ) rfl rfl rfl rfl (Nat.le_of_ble_eq_true rfl) dX6_firstRefutedBy_43 rfl (Nat.zero_le _) (Nat.zero_le _) ?_
          refine g_icmp_eq (pc' := 49) (tgt := 51) hC dX6_firstRefutedBy_46 (by decide) rfl (fun c46 => ?_) (fun c46 => ?_)
          · skip
            refine g_iinc (pc' := 54) (j := 1) (u := nI (i + 1)) (lv' := [(2, .int (nI (i + 1))), (3, .int (nI (rd σ 14 (i * 4 + 1)))), (0, .ref (g.2.1 8)), (1, .ref (g.2.1 (34 + 7 * b)))]) hC dX6_firstRefutedBy_51 rfl rfl (nI_add i 1) (by decide) rfl ?_
            refine g_goto (tgt := 2) hC dX6_firstRefutedBy_54 (by decide) ?_
            refine gg_lv (lv' := [(2, .int (nI (i + 1))), (0, .ref (g.2.1 8)), (1, .ref (g.2.1 (34 + 7 * b)))]) ?_ [0, 2, 3] rfl
            exact ih2 ((i + 1)) (by omega) (fun j hj => (Nat.lt_or_eq_of_le (Nat.le_of_lt_succ hj)).elim (hj0 j) (fun e => e ▸ fun z => by first | exact z.2.2 c46 | (have := z.2.1; omega))) (by omega)
          · skip
            refine g_iload_n (pc' := 50) (j := 1) hC dX6_firstRefutedBy_49 rfl rfl rfl ?_
            refine g_ret hC dX6_firstRefutedBy_50 rfl ?_
            exact ⟨congrArg nI (lst_eq (Or.inr ⟨c10, c28, c46⟩) (fun j hj z => z.elim (fun q => by omega) (hj0 j hj))).symm, rfl⟩
  refine gg_lv (lv' := [(2, .int (nI 0)), (0, .ref (g.2.1 8)), (1, .ref (g.2.1 (34 + 7 * b)))]) ?_ [0, 1, 2] rfl
  exact L2 (rd σ 13 3 - 0 + 1) 0 (by omega) (fun j hj => absurd hj (Nat.not_lt_zero j)) (by omega)
