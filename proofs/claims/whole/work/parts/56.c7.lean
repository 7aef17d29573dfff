set_option maxHeartbeats 4000000 in
set_option maxRecDepth 20000 in
theorem c_answerOf (l : Launch) (g : Lay) (z0 : Nat) (σ : St) (r : Int32) (hNT : l.stackTraces = false) (hT : GT g z0)  : CXi l yX9_answerOf cX9_answerOf 1 (some .int) 6 1 g z0 [.int r] σ (FXi (wr9 r) r σ) (FXx (wr9 r) σ) := by
  refine CXi.of hNT (by decide) (Nat.le_of_ble_eq_true rfl) ?_
  intro x hxl hxa hC hY
  have hC : Cx x RX9 cX9_answerOf 1 (some .int) 6 g z0 := hC
  show GG x g z0 1 0 0 (Xi x g z0 (FXi (wr9 r) r σ) (FXx (wr9 r) σ) 1) σ 0 [(0, .int r)] []
  refine g_iload_n (pc' := 1) (j := 0) hC dX9_answerOf_0 rfl rfl rfl ?_
  refine g_iconst (pc' := 2) (v := (-1)) hC dX9_answerOf_1 rfl rfl ?_
  refine g_icmp_ne (pc' := 5) (tgt := 16) hC dX9_answerOf_2 (by decide) rfl (fun c2 => ?_) (fun c2 => ?_)
  · skip
    refine g_iload_n (pc' := 17) (j := 0) hC dX9_answerOf_16 rfl rfl rfl ?_
    refine g_bipush (pc' := 19) (v := (-2)) hC dX9_answerOf_17 rfl rfl ?_
    refine g_icmp_ne (pc' := 22) (tgt := 33) hC dX9_answerOf_19 (by decide) rfl (fun c19 => ?_) (fun c19 => ?_)
    · skip
      refine g_iload_n (pc' := 34) (j := 0) hC dX9_answerOf_33 rfl rfl rfl ?_
      refine g_bipush (pc' := 36) (v := (-3)) hC dX9_answerOf_34 rfl rfl ?_
      refine g_icmp_ne (pc' := 39) (tgt := 50) hC dX9_answerOf_36 (by decide) rfl (fun c36 => ?_) (fun c36 => ?_)
      · skip
        refine g_iload_n (pc' := 51) (j := 0) hC dX9_answerOf_50 rfl rfl rfl ?_
        refine gx_ret hC (by decide) (by decide) dX9_answerOf_51 rfl ?_
        exact ⟨by unfold wr9; rw [if_neg c2, if_neg c19, if_neg c36], rfl, rfl⟩
      · skip
        exact gx_thSW hC hY hT xe_exI (by decide : (296, "the call is refused in this state") ∈ exS) (by decide) (by decide) (by decide) (Nat.le_of_ble_eq_true rfl) dX9_answerOf_39 dX9_answerOf_42 dX9_answerOf_43 dX9_answerOf_46 dX9_answerOf_49 (⟨by unfold wr9; rw [if_neg c2, if_neg c19, if_pos c36], rfl⟩)
    · skip
      exact gx_thSW hC hY hT xe_exA (by decide : (294, "an argument is out of range") ∈ exS) (by decide) (by decide) (by decide) (Nat.le_of_ble_eq_true rfl) dX9_answerOf_22 dX9_answerOf_25 dX9_answerOf_26 dX9_answerOf_29 dX9_answerOf_32 (⟨by unfold wr9; rw [if_neg c2, if_pos c19], rfl⟩)
  · skip
    exact gx_thSW hC hY hT xe_exNo (by decide : (292, "no such client, block, branch or entry") ∈ exS) (by decide) (by decide) (by decide) (Nat.le_of_ble_eq_true rfl) dX9_answerOf_5 dX9_answerOf_8 dX9_answerOf_9 dX9_answerOf_12 dX9_answerOf_15 (⟨by unfold wr9; rw [if_pos c2], rfl⟩)
set_option maxHeartbeats 4000000 in
set_option maxRecDepth 20000 in
theorem c_requireClient (l : Launch) (g : Lay) (z0 : Nat) (σ : St) (c : Int32) (hNT : l.stackTraces = false) (hT : GT g z0) (hn : nb σ 8 4 6)  : CXv l yX9_requireClient cX9_requireClient 2 6 1 g z0 [.ref (g.2.1 0), .int c] σ (FXv (wCl σ c) σ) (FXx (wCl σ c) σ) := by
  refine CXv.of hNT (by decide) (Nat.le_of_ble_eq_true rfl) ?_
  intro x hxl hxa hC hY
  have hC : Cx x RX9 cX9_requireClient 2 none 6 g z0 := hC
  show GG x g z0 2 0 0 (Xv x g z0 (FXv (wCl σ c) σ) (FXx (wCl σ c) σ) 1) σ 0 [(0, .ref (g.2.1 0)), (1, .int c)] []
  refine g_aload_n (pc' := 1) (j := 0) hC dX9_requireClient_0 rfl rfl rfl ?_
  refine gf_X9_1 (pc' := 4) hC wF_X9_19 dX9_requireClient_1 rfl ?_
  refine g_iload_n (pc' := 5) (j := 1) hC dX9_requireClient_4 rfl rfl rfl ?_
  refine f_Vi (pc' := 8) (k := 8) (st := []) hC (c_hasClient x.2.1 g z0 σ c (hn)) k_X6_hasClient wM_X9_236 (by decide) (by decide) (ct_8 g σ) rfl rfl rfl rfl (Nat.le_of_ble_eq_true rfl) dX9_requireClient_5 rfl (Nat.zero_le _) (Nat.zero_le _) ?_
  refine b_if_ne (pc' := 11) (tgt := 22) hC dX9_requireClient_8 (by decide) rfl (fun c8 => ?_) (fun c8 => ?_)
  · skip
    refine gx_retv hC (by decide) (by decide) dX9_requireClient_22 ?_
    exact ⟨cI_t c8, rfl⟩
  · skip
    exact gx_thSW hC hY hT xe_exNo (by decide : (281, "no such client") ∈ exS) (by decide) (by decide) (by decide) (Nat.le_of_ble_eq_true rfl) dX9_requireClient_11 dX9_requireClient_14 dX9_requireClient_15 dX9_requireClient_18 dX9_requireClient_21 (⟨cI_f c8, rfl⟩)
set_option maxHeartbeats 4000000 in
set_option maxRecDepth 20000 in
theorem c_requireBranch (l : Launch) (g : Lay) (z0 : Nat) (σ : St) (c : Int32) (hNT : l.stackTraces = false) (hT : GT g z0) (hn : nb σ 8 6 8)  : CXv l yX9_requireBranch cX9_requireBranch 2 6 1 g z0 [.ref (g.2.1 0), .int c] σ (FXv (wBr σ c) σ) (FXx (wBr σ c) σ) := by
  refine CXv.of hNT (by decide) (Nat.le_of_ble_eq_true rfl) ?_
  intro x hxl hxa hC hY
  have hC : Cx x RX9 cX9_requireBranch 2 none 6 g z0 := hC
  show GG x g z0 2 0 0 (Xv x g z0 (FXv (wBr σ c) σ) (FXx (wBr σ c) σ) 1) σ 0 [(0, .ref (g.2.1 0)), (1, .int c)] []
  refine g_aload_n (pc' := 1) (j := 0) hC dX9_requireBranch_0 rfl rfl rfl ?_
  refine gf_X9_1 (pc' := 4) hC wF_X9_19 dX9_requireBranch_1 rfl ?_
  refine g_iload_n (pc' := 5) (j := 1) hC dX9_requireBranch_4 rfl rfl rfl ?_
  refine f_Vi (pc' := 8) (k := 8) (st := []) hC (c_hasBranch x.2.1 g z0 σ c (hn)) k_X6_hasBranch wM_X9_283 (by decide) (by decide) (ct_8 g σ) rfl rfl rfl rfl (Nat.le_of_ble_eq_true rfl) dX9_requireBranch_5 rfl (Nat.zero_le _) (Nat.zero_le _) ?_
  refine b_if_ne (pc' := 11) (tgt := 22) hC dX9_requireBranch_8 (by decide) rfl (fun c8 => ?_) (fun c8 => ?_)
  · skip
    refine gx_retv hC (by decide) (by decide) dX9_requireBranch_22 ?_
    exact ⟨cI_t c8, rfl⟩
  · skip
    exact gx_thSW hC hY hT xe_exNo (by decide : (286, "no such branch") ∈ exS) (by decide) (by decide) (by decide) (Nat.le_of_ble_eq_true rfl) dX9_requireBranch_11 dX9_requireBranch_14 dX9_requireBranch_15 dX9_requireBranch_18 dX9_requireBranch_21 (⟨cI_f c8, rfl⟩)
set_option maxHeartbeats 4000000 in
set_option maxRecDepth 20000 in
theorem c_requirePost (l : Launch) (g : Lay) (z0 : Nat) (σ : St) (c : Int32) (hNT : l.stackTraces = false) (hT : GT g z0) (hn : nb σ 13 3 40)  : CXv l yX9_requirePost cX9_requirePost 2 6 1 g z0 [.ref (g.2.1 0), .int c] σ (FXv (wPo σ c) σ) (FXx (wPo σ c) σ) := by
  refine CXv.of hNT (by decide) (Nat.le_of_ble_eq_true rfl) ?_
  intro x hxl hxa hC hY
  have hC : Cx x RX9 cX9_requirePost 2 none 6 g z0 := hC
  show GG x g z0 2 0 0 (Xv x g z0 (FXv (wPo σ c) σ) (FXx (wPo σ c) σ) 1) σ 0 [(0, .ref (g.2.1 0)), (1, .int c)] []
  refine g_aload_n (pc' := 1) (j := 0) hC dX9_requirePost_0 rfl rfl rfl ?_
  refine gf_X9_1 (pc' := 4) hC wF_X9_19 dX9_requirePost_1 rfl ?_
  refine gf_X6_3 (pc' := 7) hC wF_X9_275 dX9_requirePost_4 rfl ?_
  refine g_iload_n (pc' := 8) (j := 1) hC dX9_requirePost_7 rfl rfl rfl ?_
  refine f_Vi (pc' := 11) (k := 13) (st := []) hC (c_hasRowb x.2.1 g z0 σ c (hn)) k_X4_hasRow wM_X9_269 (by decide) (by decide) (ct_13 g σ) rfl rfl rfl rfl (Nat.le_of_ble_eq_true rfl) dX9_requirePost_8 rfl (Nat.zero_le _) (Nat.zero_le _) ?_
  refine b_if_ne (pc' := 14) (tgt := 25) hC dX9_requirePost_11 (by decide) rfl (fun c11 => ?_) (fun c11 => ?_)
  · skip
    refine gx_retv hC (by decide) (by decide) dX9_requirePost_25 ?_
    exact ⟨cI_t c11, rfl⟩
  · skip
    exact gx_thSW hC hY hT xe_exNo (by decide : (288, "no such post") ∈ exS) (by decide) (by decide) (by decide) (Nat.le_of_ble_eq_true rfl) dX9_requirePost_14 dX9_requirePost_17 dX9_requirePost_18 dX9_requirePost_21 dX9_requirePost_24 (⟨cI_f c11, rfl⟩)
set_option maxHeartbeats 4000000 in
set_option maxRecDepth 20000 in
theorem c_requirePart (l : Launch) (g : Lay) (z0 : Nat) (σ : St) (w : Int32) (k : Nat) (hNT : l.stackTraces = false) (hT : GT g z0)  : CXv l yX9_requirePart cX9_requirePart 2 6 1 g z0 [.int w, .int (nI k)] σ (FXv (wPt w k) σ) (FXx (wPt w k) σ) := by
  refine CXv.of hNT (by decide) (Nat.le_of_ble_eq_true rfl) ?_
  intro x hxl hxa hC hY
  have hC : Cx x RX9 cX9_requirePart 2 none 6 g z0 := hC
  show GG x g z0 2 0 0 (Xv x g z0 (FXv (wPt w k) σ) (FXx (wPt w k) σ) 1) σ 0 [(0, .int w), (1, .int (nI k))] []
  refine g_iload_n (pc' := 1) (j := 0) hC dX9_requirePart_0 rfl rfl rfl ?_
  refine g_if_lt (pc' := 4) (tgt := 9) hC dX9_requirePart_1 (by decide) rfl (fun c1 => ?_) (fun c1 => ?_)
  · skip
    exact gx_thSW hC hY hT xe_exA (by decide : (290, "what is out of range") ∈ exS) (by decide) (by decide) (by decide) (Nat.le_of_ble_eq_true rfl) dX9_requirePart_9 dX9_requirePart_12 dX9_requirePart_13 dX9_requirePart_16 dX9_requirePart_19 (⟨cI_f (fun z => z.1 c1), rfl⟩)
  · skip
    refine g_iload_n (pc' := 5) (j := 0) hC dX9_requirePart_4 rfl rfl rfl ?_
    refine g_iload_n (pc' := 6) (j := 1) hC dX9_requirePart_5 rfl rfl rfl ?_
    refine g_icmp_lt (pc' := 9) (tgt := 20) hC dX9_requirePart_6 (by decide) rfl (fun c6 => ?_) (fun c6 => ?_)
    · skip
      refine gx_retv hC (by decide) (by decide) dX9_requirePart_20 ?_
      exact ⟨cI_t ⟨c1, c6⟩, rfl⟩
    · skip
      exact gx_thSW hC hY hT xe_exA (by decide : (290, "what is out of range") ∈ exS) (by decide) (by decide) (by decide) (Nat.le_of_ble_eq_true rfl) dX9_requirePart_9 dX9_requirePart_12 dX9_requirePart_13 dX9_requirePart_16 dX9_requirePart_19 (⟨cI_f (fun z => c6 z.2), rfl⟩)
set_option maxHeartbeats 4000000 in
set_option maxRecDepth 20000 in
theorem c_write (l : Launch) (g : Lay) (z0 : Nat) (σ : St) (c : Int32) (w : Int32) (v : Int32) (hNT : l.stackTraces = false) (hT : GT g z0) (hG : GX g) (hI : CI σ)  : CXi l yX9_write cX9_write 4 (some .int) 7 1 g z0 [.ref (g.2.1 0), .int c, .int w, .int v] σ (FXi (wr9 (cwr σ c w v).1) ((cwr σ c w v).1) ((cwr σ c w v).2)) (FXx (wr9 (cwr σ c w v).1) ((cwr σ c w v).2)) := by
  refine CXi.of hNT (by decide) (Nat.le_of_ble_eq_true rfl) ?_
  intro x hxl hxa hC hY
  have hC : Cx x RX9 cX9_write 4 (some .int) 7 g z0 := hC
  show GG x g z0 4 0 0 (Xi x g z0 (FXi (wr9 (cwr σ c w v).1) ((cwr σ c w v).1) ((cwr σ c w v).2)) (FXx (wr9 (cwr σ c w v).1) ((cwr σ c w v).2)) 1) σ 0 [(0, .ref (g.2.1 0)), (1, .int c), (2, .int w), (3, .int v)] []
  refine g_aload_n (pc' := 1) (j := 0) hC dX9_write_0 rfl rfl rfl ?_
  refine gf_X9_1 (pc' := 4) hC wF_X9_19 dX9_write_1 rfl ?_
  refine g_iload_n (pc' := 5) (j := 1) hC dX9_write_4 rfl rfl rfl ?_
  refine g_iload_n (pc' := 6) (j := 2) hC dX9_write_5 rfl rfl rfl ?_
  refine g_iload_n (pc' := 7) (j := 3) hC dX9_write_6 rfl rfl rfl ?_
  refine f_Vi (pc' := 10) (k := 8) (st := []) hC (c_doWrite x.2.1 g z0 σ c w v (hG) (by first | exact hI | (simp (disch := decide) only [nb, rd_uv, rd_ur, uv_cell, ur_cell]; exact hI) | omega)) k_X6_doWrite wM_X9_122 (by decide) (by decide) (ct_8 g σ) rfl rfl rfl rfl (Nat.le_of_ble_eq_true rfl) dX9_write_7 rfl (Nat.zero_le _) (Nat.zero_le _) ?_
  refine fx_Si (pc' := 13) (st := []) hC hY (c_answerOf x.2.1 g z0 ((cwr σ c w v).2) (((cwr σ c w v).1)) (hY.2.2) (hT)) k_X9_answerOf wM_X9_158 (by decide) rfl rfl (Nat.le_of_ble_eq_true rfl) dX9_write_10 rfl (by decide) (by decide) (fun E x10 => ?_) (fun x10 => ?_)
  · exact ⟨x10, rfl⟩
  refine gx_ret hC (by decide) (by decide) dX9_write_13 rfl ?_
  exact ⟨x10, rfl, rfl⟩
set_option maxHeartbeats 4000000 in
set_option maxRecDepth 20000 in
theorem c_read (l : Launch) (g : Lay) (z0 : Nat) (σ : St) (c : Int32) (w : Int32) (hNT : l.stackTraces = false) (hT : GT g z0) (hG : GX g) (hI : CI σ)  : CXi l yX9_read cX9_read 3 (some .int) 7 1 g z0 [.ref (g.2.1 0), .int c, .int w] σ (FXi (wr9 (crd σ c w).1) ((crd σ c w).1) ((crd σ c w).2)) (FXx (wr9 (crd σ c w).1) ((crd σ c w).2)) := by
  refine CXi.of hNT (by decide) (Nat.le_of_ble_eq_true rfl) ?_
  intro x hxl hxa hC hY
  have hC : Cx x RX9 cX9_read 3 (some .int) 7 g z0 := hC
  show GG x g z0 3 0 0 (Xi x g z0 (FXi (wr9 (crd σ c w).1) ((crd σ c w).1) ((crd σ c w).2)) (FXx (wr9 (crd σ c w).1) ((crd σ c w).2)) 1) σ 0 [(0, .ref (g.2.1 0)), (1, .int c), (2, .int w)] []
  refine g_aload_n (pc' := 1) (j := 0) hC dX9_read_0 rfl rfl rfl ?_
  refine gf_X9_1 (pc' := 4) hC wF_X9_19 dX9_read_1 rfl ?_
  refine g_iload_n (pc' := 5) (j := 1) hC dX9_read_4 rfl rfl rfl ?_
  refine g_iload_n (pc' := 6) (j := 2) hC dX9_read_5 rfl rfl rfl ?_
  refine f_Vi (pc' := 9) (k := 8) (st := []) hC (c_doRead x.2.1 g z0 σ c w (hG) (by first | exact hI | (simp (disch := decide) only [nb, rd_uv, rd_ur, uv_cell, ur_cell]; exact hI) | omega)) k_X6_doRead wM_X9_126 (by decide) (by decide) (ct_8 g σ) rfl rfl rfl rfl (Nat.le_of_ble_eq_true rfl) dX9_read_6 rfl (Nat.zero_le _) (Nat.zero_le _) ?_
  refine fx_Si (pc' := 12) (st := []) hC hY (c_answerOf x.2.1 g z0 ((crd σ c w).2) (((crd σ c w).1)) (hY.2.2) (hT)) k_X9_answerOf wM_X9_158 (by decide) rfl rfl (Nat.le_of_ble_eq_true rfl) dX9_read_9 rfl (by decide) (by decide) (fun E x9 => ?_) (fun x9 => ?_)
  · exact ⟨x9, rfl⟩
  refine gx_ret hC (by decide) (by decide) dX9_read_12 rfl ?_
  exact ⟨x9, rfl, rfl⟩
set_option maxHeartbeats 4000000 in
set_option maxRecDepth 20000 in
theorem c_exchange (l : Launch) (g : Lay) (z0 : Nat) (σ : St) (ua : Int32) (ub : Int32) (hNT : l.stackTraces = false) (hT : GT g z0) (hG : GX g) (hI : CI σ)  : CXi l yX9_exchange cX9_exchange 3 (some .int) 7 1 g z0 [.ref (g.2.1 0), .int ua, .int ub] σ (FXi (wr9 (cxc σ ua ub).1) ((cxc σ ua ub).1) ((cxc σ ua ub).2)) (FXx (wr9 (cxc σ ua ub).1) ((cxc σ ua ub).2)) := by
  refine CXi.of hNT (by decide) (Nat.le_of_ble_eq_true rfl) ?_
  intro x hxl hxa hC hY
  have hC : Cx x RX9 cX9_exchange 3 (some .int) 7 g z0 := hC
  show GG x g z0 3 0 0 (Xi x g z0 (FXi (wr9 (cxc σ ua ub).1) ((cxc σ ua ub).1) ((cxc σ ua ub).2)) (FXx (wr9 (cxc σ ua ub).1) ((cxc σ ua ub).2)) 1) σ 0 [(0, .ref (g.2.1 0)), (1, .int ua), (2, .int ub)] []
  refine g_aload_n (pc' := 1) (j := 0) hC dX9_exchange_0 rfl rfl rfl ?_
  refine gf_X9_1 (pc' := 4) hC wF_X9_19 dX9_exchange_1 rfl ?_
  refine g_iload_n (pc' := 5) (j := 1) hC dX9_exchange_4 rfl rfl rfl ?_
  refine g_iload_n (pc' := 6) (j := 2) hC dX9_exchange_5 rfl rfl rfl ?_
  refine f_Vi (pc' := 9) (k := 8) (st := []) hC (c_doExchange x.2.1 g z0 σ ua ub (hG) (by first | exact hI | (simp (disch := decide) only [nb, rd_uv, rd_ur, uv_cell, ur_cell]; exact hI) | omega)) k_X6_doExchange wM_X9_143 (by decide) (by decide) (ct_8 g σ) rfl rfl rfl rfl (Nat.le_of_ble_eq_true rfl) dX9_exchange_6 rfl (Nat.zero_le _) (Nat.zero_le _) ?_
  refine fx_Si (pc' := 12) (st := []) hC hY (c_answerOf x.2.1 g z0 ((cxc σ ua ub).2) (((cxc σ ua ub).1)) (hY.2.2) (hT)) k_X9_answerOf wM_X9_158 (by decide) rfl rfl (Nat.le_of_ble_eq_true rfl) dX9_exchange_9 rfl (by decide) (by decide) (fun E x9 => ?_) (fun x9 => ?_)
  · exact ⟨x9, rfl⟩
  refine gx_ret hC (by decide) (by decide) dX9_exchange_12 rfl ?_
  exact ⟨x9, rfl, rfl⟩
set_option maxHeartbeats 4000000 in
set_option maxRecDepth 20000 in
theorem c_post (l : Launch) (g : Lay) (z0 : Nat) (σ : St) (c : Int32) (hNT : l.stackTraces = false) (hT : GT g z0) (hI : CI σ)  : CXi l yX9_post cX9_post 2 (some .int) 7 1 g z0 [.ref (g.2.1 0), .int c] σ (FXi (wr9 (cpo σ c).1) ((cpo σ c).1) ((cpo σ c).2)) (FXx (wr9 (cpo σ c).1) ((cpo σ c).2)) := by
  refine CXi.of hNT (by decide) (Nat.le_of_ble_eq_true rfl) ?_
  intro x hxl hxa hC hY
  have hC : Cx x RX9 cX9_post 2 (some .int) 7 g z0 := hC
  show GG x g z0 2 0 0 (Xi x g z0 (FXi (wr9 (cpo σ c).1) ((cpo σ c).1) ((cpo σ c).2)) (FXx (wr9 (cpo σ c).1) ((cpo σ c).2)) 1) σ 0 [(0, .ref (g.2.1 0)), (1, .int c)] []
  refine g_aload_n (pc' := 1) (j := 0) hC dX9_post_0 rfl rfl rfl ?_
  refine gf_X9_1 (pc' := 4) hC wF_X9_19 dX9_post_1 rfl ?_
  refine g_iload_n (pc' := 5) (j := 1) hC dX9_post_4 rfl rfl rfl ?_
  refine f_Vi (pc' := 8) (k := 8) (st := []) hC (c_doPost x.2.1 g z0 σ c (by first | exact hI | (simp (disch := decide) only [nb, rd_uv, rd_ur, uv_cell, ur_cell]; exact hI) | omega)) k_X6_doPost wM_X9_146 (by decide) (by decide) (ct_8 g σ) rfl rfl rfl rfl (Nat.le_of_ble_eq_true rfl) dX9_post_5 rfl (Nat.zero_le _) (Nat.zero_le _) ?_
  refine fx_Si (pc' := 11) (st := []) hC hY (c_answerOf x.2.1 g z0 ((cpo σ c).2) (((cpo σ c).1)) (hY.2.2) (hT)) k_X9_answerOf wM_X9_158 (by decide) rfl rfl (Nat.le_of_ble_eq_true rfl) dX9_post_8 rfl (by decide) (by decide) (fun E x8 => ?_) (fun x8 => ?_)
  · exact ⟨x8, rfl⟩
  refine gx_ret hC (by decide) (by decide) dX9_post_11 rfl ?_
  exact ⟨x8, rfl, rfl⟩
set_option maxHeartbeats 4000000 in
set_option maxRecDepth 20000 in
theorem c_fork (l : Launch) (g : Lay) (z0 : Nat) (σ : St) (set : Int32) (hNT : l.stackTraces = false) (hT : GT g z0) (hI : CI σ) (hS : CS σ)  : CXi l yX9_fork cX9_fork 2 (some .int) 7 1 g z0 [.ref (g.2.1 0), .int set] σ (FXi (wr9 (cfo σ set).1) ((cfo σ set).1) ((cfo σ set).2)) (FXx (wr9 (cfo σ set).1) ((cfo σ set).2)) := by
  refine CXi.of hNT (by decide) (Nat.le_of_ble_eq_true rfl) ?_
  intro x hxl hxa hC hY
  have hC : Cx x RX9 cX9_fork 2 (some .int) 7 g z0 := hC
  show GG x g z0 2 0 0 (Xi x g z0 (FXi (wr9 (cfo σ set).1) ((cfo σ set).1) ((cfo σ set).2)) (FXx (wr9 (cfo σ set).1) ((cfo σ set).2)) 1) σ 0 [(0, .ref (g.2.1 0)), (1, .int set)] []
  refine g_aload_n (pc' := 1) (j := 0) hC dX9_fork_0 rfl rfl rfl ?_
  refine gf_X9_1 (pc' := 4) hC wF_X9_19 dX9_fork_1 rfl ?_
  refine g_iload_n (pc' := 5) (j := 1) hC dX9_fork_4 rfl rfl rfl ?_
  refine f_Vi (pc' := 8) (k := 8) (st := []) hC (c_doFork x.2.1 g z0 σ set (by first | exact hI | (simp (disch := decide) only [nb, rd_uv, rd_ur, uv_cell, ur_cell]; exact hI) | omega) (by first | exact hS | (simp (disch := decide) only [nb, rd_uv, rd_ur, uv_cell, ur_cell]; exact hS) | omega)) k_X6_doFork wM_X9_130 (by decide) (by decide) (ct_8 g σ) rfl rfl rfl rfl (Nat.le_of_ble_eq_true rfl) dX9_fork_5 rfl (Nat.zero_le _) (Nat.zero_le _) ?_
  refine fx_Si (pc' := 11) (st := []) hC hY (c_answerOf x.2.1 g z0 ((cfo σ set).2) (((cfo σ set).1)) (hY.2.2) (hT)) k_X9_answerOf wM_X9_158 (by decide) rfl rfl (Nat.le_of_ble_eq_true rfl) dX9_fork_8 rfl (by decide) (by decide) (fun E x8 => ?_) (fun x8 => ?_)
  · exact ⟨x8, rfl⟩
  refine gx_ret hC (by decide) (by decide) dX9_fork_11 rfl ?_
  exact ⟨x8, rfl, rfl⟩
set_option maxHeartbeats 4000000 in
set_option maxRecDepth 20000 in
theorem c_move (l : Launch) (g : Lay) (z0 : Nat) (σ : St) (c : Int32) (b : Int32) (hNT : l.stackTraces = false) (hT : GT g z0) (hI : CI σ)  : CXi l yX9_move cX9_move 3 (some .int) 7 1 g z0 [.ref (g.2.1 0), .int c, .int b] σ (FXi (wr9 (cmv σ c b).1) ((cmv σ c b).1) ((cmv σ c b).2)) (FXx (wr9 (cmv σ c b).1) ((cmv σ c b).2)) := by
  refine CXi.of hNT (by decide) (Nat.le_of_ble_eq_true rfl) ?_
  intro x hxl hxa hC hY
  have hC : Cx x RX9 cX9_move 3 (some .int) 7 g z0 := hC
  show GG x g z0 3 0 0 (Xi x g z0 (FXi (wr9 (cmv σ c b).1) ((cmv σ c b).1) ((cmv σ c b).2)) (FXx (wr9 (cmv σ c b).1) ((cmv σ c b).2)) 1) σ 0 [(0, .ref (g.2.1 0)), (1, .int c), (2, .int b)] []
  refine g_aload_n (pc' := 1) (j := 0) hC dX9_move_0 rfl rfl rfl ?_
  refine gf_X9_1 (pc' := 4) hC wF_X9_19 dX9_move_1 rfl ?_
  refine g_iload_n (pc' := 5) (j := 1) hC dX9_move_4 rfl rfl rfl ?_
  refine g_iload_n (pc' := 6) (j := 2) hC dX9_move_5 rfl rfl rfl ?_
  refine f_Vi (pc' := 9) (k := 8) (st := []) hC (c_doMove x.2.1 g z0 σ c b (by first | exact hI | (simp (disch := decide) only [nb, rd_uv, rd_ur, uv_cell, ur_cell]; exact hI) | omega)) k_X6_doMove wM_X9_134 (by decide) (by decide) (ct_8 g σ) rfl rfl rfl rfl (Nat.le_of_ble_eq_true rfl) dX9_move_6 rfl (Nat.zero_le _) (Nat.zero_le _) ?_
  refine fx_Si (pc' := 12) (st := []) hC hY (c_answerOf x.2.1 g z0 ((cmv σ c b).2) (((cmv σ c b).1)) (hY.2.2) (hT)) k_X9_answerOf wM_X9_158 (by decide) rfl rfl (Nat.le_of_ble_eq_true rfl) dX9_move_9 rfl (by decide) (by decide) (fun E x9 => ?_) (fun x9 => ?_)
  · exact ⟨x9, rfl⟩
  refine gx_ret hC (by decide) (by decide) dX9_move_12 rfl ?_
  exact ⟨x9, rfl, rfl⟩
set_option maxHeartbeats 4000000 in
set_option maxRecDepth 20000 in
theorem c_rewind (l : Launch) (g : Lay) (z0 : Nat) (σ : St) (b : Int32) (n : Int32) (hNT : l.stackTraces = false) (hT : GT g z0) (hI : CI σ)  : CXi l yX9_rewind cX9_rewind 3 (some .int) 7 1 g z0 [.ref (g.2.1 0), .int b, .int n] σ (FXi (wr9 (crw σ b n).1) ((crw σ b n).1) ((crw σ b n).2)) (FXx (wr9 (crw σ b n).1) ((crw σ b n).2)) := by
  refine CXi.of hNT (by decide) (Nat.le_of_ble_eq_true rfl) ?_
  intro x hxl hxa hC hY
  have hC : Cx x RX9 cX9_rewind 3 (some .int) 7 g z0 := hC
  show GG x g z0 3 0 0 (Xi x g z0 (FXi (wr9 (crw σ b n).1) ((crw σ b n).1) ((crw σ b n).2)) (FXx (wr9 (crw σ b n).1) ((crw σ b n).2)) 1) σ 0 [(0, .ref (g.2.1 0)), (1, .int b), (2, .int n)] []
  refine g_aload_n (pc' := 1) (j := 0) hC dX9_rewind_0 rfl rfl rfl ?_
  refine gf_X9_1 (pc' := 4) hC wF_X9_19 dX9_rewind_1 rfl ?_
  refine g_iload_n (pc' := 5) (j := 1) hC dX9_rewind_4 rfl rfl rfl ?_
  refine g_iload_n (pc' := 6) (j := 2) hC dX9_rewind_5 rfl rfl rfl ?_
  refine f_Vi (pc' := 9) (k := 8) (st := []) hC (c_doRewind x.2.1 g z0 σ b n (by first | exact hI | (simp (disch := decide) only [nb, rd_uv, rd_ur, uv_cell, ur_cell]; exact hI) | omega)) k_X6_doRewind wM_X9_137 (by decide) (by decide) (ct_8 g σ) rfl rfl rfl rfl (Nat.le_of_ble_eq_true rfl) dX9_rewind_6 rfl (Nat.zero_le _) (Nat.zero_le _) ?_
  refine fx_Si (pc' := 12) (st := []) hC hY (c_answerOf x.2.1 g z0 ((crw σ b n).2) (((crw σ b n).1)) (hY.2.2) (hT)) k_X9_answerOf wM_X9_158 (by decide) rfl rfl (Nat.le_of_ble_eq_true rfl) dX9_rewind_9 rfl (by decide) (by decide) (fun E x9 => ?_) (fun x9 => ?_)
  · exact ⟨x9, rfl⟩
  refine gx_ret hC (by decide) (by decide) dX9_rewind_12 rfl ?_
  exact ⟨x9, rfl, rfl⟩
set_option maxHeartbeats 4000000 in
set_option maxRecDepth 20000 in
theorem c_corrupt (l : Launch) (g : Lay) (z0 : Nat) (σ : St) (b : Int32) (n : Int32) (v : Int32) (hNT : l.stackTraces = false) (hT : GT g z0) (hI : CI σ)  : CXi l yX9_corrupt cX9_corrupt 4 (some .int) 7 1 g z0 [.ref (g.2.1 0), .int b, .int n, .int v] σ (FXi (wr9 (cco σ b n v).1) ((cco σ b n v).1) ((cco σ b n v).2)) (FXx (wr9 (cco σ b n v).1) ((cco σ b n v).2)) := by
  refine CXi.of hNT (by decide) (Nat.le_of_ble_eq_true rfl) ?_
  intro x hxl hxa hC hY
  have hC : Cx x RX9 cX9_corrupt 4 (some .int) 7 g z0 := hC
  show GG x g z0 4 0 0 (Xi x g z0 (FXi (wr9 (cco σ b n v).1) ((cco σ b n v).1) ((cco σ b n v).2)) (FXx (wr9 (cco σ b n v).1) ((cco σ b n v).2)) 1) σ 0 [(0, .ref (g.2.1 0)), (1, .int b), (2, .int n), (3, .int v)] []
  refine g_aload_n (pc' := 1) (j := 0) hC dX9_corrupt_0 rfl rfl rfl ?_
  refine gf_X9_1 (pc' := 4) hC wF_X9_19 dX9_corrupt_1 rfl ?_
  refine g_iload_n (pc' := 5) (j := 1) hC dX9_corrupt_4 rfl rfl rfl ?_
  refine g_iload_n (pc' := 6) (j := 2) hC dX9_corrupt_5 rfl rfl rfl ?_
  refine g_iload_n (pc' := 7) (j := 3) hC dX9_corrupt_6 rfl rfl rfl ?_
  refine f_Vi (pc' := 10) (k := 8) (st := []) hC (c_doCorrupt x.2.1 g z0 σ b n v (by first | exact hI | (simp (disch := decide) only [nb, rd_uv, rd_ur, uv_cell, ur_cell]; exact hI) | omega)) k_X6_doCorrupt wM_X9_140 (by decide) (by decide) (ct_8 g σ) rfl rfl rfl rfl (Nat.le_of_ble_eq_true rfl) dX9_corrupt_7 rfl (Nat.zero_le _) (Nat.zero_le _) ?_
  refine fx_Si (pc' := 13) (st := []) hC hY (c_answerOf x.2.1 g z0 ((cco σ b n v).2) (((cco σ b n v).1)) (hY.2.2) (hT)) k_X9_answerOf wM_X9_158 (by decide) rfl rfl (Nat.le_of_ble_eq_true rfl) dX9_corrupt_10 rfl (by decide) (by decide) (fun E x10 => ?_) (fun x10 => ?_)
  · exact ⟨x10, rfl⟩
  refine gx_ret hC (by decide) (by decide) dX9_corrupt_13 rfl ?_
  exact ⟨x10, rfl, rfl⟩
set_option maxHeartbeats 4000000 in
set_option maxRecDepth 20000 in
theorem c_heal (l : Launch) (g : Lay) (z0 : Nat) (σ : St) (ua : Int32) (ub : Int32) (hNT : l.stackTraces = false) (hT : GT g z0) (hG : GX g) (hI : CI σ)  : CXi l yX9_heal cX9_heal 3 (some .int) 7 1 g z0 [.ref (g.2.1 0), .int ua, .int ub] σ (FXi (wr9 (chel σ ua ub).1) ((chel σ ua ub).1) ((chel σ ua ub).2)) (FXx (wr9 (chel σ ua ub).1) ((chel σ ua ub).2)) := by
  refine CXi.of hNT (by decide) (Nat.le_of_ble_eq_true rfl) ?_
  intro x hxl hxa hC hY
  have hC : Cx x RX9 cX9_heal 3 (some .int) 7 g z0 := hC
  show GG x g z0 3 0 0 (Xi x g z0 (FXi (wr9 (chel σ ua ub).1) ((chel σ ua ub).1) ((chel σ ua ub).2)) (FXx (wr9 (chel σ ua ub).1) ((chel σ ua ub).2)) 1) σ 0 [(0, .ref (g.2.1 0)), (1, .int ua), (2, .int ub)] []
  refine g_aload_n (pc' := 1) (j := 0) hC dX9_heal_0 rfl rfl rfl ?_
  refine gf_X9_1 (pc' := 4) hC wF_X9_19 dX9_heal_1 rfl ?_
  refine g_iload_n (pc' := 5) (j := 1) hC dX9_heal_4 rfl rfl rfl ?_
  refine g_iload_n (pc' := 6) (j := 2) hC dX9_heal_5 rfl rfl rfl ?_
  refine f_Vi (pc' := 9) (k := 8) (st := []) hC (c_doHeal x.2.1 g z0 σ ua ub (hG) (by first | exact hI | (simp (disch := decide) only [nb, rd_uv, rd_ur, uv_cell, ur_cell]; exact hI) | omega)) k_X6_doHeal wM_X9_149 (by decide) (by decide) (ct_8 g σ) rfl rfl rfl rfl (Nat.le_of_ble_eq_true rfl) dX9_heal_6 rfl (Nat.zero_le _) (Nat.zero_le _) ?_
  refine fx_Si (pc' := 12) (st := []) hC hY (c_answerOf x.2.1 g z0 ((chel σ ua ub).2) (((chel σ ua ub).1)) (hY.2.2) (hT)) k_X9_answerOf wM_X9_158 (by decide) rfl rfl (Nat.le_of_ble_eq_true rfl) dX9_heal_9 rfl (by decide) (by decide) (fun E x9 => ?_) (fun x9 => ?_)
  · exact ⟨x9, rfl⟩
  refine gx_ret hC (by decide) (by decide) dX9_heal_12 rfl ?_
  exact ⟨x9, rfl, rfl⟩
