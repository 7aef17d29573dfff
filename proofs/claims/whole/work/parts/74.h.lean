set_option maxHeartbeats 4000000 in
set_option maxRecDepth 20000 in
theorem h_feed (l : Launch) (g : Lay) (z0 : Nat) (σ : St) (a : Int32) (b : Int32) (c : Int32) (d : Int32) (e : Int32) (hNT : l.stackTraces = false) (hT : GT g z0) (hF : nb σ 0 2 900) (hG3 : GX3 g) (hw : ∀ E, wFd σ = some E → E = exI)  : CH l yL_feed cL_feed 8 hL_feed 10 1 g z0 [.ref (g.2.1 0), .int a, .int b, .int c, .int d, .int e, .ref (g.2.1 33)] σ (FI (kof1 (wFd σ)) (cI (wFd σ = none) (ul (cfS σ a b c d e) 33 0 (((cfd σ a b c d e).1 0 2).toInt64)) (cfS σ a b c d e))) := by
  refine CH.of (by decide) (Nat.le_of_ble_eq_true rfl) ?_
  intro x hxl hC hY
  have hC : Cx x RL cL_feed 8 (some .int) 10 g z0 := hC
  show GG x g z0 8 0 0 (Qh x g z0 1 (FI (kof1 (wFd σ)) (cI (wFd σ = none) (ul (cfS σ a b c d e) 33 0 (((cfd σ a b c d e).1 0 2).toInt64)) (cfS σ a b c d e)))) σ 0 [(0, .ref (g.2.1 0)), (1, .int a), (2, .int b), (3, .int c), (4, .int d), (5, .int e), (6, .ref (g.2.1 33))] []
  refine g_aload (pc' := 2) (j := 6) hC dL_feed_0 rfl rfl ?_
  refine g_iconst (pc' := 3) (v := nI 0) hC dL_feed_2 rfl rfl ?_
  refine g_aload_n (pc' := 4) (j := 0) hC dL_feed_3 rfl rfl rfl ?_
  refine g_iload_n (pc' := 5) (j := 1) hC dL_feed_4 rfl rfl rfl ?_
  refine g_iload_n (pc' := 6) (j := 2) hC dL_feed_5 rfl rfl rfl ?_
  refine g_iload_n (pc' := 7) (j := 3) hC dL_feed_6 rfl rfl rfl ?_
  refine g_iload (pc' := 9) (j := 4) hC dL_feed_7 rfl rfl ?_
  refine g_iload (pc' := 11) (j := 5) hC dL_feed_9 rfl rfl ?_
  refine hx_Vi (pc' := 14) (kr := 0) (st := [.int (nI 0), .ref (g.2.1 33)]) hC hY (c_feed x.2.1 g z0 σ a b c d e (hxl ▸ hNT) (hT) (by first | exact hF | (simp (disch := decide) only [nb, rd_uv, rd_ur, uv_cell, ur_cell]; exact hF) | omega)) k_X9_feed wM_L_7 (by decide) (by decide) (ct_0 g σ) rfl rfl rfl rfl (Nat.le_of_ble_eq_true rfl) dL_feed_11 rfl (by decide) (by decide) (fun E x11 => ?_) (fun x11 => ?_)
  · rcases hw E x11 with rfl
    · refine ⟨19, ⟨[], ({ startPc := 0, endPc := 16, handlerPc := 19, catchType := 13 } : ExceptionTableEntry), [], _, rfl, ?_, rfl, by decide, wK_L_13, (hT _ _ hC.2.2.2.2.2.2.2.2.2).2.1 exI (by simp [exE]), rfl⟩, fun q => ?_⟩
      · exact fun z hz => absurd hz List.not_mem_nil
      · skip
        refine g_astore (pc' := 21) (lv' := [(7, .ref q), (0, .ref (g.2.1 0)), (1, .int a), (2, .int b), (3, .int c), (4, .int d), (5, .int e), (6, .ref (g.2.1 33))]) hC dL_feed_19 rfl (by decide) rfl ?_
        refine g_iconst (pc' := 22) (v := nI 1) hC dL_feed_21 rfl rfl ?_
        refine gh_ret hC (by decide) (by decide) dL_feed_22 ?_
        exact ⟨by unfold kof1; rw [if_neg (by rw [x11]; decide)], (cI_f (by rw [x11]; decide)).symm⟩
  refine g_i2l (pc' := 15) hC dL_feed_14 rfl ?_
  refine a_stl (pc' := 16) hC dL_feed_15 rfl ?_
  refine g_goto (tgt := 23) hC dL_feed_16 (by decide) ?_
  refine g_iconst (pc' := 24) (v := nI 0) hC dL_feed_23 rfl rfl ?_
  refine gh_ret hC (by decide) (by decide) dL_feed_24 ?_
  exact ⟨by unfold kof1; rw [if_pos x11], (cI_t x11).symm⟩
set_option maxHeartbeats 4000000 in
set_option maxRecDepth 20000 in
theorem h_load (l : Launch) (g : Lay) (z0 : Nat) {KA : KAd} (σ : St) (n : Int32) (hNT : l.stackTraces = false) (hT : GT g z0) (hK : GK g z0 KA) (hF : nb σ 0 2 900) (hG3 : GX3 g) (hw : ∀ E, wLo σ n = some E → E = exA ∨ E = exI)  : CH l yL_load cL_load 4 hL_load 10 2 g z0 [.ref (g.2.1 0), .int n, .ref (g.2.1 33)] σ (FI (kof2 exA (wLo σ n)) (cI (wLo σ n = none) (ul (clS σ n) 33 0 (((csv (cpv (uv σ 0 2 (nI 0)) (cn n)) ((cpv (uv σ 0 2 (nI 0)) (cn n)).1 1 4) ((cpv (uv σ 0 2 (nI 0)) (cn n)).1 1 5) ((cpv (uv σ 0 2 (nI 0)) (cn n)).1 1 6)).1 8 4).toInt64)) (clS σ n))) := by
  refine CH.of (by decide) (Nat.le_of_ble_eq_true rfl) ?_
  intro x hxl hC hY
  have hC : Cx x RL cL_load 4 (some .int) 10 g z0 := hC
  show GG x g z0 4 0 0 (Qh x g z0 2 (FI (kof2 exA (wLo σ n)) (cI (wLo σ n = none) (ul (clS σ n) 33 0 (((csv (cpv (uv σ 0 2 (nI 0)) (cn n)) ((cpv (uv σ 0 2 (nI 0)) (cn n)).1 1 4) ((cpv (uv σ 0 2 (nI 0)) (cn n)).1 1 5) ((cpv (uv σ 0 2 (nI 0)) (cn n)).1 1 6)).1 8 4).toInt64)) (clS σ n)))) σ 0 [(0, .ref (g.2.1 0)), (1, .int n), (2, .ref (g.2.1 33))] []
  refine g_aload_n (pc' := 1) (j := 2) hC dL_load_0 rfl rfl rfl ?_
  refine g_iconst (pc' := 2) (v := nI 0) hC dL_load_1 rfl rfl ?_
  refine g_aload_n (pc' := 3) (j := 0) hC dL_load_2 rfl rfl rfl ?_
  refine g_iload_n (pc' := 4) (j := 1) hC dL_load_3 rfl rfl rfl ?_
  refine hx_Vi (pc' := 7) (kr := 0) (st := [.int (nI 0), .ref (g.2.1 33)]) hC hY (c_load x.2.1 g z0 σ n (hxl ▸ hNT) (hT) (hK) (by first | exact hF | (simp (disch := decide) only [nb, rd_uv, rd_ur, uv_cell, ur_cell]; exact hF) | omega)) k_X9_load wM_L_15 (by decide) (by decide) (ct_0 g σ) rfl rfl rfl rfl (Nat.le_of_ble_eq_true rfl) dL_load_4 rfl (by decide) (by decide) (fun E x4 => ?_) (fun x4 => ?_)
  · rcases hw E x4 with rfl | rfl
    · refine ⟨12, ⟨[], ({ startPc := 0, endPc := 9, handlerPc := 12, catchType := 19 } : ExceptionTableEntry), [({ startPc := 0, endPc := 9, handlerPc := 15, catchType := 13 } : ExceptionTableEntry)], _, rfl, ?_, rfl, by decide, wK_L_19, (hT _ _ hC.2.2.2.2.2.2.2.2.2).2.1 exA (by simp [exE]), rfl⟩, fun q => ?_⟩
      · exact fun z hz => absurd hz List.not_mem_nil
      · skip
        refine g_astore_n (pc' := 13) (lv' := [(3, .ref q), (0, .ref (g.2.1 0)), (1, .int n), (2, .ref (g.2.1 33))]) hC dL_load_12 rfl rfl (by decide) rfl ?_
        refine g_iconst (pc' := 14) (v := nI 1) hC dL_load_13 rfl rfl ?_
        refine gh_ret hC (by decide) (by decide) dL_load_14 ?_
        exact ⟨by unfold kof2; rw [if_neg (by rw [x4]; decide), if_pos x4], (cI_f (by rw [x4]; decide)).symm⟩
    · refine ⟨15, ⟨[({ startPc := 0, endPc := 9, handlerPc := 12, catchType := 19 } : ExceptionTableEntry)], ({ startPc := 0, endPc := 9, handlerPc := 15, catchType := 13 } : ExceptionTableEntry), [], _, rfl, ?_, rfl, by decide, wK_L_13, (hT _ _ hC.2.2.2.2.2.2.2.2.2).2.1 exI (by simp [exE]), rfl⟩, fun q => ?_⟩
      · intro z hz
        rcases List.mem_cons.mp hz with rfl | hz
        · exact Or.inr ⟨by decide, _, wK_L_19, (hG3 _ _ hC.2.2.2.2.2.2.2.2.2).1⟩
        exact absurd hz List.not_mem_nil
      · skip
        refine g_astore_n (pc' := 16) (lv' := [(3, .ref q), (0, .ref (g.2.1 0)), (1, .int n), (2, .ref (g.2.1 33))]) hC dL_load_15 rfl rfl (by decide) rfl ?_
        refine g_iconst (pc' := 17) (v := nI 2) hC dL_load_16 rfl rfl ?_
        refine gh_ret hC (by decide) (by decide) dL_load_17 ?_
        exact ⟨by unfold kof2; rw [if_neg (by rw [x4]; decide), if_neg (by rw [x4]; decide)], (cI_f (by rw [x4]; decide)).symm⟩
  refine g_i2l (pc' := 8) hC dL_load_7 rfl ?_
  refine a_stl (pc' := 9) hC dL_load_8 rfl ?_
  refine g_goto (tgt := 18) hC dL_load_9 (by decide) ?_
  refine g_iconst (pc' := 19) (v := nI 0) hC dL_load_18 rfl rfl ?_
  refine gh_ret hC (by decide) (by decide) dL_load_19 ?_
  exact ⟨by unfold kof2; rw [if_pos x4], (cI_t x4).symm⟩
set_option maxHeartbeats 4000000 in
set_option maxRecDepth 20000 in
theorem h_run (l : Launch) (g : Lay) (z0 : Nat) {KA : KAd} (σ : St) (n : Int32) (hNT : l.stackTraces = false) (hT : GT g z0) (hK : GK g z0 KA) (hG : GX g) (hF : nb σ 0 2 900) (hI : CI σ) (hO : (¬ n < 0 ∧ n ≤ nI (rd σ 0 2)) → rd σ 8 4 ≠ 0 → (crP σ n).1 1 7 = 0 → cOK (crP σ n) (rd (crP σ n) 1 3)) (hG3 : GX3 g) (hw : ∀ E, wRu σ n = some E → E = exA ∨ E = exI)  : CH l yL_run cL_run 4 hL_run 10 2 g z0 [.ref (g.2.1 0), .int n, .ref (g.2.1 33)] σ (FI (kof2 exA (wRu σ n)) (cI (wRu σ n = none) (ul (crS σ n) 33 0 ((nI ((cRn (crP σ n) (rd (crP σ n) 1 3)).1)).toInt64)) (crS σ n))) := by
  refine CH.of (by decide) (Nat.le_of_ble_eq_true rfl) ?_
  intro x hxl hC hY
  have hC : Cx x RL cL_run 4 (some .int) 10 g z0 := hC
  show GG x g z0 4 0 0 (Qh x g z0 2 (FI (kof2 exA (wRu σ n)) (cI (wRu σ n = none) (ul (crS σ n) 33 0 ((nI ((cRn (crP σ n) (rd (crP σ n) 1 3)).1)).toInt64)) (crS σ n)))) σ 0 [(0, .ref (g.2.1 0)), (1, .int n), (2, .ref (g.2.1 33))] []
  refine g_aload_n (pc' := 1) (j := 2) hC dL_run_0 rfl rfl rfl ?_
  refine g_iconst (pc' := 2) (v := nI 0) hC dL_run_1 rfl rfl ?_
  refine g_aload_n (pc' := 3) (j := 0) hC dL_run_2 rfl rfl rfl ?_
  refine g_iload_n (pc' := 4) (j := 1) hC dL_run_3 rfl rfl rfl ?_
  refine hx_Vi (pc' := 7) (kr := 0) (st := [.int (nI 0), .ref (g.2.1 33)]) hC hY (c_run x.2.1 g z0 σ n (hxl ▸ hNT) (hT) (hK) (hG) (by first | exact hF | (simp (disch := decide) only [nb, rd_uv, rd_ur, uv_cell, ur_cell]; exact hF) | omega) (by first | exact hI | (simp (disch := decide) only [nb, rd_uv, rd_ur, uv_cell, ur_cell]; exact hI) | omega) (by first | exact hO | (simp (disch := decide) only [nb, rd_uv, rd_ur, uv_cell, ur_cell]; exact hO) | omega)) k_X9_run wM_L_21 (by decide) (by decide) (ct_0 g σ) rfl rfl rfl rfl (Nat.le_of_ble_eq_true rfl) dL_run_4 rfl (by decide) (by decide) (fun E x4 => ?_) (fun x4 => ?_)
  · rcases hw E x4 with rfl | rfl
    · refine ⟨12, ⟨[], ({ startPc := 0, endPc := 9, handlerPc := 12, catchType := 19 } : ExceptionTableEntry), [({ startPc := 0, endPc := 9, handlerPc := 15, catchType := 13 } : ExceptionTableEntry)], _, rfl, ?_, rfl, by decide, wK_L_19, (hT _ _ hC.2.2.2.2.2.2.2.2.2).2.1 exA (by simp [exE]), rfl⟩, fun q => ?_⟩
      · exact fun z hz => absurd hz List.not_mem_nil
      · skip
        refine g_astore_n (pc' := 13) (lv' := [(3, .ref q), (0, .ref (g.2.1 0)), (1, .int n), (2, .ref (g.2.1 33))]) hC dL_run_12 rfl rfl (by decide) rfl ?_
        refine g_iconst (pc' := 14) (v := nI 1) hC dL_run_13 rfl rfl ?_
        refine gh_ret hC (by decide) (by decide) dL_run_14 ?_
        exact ⟨by unfold kof2; rw [if_neg (by rw [x4]; decide), if_pos x4], (cI_f (by rw [x4]; decide)).symm⟩
    · refine ⟨15, ⟨[({ startPc := 0, endPc := 9, handlerPc := 12, catchType := 19 } : ExceptionTableEntry)], ({ startPc := 0, endPc := 9, handlerPc := 15, catchType := 13 } : ExceptionTableEntry), [], _, rfl, ?_, rfl, by decide, wK_L_13, (hT _ _ hC.2.2.2.2.2.2.2.2.2).2.1 exI (by simp [exE]), rfl⟩, fun q => ?_⟩
      · intro z hz
        rcases List.mem_cons.mp hz with rfl | hz
        · exact Or.inr ⟨by decide, _, wK_L_19, (hG3 _ _ hC.2.2.2.2.2.2.2.2.2).1⟩
        exact absurd hz List.not_mem_nil
      · skip
        refine g_astore_n (pc' := 16) (lv' := [(3, .ref q), (0, .ref (g.2.1 0)), (1, .int n), (2, .ref (g.2.1 33))]) hC dL_run_15 rfl rfl (by decide) rfl ?_
        refine g_iconst (pc' := 17) (v := nI 2) hC dL_run_16 rfl rfl ?_
        refine gh_ret hC (by decide) (by decide) dL_run_17 ?_
        exact ⟨by unfold kof2; rw [if_neg (by rw [x4]; decide), if_neg (by rw [x4]; decide)], (cI_f (by rw [x4]; decide)).symm⟩
  refine g_i2l (pc' := 8) hC dL_run_7 rfl ?_
  refine a_stl (pc' := 9) hC dL_run_8 rfl ?_
  refine g_goto (tgt := 18) hC dL_run_9 (by decide) ?_
  refine g_iconst (pc' := 19) (v := nI 0) hC dL_run_18 rfl rfl ?_
  refine gh_ret hC (by decide) (by decide) dL_run_19 ?_
  exact ⟨by unfold kof2; rw [if_pos x4], (cI_t x4).symm⟩
set_option maxHeartbeats 4000000 in
set_option maxRecDepth 20000 in
theorem h_write (l : Launch) (g : Lay) (z0 : Nat) (σ : St) (c : Int32) (w : Int32) (v : Int32) (hNT : l.stackTraces = false) (hT : GT g z0) (hG : GX g) (hI : CI σ) (hG3 : GX3 g) (hw : ∀ E, wr9 (cwr σ c w v).1 = some E → E = exNo ∨ E = exA ∨ E = exI)  : CH l yL_write cL_write 6 hL_write 10 1 g z0 [.ref (g.2.1 0), .int c, .int w, .int v, .ref (g.2.1 33)] σ (FI (kof3 exNo exA (wr9 (cwr σ c w v).1)) (cI (wr9 (cwr σ c w v).1 = none) (ul ((cwr σ c w v).2) 33 0 (((cwr σ c w v).1).toInt64)) ((cwr σ c w v).2))) := by
  refine CH.of (by decide) (Nat.le_of_ble_eq_true rfl) ?_
  intro x hxl hC hY
  have hC : Cx x RL cL_write 6 (some .int) 10 g z0 := hC
  show GG x g z0 6 0 0 (Qh x g z0 1 (FI (kof3 exNo exA (wr9 (cwr σ c w v).1)) (cI (wr9 (cwr σ c w v).1 = none) (ul ((cwr σ c w v).2) 33 0 (((cwr σ c w v).1).toInt64)) ((cwr σ c w v).2)))) σ 0 [(0, .ref (g.2.1 0)), (1, .int c), (2, .int w), (3, .int v), (4, .ref (g.2.1 33))] []
  refine g_aload (pc' := 2) (j := 4) hC dL_write_0 rfl rfl ?_
  refine g_iconst (pc' := 3) (v := nI 0) hC dL_write_2 rfl rfl ?_
  refine g_aload_n (pc' := 4) (j := 0) hC dL_write_3 rfl rfl rfl ?_
  refine g_iload_n (pc' := 5) (j := 1) hC dL_write_4 rfl rfl rfl ?_
  refine g_iload_n (pc' := 6) (j := 2) hC dL_write_5 rfl rfl rfl ?_
  refine g_iload_n (pc' := 7) (j := 3) hC dL_write_6 rfl rfl rfl ?_
  refine hx_Vi (pc' := 10) (kr := 0) (st := [.int (nI 0), .ref (g.2.1 33)]) hC hY (c_write x.2.1 g z0 σ c w v (hxl ▸ hNT) (hT) (hG) (by first | exact hI | (simp (disch := decide) only [nb, rd_uv, rd_ur, uv_cell, ur_cell]; exact hI) | omega)) k_X9_write wM_L_24 (by decide) (by decide) (ct_0 g σ) rfl rfl rfl rfl (Nat.le_of_ble_eq_true rfl) dL_write_7 rfl (by decide) (by decide) (fun E x7 => ?_) (fun x7 => ?_)
  · rcases hw E x7 with rfl | rfl | rfl
    · refine ⟨15, ⟨[], ({ startPc := 0, endPc := 12, handlerPc := 15, catchType := 28 } : ExceptionTableEntry), [({ startPc := 0, endPc := 12, handlerPc := 19, catchType := 19 } : ExceptionTableEntry), ({ startPc := 0, endPc := 12, handlerPc := 23, catchType := 13 } : ExceptionTableEntry)], _, rfl, ?_, rfl, by decide, wK_L_28, (hT _ _ hC.2.2.2.2.2.2.2.2.2).2.1 exNo (by simp [exE]), rfl⟩, fun q => ?_⟩
      · exact fun z hz => absurd hz List.not_mem_nil
      · skip
        refine g_astore (pc' := 17) (lv' := [(5, .ref q), (0, .ref (g.2.1 0)), (1, .int c), (2, .int w), (3, .int v), (4, .ref (g.2.1 33))]) hC dL_write_15 rfl (by decide) rfl ?_
        refine g_iconst (pc' := 18) (v := nI 1) hC dL_write_17 rfl rfl ?_
        refine gh_ret hC (by decide) (by decide) dL_write_18 ?_
        exact ⟨by unfold kof3; rw [if_neg (by rw [x7]; decide), if_pos x7], (cI_f (by rw [x7]; decide)).symm⟩
    · refine ⟨19, ⟨[({ startPc := 0, endPc := 12, handlerPc := 15, catchType := 28 } : ExceptionTableEntry)], ({ startPc := 0, endPc := 12, handlerPc := 19, catchType := 19 } : ExceptionTableEntry), [({ startPc := 0, endPc := 12, handlerPc := 23, catchType := 13 } : ExceptionTableEntry)], _, rfl, ?_, rfl, by decide, wK_L_19, (hT _ _ hC.2.2.2.2.2.2.2.2.2).2.1 exA (by simp [exE]), rfl⟩, fun q => ?_⟩
      · intro z hz
        rcases List.mem_cons.mp hz with rfl | hz
        · exact Or.inr ⟨by decide, _, wK_L_28, (hG3 _ _ hC.2.2.2.2.2.2.2.2.2).2.2⟩
        exact absurd hz List.not_mem_nil
      · skip
        refine g_astore (pc' := 21) (lv' := [(5, .ref q), (0, .ref (g.2.1 0)), (1, .int c), (2, .int w), (3, .int v), (4, .ref (g.2.1 33))]) hC dL_write_19 rfl (by decide) rfl ?_
        refine g_iconst (pc' := 22) (v := nI 2) hC dL_write_21 rfl rfl ?_
        refine gh_ret hC (by decide) (by decide) dL_write_22 ?_
        exact ⟨by unfold kof3; rw [if_neg (by rw [x7]; decide), if_neg (by rw [x7]; decide), if_pos x7], (cI_f (by rw [x7]; decide)).symm⟩
    · refine ⟨23, ⟨[({ startPc := 0, endPc := 12, handlerPc := 15, catchType := 28 } : ExceptionTableEntry), ({ startPc := 0, endPc := 12, handlerPc := 19, catchType := 19 } : ExceptionTableEntry)], ({ startPc := 0, endPc := 12, handlerPc := 23, catchType := 13 } : ExceptionTableEntry), [], _, rfl, ?_, rfl, by decide, wK_L_13, (hT _ _ hC.2.2.2.2.2.2.2.2.2).2.1 exI (by simp [exE]), rfl⟩, fun q => ?_⟩
      · intro z hz
        rcases List.mem_cons.mp hz with rfl | hz
        · exact Or.inr ⟨by decide, _, wK_L_28, (hG3 _ _ hC.2.2.2.2.2.2.2.2.2).2.1⟩
        rcases List.mem_cons.mp hz with rfl | hz
        · exact Or.inr ⟨by decide, _, wK_L_19, (hG3 _ _ hC.2.2.2.2.2.2.2.2.2).1⟩
        exact absurd hz List.not_mem_nil
      · skip
        refine g_astore (pc' := 25) (lv' := [(5, .ref q), (0, .ref (g.2.1 0)), (1, .int c), (2, .int w), (3, .int v), (4, .ref (g.2.1 33))]) hC dL_write_23 rfl (by decide) rfl ?_
        refine g_iconst (pc' := 26) (v := nI 3) hC dL_write_25 rfl rfl ?_
        refine gh_ret hC (by decide) (by decide) dL_write_26 ?_
        exact ⟨by unfold kof3; rw [if_neg (by rw [x7]; decide), if_neg (by rw [x7]; decide), if_neg (by rw [x7]; decide)], (cI_f (by rw [x7]; decide)).symm⟩
  refine g_i2l (pc' := 11) hC dL_write_10 rfl ?_
  refine a_stl (pc' := 12) hC dL_write_11 rfl ?_
  refine g_goto (tgt := 27) hC dL_write_12 (by decide) ?_
  refine g_iconst (pc' := 28) (v := nI 0) hC dL_write_27 rfl rfl ?_
  refine gh_ret hC (by decide) (by decide) dL_write_28 ?_
  exact ⟨by unfold kof3; rw [if_pos x7], (cI_t x7).symm⟩
set_option maxHeartbeats 4000000 in
set_option maxRecDepth 20000 in
theorem h_read (l : Launch) (g : Lay) (z0 : Nat) (σ : St) (c : Int32) (w : Int32) (hNT : l.stackTraces = false) (hT : GT g z0) (hG : GX g) (hI : CI σ) (hG3 : GX3 g) (hw : ∀ E, wr9 (crd σ c w).1 = some E → E = exNo ∨ E = exI)  : CH l yL_read cL_read 5 hL_read 10 1 g z0 [.ref (g.2.1 0), .int c, .int w, .ref (g.2.1 33)] σ (FI (kof2 exNo (wr9 (crd σ c w).1)) (cI (wr9 (crd σ c w).1 = none) (ul ((crd σ c w).2) 33 0 (((crd σ c w).1).toInt64)) ((crd σ c w).2))) := by
  refine CH.of (by decide) (Nat.le_of_ble_eq_true rfl) ?_
  intro x hxl hC hY
  have hC : Cx x RL cL_read 5 (some .int) 10 g z0 := hC
  show GG x g z0 5 0 0 (Qh x g z0 1 (FI (kof2 exNo (wr9 (crd σ c w).1)) (cI (wr9 (crd σ c w).1 = none) (ul ((crd σ c w).2) 33 0 (((crd σ c w).1).toInt64)) ((crd σ c w).2)))) σ 0 [(0, .ref (g.2.1 0)), (1, .int c), (2, .int w), (3, .ref (g.2.1 33))] []
  refine g_aload_n (pc' := 1) (j := 3) hC dL_read_0 rfl rfl rfl ?_
  refine g_iconst (pc' := 2) (v := nI 0) hC dL_read_1 rfl rfl ?_
  refine g_aload_n (pc' := 3) (j := 0) hC dL_read_2 rfl rfl rfl ?_
  refine g_iload_n (pc' := 4) (j := 1) hC dL_read_3 rfl rfl rfl ?_
  refine g_iload_n (pc' := 5) (j := 2) hC dL_read_4 rfl rfl rfl ?_
  refine hx_Vi (pc' := 8) (kr := 0) (st := [.int (nI 0), .ref (g.2.1 33)]) hC hY (c_read x.2.1 g z0 σ c w (hxl ▸ hNT) (hT) (hG) (by first | exact hI | (simp (disch := decide) only [nb, rd_uv, rd_ur, uv_cell, ur_cell]; exact hI) | omega)) k_X9_read wM_L_30 (by decide) (by decide) (ct_0 g σ) rfl rfl rfl rfl (Nat.le_of_ble_eq_true rfl) dL_read_5 rfl (by decide) (by decide) (fun E x5 => ?_) (fun x5 => ?_)
  · rcases hw E x5 with rfl | rfl
    · refine ⟨13, ⟨[], ({ startPc := 0, endPc := 10, handlerPc := 13, catchType := 28 } : ExceptionTableEntry), [({ startPc := 0, endPc := 10, handlerPc := 17, catchType := 13 } : ExceptionTableEntry)], _, rfl, ?_, rfl, by decide, wK_L_28, (hT _ _ hC.2.2.2.2.2.2.2.2.2).2.1 exNo (by simp [exE]), rfl⟩, fun q => ?_⟩
      · exact fun z hz => absurd hz List.not_mem_nil
      · skip
        refine g_astore (pc' := 15) (lv' := [(4, .ref q), (0, .ref (g.2.1 0)), (1, .int c), (2, .int w), (3, .ref (g.2.1 33))]) hC dL_read_13 rfl (by decide) rfl ?_
        refine g_iconst (pc' := 16) (v := nI 1) hC dL_read_15 rfl rfl ?_
        refine gh_ret hC (by decide) (by decide) dL_read_16 ?_
        exact ⟨by unfold kof2; rw [if_neg (by rw [x5]; decide), if_pos x5], (cI_f (by rw [x5]; decide)).symm⟩
    · refine ⟨17, ⟨[({ startPc := 0, endPc := 10, handlerPc := 13, catchType := 28 } : ExceptionTableEntry)], ({ startPc := 0, endPc := 10, handlerPc := 17, catchType := 13 } : ExceptionTableEntry), [], _, rfl, ?_, rfl, by decide, wK_L_13, (hT _ _ hC.2.2.2.2.2.2.2.2.2).2.1 exI (by simp [exE]), rfl⟩, fun q => ?_⟩
      · intro z hz
        rcases List.mem_cons.mp hz with rfl | hz
        · exact Or.inr ⟨by decide, _, wK_L_28, (hG3 _ _ hC.2.2.2.2.2.2.2.2.2).2.1⟩
        exact absurd hz List.not_mem_nil
      · skip
        refine g_astore (pc' := 19) (lv' := [(4, .ref q), (0, .ref (g.2.1 0)), (1, .int c), (2, .int w), (3, .ref (g.2.1 33))]) hC dL_read_17 rfl (by decide) rfl ?_
        refine g_iconst (pc' := 20) (v := nI 2) hC dL_read_19 rfl rfl ?_
        refine gh_ret hC (by decide) (by decide) dL_read_20 ?_
        exact ⟨by unfold kof2; rw [if_neg (by rw [x5]; decide), if_neg (by rw [x5]; decide)], (cI_f (by rw [x5]; decide)).symm⟩
  refine g_i2l (pc' := 9) hC dL_read_8 rfl ?_
  refine a_stl (pc' := 10) hC dL_read_9 rfl ?_
  refine g_goto (tgt := 21) hC dL_read_10 (by decide) ?_
  refine g_iconst (pc' := 22) (v := nI 0) hC dL_read_21 rfl rfl ?_
  refine gh_ret hC (by decide) (by decide) dL_read_22 ?_
  exact ⟨by unfold kof2; rw [if_pos x5], (cI_t x5).symm⟩
set_option maxHeartbeats 4000000 in
set_option maxRecDepth 20000 in
theorem h_exchange (l : Launch) (g : Lay) (z0 : Nat) (σ : St) (ua : Int32) (ub : Int32) (hNT : l.stackTraces = false) (hT : GT g z0) (hG : GX g) (hI : CI σ) (hG3 : GX3 g) (hw : ∀ E, wr9 (cxc σ ua ub).1 = some E → E = exNo)  : CH l yL_exchange cL_exchange 5 hL_exchange 10 1 g z0 [.ref (g.2.1 0), .int ua, .int ub, .ref (g.2.1 33)] σ (FI (kof1 (wr9 (cxc σ ua ub).1)) (cI (wr9 (cxc σ ua ub).1 = none) (ul ((cxc σ ua ub).2) 33 0 (((cxc σ ua ub).1).toInt64)) ((cxc σ ua ub).2))) := by
  refine CH.of (by decide) (Nat.le_of_ble_eq_true rfl) ?_
  intro x hxl hC hY
  have hC : Cx x RL cL_exchange 5 (some .int) 10 g z0 := hC
  show GG x g z0 5 0 0 (Qh x g z0 1 (FI (kof1 (wr9 (cxc σ ua ub).1)) (cI (wr9 (cxc σ ua ub).1 = none) (ul ((cxc σ ua ub).2) 33 0 (((cxc σ ua ub).1).toInt64)) ((cxc σ ua ub).2)))) σ 0 [(0, .ref (g.2.1 0)), (1, .int ua), (2, .int ub), (3, .ref (g.2.1 33))] []
  refine g_aload_n (pc' := 1) (j := 3) hC dL_exchange_0 rfl rfl rfl ?_
  refine g_iconst (pc' := 2) (v := nI 0) hC dL_exchange_1 rfl rfl ?_
  refine g_aload_n (pc' := 3) (j := 0) hC dL_exchange_2 rfl rfl rfl ?_
  refine g_iload_n (pc' := 4) (j := 1) hC dL_exchange_3 rfl rfl rfl ?_
  refine g_iload_n (pc' := 5) (j := 2) hC dL_exchange_4 rfl rfl rfl ?_
  refine hx_Vi (pc' := 8) (kr := 0) (st := [.int (nI 0), .ref (g.2.1 33)]) hC hY (c_exchange x.2.1 g z0 σ ua ub (hxl ▸ hNT) (hT) (hG) (by first | exact hI | (simp (disch := decide) only [nb, rd_uv, rd_ur, uv_cell, ur_cell]; exact hI) | omega)) k_X9_exchange wM_L_34 (by decide) (by decide) (ct_0 g σ) rfl rfl rfl rfl (Nat.le_of_ble_eq_true rfl) dL_exchange_5 rfl (by decide) (by decide) (fun E x5 => ?_) (fun x5 => ?_)
  · rcases hw E x5 with rfl
    · refine ⟨13, ⟨[], ({ startPc := 0, endPc := 10, handlerPc := 13, catchType := 28 } : ExceptionTableEntry), [], _, rfl, ?_, rfl, by decide, wK_L_28, (hT _ _ hC.2.2.2.2.2.2.2.2.2).2.1 exNo (by simp [exE]), rfl⟩, fun q => ?_⟩
      · exact fun z hz => absurd hz List.not_mem_nil
      · skip
        refine g_astore (pc' := 15) (lv' := [(4, .ref q), (0, .ref (g.2.1 0)), (1, .int ua), (2, .int ub), (3, .ref (g.2.1 33))]) hC dL_exchange_13 rfl (by decide) rfl ?_
        refine g_iconst (pc' := 16) (v := nI 1) hC dL_exchange_15 rfl rfl ?_
        refine gh_ret hC (by decide) (by decide) dL_exchange_16 ?_
        exact ⟨by unfold kof1; rw [if_neg (by rw [x5]; decide)], (cI_f (by rw [x5]; decide)).symm⟩
  refine g_i2l (pc' := 9) hC dL_exchange_8 rfl ?_
  refine a_stl (pc' := 10) hC dL_exchange_9 rfl ?_
  refine g_goto (tgt := 17) hC dL_exchange_10 (by decide) ?_
  refine g_iconst (pc' := 18) (v := nI 0) hC dL_exchange_17 rfl rfl ?_
  refine gh_ret hC (by decide) (by decide) dL_exchange_18 ?_
  exact ⟨by unfold kof1; rw [if_pos x5], (cI_t x5).symm⟩
set_option maxHeartbeats 4000000 in
set_option maxRecDepth 20000 in
theorem h_post (l : Launch) (g : Lay) (z0 : Nat) (σ : St) (c : Int32) (hNT : l.stackTraces = false) (hT : GT g z0) (hI : CI σ) (hG3 : GX3 g) (hw : ∀ E, wr9 (cpo σ c).1 = some E → E = exNo)  : CH l yL_post cL_post 4 hL_post 10 1 g z0 [.ref (g.2.1 0), .int c, .ref (g.2.1 33)] σ (FI (kof1 (wr9 (cpo σ c).1)) (cI (wr9 (cpo σ c).1 = none) (ul ((cpo σ c).2) 33 0 (((cpo σ c).1).toInt64)) ((cpo σ c).2))) := by
  refine CH.of (by decide) (Nat.le_of_ble_eq_true rfl) ?_
  intro x hxl hC hY
  have hC : Cx x RL cL_post 4 (some .int) 10 g z0 := hC
  show GG x g z0 4 0 0 (Qh x g z0 1 (FI (kof1 (wr9 (cpo σ c).1)) (cI (wr9 (cpo σ c).1 = none) (ul ((cpo σ c).2) 33 0 (((cpo σ c).1).toInt64)) ((cpo σ c).2)))) σ 0 [(0, .ref (g.2.1 0)), (1, .int c), (2, .ref (g.2.1 33))] []
  refine g_aload_n (pc' := 1) (j := 2) hC dL_post_0 rfl rfl rfl ?_
  refine g_iconst (pc' := 2) (v := nI 0) hC dL_post_1 rfl rfl ?_
  refine g_aload_n (pc' := 3) (j := 0) hC dL_post_2 rfl rfl rfl ?_
  refine g_iload_n (pc' := 4) (j := 1) hC dL_post_3 rfl rfl rfl ?_
  refine hx_Vi (pc' := 7) (kr := 0) (st := [.int (nI 0), .ref (g.2.1 33)]) hC hY (c_post x.2.1 g z0 σ c (hxl ▸ hNT) (hT) (by first | exact hI | (simp (disch := decide) only [nb, rd_uv, rd_ur, uv_cell, ur_cell]; exact hI) | omega)) k_X9_post wM_L_37 (by decide) (by decide) (ct_0 g σ) rfl rfl rfl rfl (Nat.le_of_ble_eq_true rfl) dL_post_4 rfl (by decide) (by decide) (fun E x4 => ?_) (fun x4 => ?_)
  · rcases hw E x4 with rfl
    · refine ⟨12, ⟨[], ({ startPc := 0, endPc := 9, handlerPc := 12, catchType := 28 } : ExceptionTableEntry), [], _, rfl, ?_, rfl, by decide, wK_L_28, (hT _ _ hC.2.2.2.2.2.2.2.2.2).2.1 exNo (by simp [exE]), rfl⟩, fun q => ?_⟩
      · exact fun z hz => absurd hz List.not_mem_nil
      · skip
        refine g_astore_n (pc' := 13) (lv' := [(3, .ref q), (0, .ref (g.2.1 0)), (1, .int c), (2, .ref (g.2.1 33))]) hC dL_post_12 rfl rfl (by decide) rfl ?_
        refine g_iconst (pc' := 14) (v := nI 1) hC dL_post_13 rfl rfl ?_
        refine gh_ret hC (by decide) (by decide) dL_post_14 ?_
        exact ⟨by unfold kof1; rw [if_neg (by rw [x4]; decide)], (cI_f (by rw [x4]; decide)).symm⟩
  refine g_i2l (pc' := 8) hC dL_post_7 rfl ?_
  refine a_stl (pc' := 9) hC dL_post_8 rfl ?_
  refine g_goto (tgt := 15) hC dL_post_9 (by decide) ?_
  refine g_iconst (pc' := 16) (v := nI 0) hC dL_post_15 rfl rfl ?_
  refine gh_ret hC (by decide) (by decide) dL_post_16 ?_
  exact ⟨by unfold kof1; rw [if_pos x4], (cI_t x4).symm⟩
set_option maxHeartbeats 4000000 in
set_option maxRecDepth 20000 in
theorem h_calm (l : Launch) (g : Lay) (z0 : Nat) (σ : St) (c : Int32) (hNT : l.stackTraces = false) (hT : GT g z0) (hI : CI σ) (hG3 : GX3 g) (hw : ∀ E, wCl σ c = some E → E = exNo)  : CH l yL_calm cL_calm 4 hL_calm 10 1 g z0 [.ref (g.2.1 0), .int c, .ref (g.2.1 33)] σ (FI (kof1 (wCl σ c)) (cI (wCl σ c = none) (ul (cI (vl2 (nI (rd σ 8 4)) c) (uv σ (90 + 3 * cn c) 5 (nI 0)) σ) 33 0 (cI (σ.1 (90 + 3 * cn c) 5 = 0) 0 1)) (cI (vl2 (nI (rd σ 8 4)) c) (uv σ (90 + 3 * cn c) 5 (nI 0)) σ))) := by
  refine CH.of (by decide) (Nat.le_of_ble_eq_true rfl) ?_
  intro x hxl hC hY
  have hC : Cx x RL cL_calm 4 (some .int) 10 g z0 := hC
  show GG x g z0 4 0 0 (Qh x g z0 1 (FI (kof1 (wCl σ c)) (cI (wCl σ c = none) (ul (cI (vl2 (nI (rd σ 8 4)) c) (uv σ (90 + 3 * cn c) 5 (nI 0)) σ) 33 0 (cI (σ.1 (90 + 3 * cn c) 5 = 0) 0 1)) (cI (vl2 (nI (rd σ 8 4)) c) (uv σ (90 + 3 * cn c) 5 (nI 0)) σ)))) σ 0 [(0, .ref (g.2.1 0)), (1, .int c), (2, .ref (g.2.1 33))] []
  refine g_aload_n (pc' := 1) (j := 2) hC dL_calm_0 rfl rfl rfl ?_
  refine g_iconst (pc' := 2) (v := nI 0) hC dL_calm_1 rfl rfl ?_
  refine g_aload_n (pc' := 3) (j := 0) hC dL_calm_2 rfl rfl rfl ?_
  refine g_iload_n (pc' := 4) (j := 1) hC dL_calm_3 rfl rfl rfl ?_
  refine hx_Vi (pc' := 7) (kr := 0) (st := [.int (nI 0), .ref (g.2.1 33)]) hC hY (c_calm x.2.1 g z0 σ c (hxl ▸ hNT) (hT) (by first | exact hI | (simp (disch := decide) only [nb, rd_uv, rd_ur, uv_cell, ur_cell]; exact hI) | omega)) k_X9_calm wM_L_40 (by decide) (by decide) (ct_0 g σ) rfl rfl rfl rfl (Nat.le_of_ble_eq_true rfl) dL_calm_4 rfl (by decide) (by decide) (fun E x4 => ?_) (fun x4 => ?_)
  · rcases hw E x4 with rfl
    · refine ⟨19, ⟨[], ({ startPc := 0, endPc := 16, handlerPc := 19, catchType := 28 } : ExceptionTableEntry), [], _, rfl, ?_, rfl, by decide, wK_L_28, (hT _ _ hC.2.2.2.2.2.2.2.2.2).2.1 exNo (by simp [exE]), rfl⟩, fun q => ?_⟩
      · exact fun z hz => absurd hz List.not_mem_nil
      · skip
        refine g_astore_n (pc' := 20) (lv' := [(3, .ref q), (0, .ref (g.2.1 0)), (1, .int c), (2, .ref (g.2.1 33))]) hC dL_calm_19 rfl rfl (by decide) rfl ?_
        refine g_iconst (pc' := 21) (v := nI 1) hC dL_calm_20 rfl rfl ?_
        refine gh_ret hC (by decide) (by decide) dL_calm_21 ?_
        exact ⟨by unfold kof1; rw [if_neg (by rw [x4]; decide)], (cI_f (by rw [x4]; decide)).symm⟩
  refine g_if_eq (pc' := 10) (tgt := 14) hC dL_calm_7 (by decide) rfl (fun c7 => ?_) (fun c7 => ?_)
  · skip
    refine g_lconst (pc' := 15) (v := 0) hC dL_calm_14 rfl rfl ?_
    refine a_stl (pc' := 16) hC dL_calm_15 rfl ?_
    refine g_goto (tgt := 22) hC dL_calm_16 (by decide) ?_
    refine g_iconst (pc' := 23) (v := nI 0) hC dL_calm_22 rfl rfl ?_
    refine gh_ret hC (by decide) (by decide) dL_calm_23 ?_
    exact ⟨by unfold kof1; rw [if_pos x4], (by rw [cI_t x4, cI_t c7])⟩
  · skip
    refine g_lconst (pc' := 11) (v := 1) hC dL_calm_10 rfl rfl ?_
    refine g_goto (tgt := 15) hC dL_calm_11 (by decide) ?_
    refine a_stl (pc' := 16) hC dL_calm_15 rfl ?_
    refine g_goto (tgt := 22) hC dL_calm_16 (by decide) ?_
    refine g_iconst (pc' := 23) (v := nI 0) hC dL_calm_22 rfl rfl ?_
    refine gh_ret hC (by decide) (by decide) dL_calm_23 ?_
    exact ⟨by unfold kof1; rw [if_pos x4], (by rw [cI_t x4, cI_f c7])⟩
set_option maxHeartbeats 4000000 in
set_option maxRecDepth 20000 in
theorem h_adopt (l : Launch) (g : Lay) (z0 : Nat) (σ : St) (c : Int32) (hNT : l.stackTraces = false) (hT : GT g z0) (hI : CI σ) (hG3 : GX3 g) (hw : ∀ E, wCl σ c = some E → E = exNo)  : CH l yL_adopt cL_adopt 4 hL_adopt 10 1 g z0 [.ref (g.2.1 0), .int c, .ref (g.2.1 33)] σ (FI (kof1 (wCl σ c)) (cI (wCl σ c = none) (ul (cI (vl2 (nI (rd σ 8 4)) c) (uv (cth σ (cn c) (rd σ (90 + 3 * cn c) 3)) (90 + 3 * cn c) 5 (nI 0)) σ) 33 0 (((cth σ (cn c) (rd σ (90 + 3 * cn c) 3)).1 (90 + 3 * cn c) 2).toInt64)) (cI (vl2 (nI (rd σ 8 4)) c) (uv (cth σ (cn c) (rd σ (90 + 3 * cn c) 3)) (90 + 3 * cn c) 5 (nI 0)) σ))) := by
  refine CH.of (by decide) (Nat.le_of_ble_eq_true rfl) ?_
  intro x hxl hC hY
  have hC : Cx x RL cL_adopt 4 (some .int) 10 g z0 := hC
  show GG x g z0 4 0 0 (Qh x g z0 1 (FI (kof1 (wCl σ c)) (cI (wCl σ c = none) (ul (cI (vl2 (nI (rd σ 8 4)) c) (uv (cth σ (cn c) (rd σ (90 + 3 * cn c) 3)) (90 + 3 * cn c) 5 (nI 0)) σ) 33 0 (((cth σ (cn c) (rd σ (90 + 3 * cn c) 3)).1 (90 + 3 * cn c) 2).toInt64)) (cI (vl2 (nI (rd σ 8 4)) c) (uv (cth σ (cn c) (rd σ (90 + 3 * cn c) 3)) (90 + 3 * cn c) 5 (nI 0)) σ)))) σ 0 [(0, .ref (g.2.1 0)), (1, .int c), (2, .ref (g.2.1 33))] []
  refine g_aload_n (pc' := 1) (j := 2) hC dL_adopt_0 rfl rfl rfl ?_
  refine g_iconst (pc' := 2) (v := nI 0) hC dL_adopt_1 rfl rfl ?_
  refine g_aload_n (pc' := 3) (j := 0) hC dL_adopt_2 rfl rfl rfl ?_
  refine g_iload_n (pc' := 4) (j := 1) hC dL_adopt_3 rfl rfl rfl ?_
  refine hx_Vi (pc' := 7) (kr := 0) (st := [.int (nI 0), .ref (g.2.1 33)]) hC hY (c_adopt x.2.1 g z0 σ c (hxl ▸ hNT) (hT) (by first | exact hI | (simp (disch := decide) only [nb, rd_uv, rd_ur, uv_cell, ur_cell]; exact hI) | omega)) k_X9_adopt wM_L_44 (by decide) (by decide) (ct_0 g σ) rfl rfl rfl rfl (Nat.le_of_ble_eq_true rfl) dL_adopt_4 rfl (by decide) (by decide) (fun E x4 => ?_) (fun x4 => ?_)
  · rcases hw E x4 with rfl
    · refine ⟨12, ⟨[], ({ startPc := 0, endPc := 9, handlerPc := 12, catchType := 28 } : ExceptionTableEntry), [], _, rfl, ?_, rfl, by decide, wK_L_28, (hT _ _ hC.2.2.2.2.2.2.2.2.2).2.1 exNo (by simp [exE]), rfl⟩, fun q => ?_⟩
      · exact fun z hz => absurd hz List.not_mem_nil
      · skip
        refine g_astore_n (pc' := 13) (lv' := [(3, .ref q), (0, .ref (g.2.1 0)), (1, .int c), (2, .ref (g.2.1 33))]) hC dL_adopt_12 rfl rfl (by decide) rfl ?_
        refine g_iconst (pc' := 14) (v := nI 1) hC dL_adopt_13 rfl rfl ?_
        refine gh_ret hC (by decide) (by decide) dL_adopt_14 ?_
        exact ⟨by unfold kof1; rw [if_neg (by rw [x4]; decide)], (cI_f (by rw [x4]; decide)).symm⟩
  refine g_i2l (pc' := 8) hC dL_adopt_7 rfl ?_
  refine a_stl (pc' := 9) hC dL_adopt_8 rfl ?_
  refine g_goto (tgt := 15) hC dL_adopt_9 (by decide) ?_
  refine g_iconst (pc' := 16) (v := nI 0) hC dL_adopt_15 rfl rfl ?_
  refine gh_ret hC (by decide) (by decide) dL_adopt_16 ?_
  exact ⟨by unfold kof1; rw [if_pos x4], (cI_t x4).symm⟩
set_option maxHeartbeats 4000000 in
set_option maxRecDepth 20000 in
theorem h_fork (l : Launch) (g : Lay) (z0 : Nat) (σ : St) (set : Int32) (hNT : l.stackTraces = false) (hT : GT g z0) (hI : CI σ) (hS : CS σ) (hG3 : GX3 g) (hw : ∀ E, wr9 (cfo σ set).1 = some E → E = exA ∨ E = exI)  : CH l yL_fork cL_fork 4 hL_fork 10 1 g z0 [.ref (g.2.1 0), .int set, .ref (g.2.1 33)] σ (FI (kof2 exA (wr9 (cfo σ set).1)) (cI (wr9 (cfo σ set).1 = none) (ul ((cfo σ set).2) 33 0 (((cfo σ set).1).toInt64)) ((cfo σ set).2))) := by
  refine CH.of (by decide) (Nat.le_of_ble_eq_true rfl) ?_
  intro x hxl hC hY
  have hC : Cx x RL cL_fork 4 (some .int) 10 g z0 := hC
  show GG x g z0 4 0 0 (Qh x g z0 1 (FI (kof2 exA (wr9 (cfo σ set).1)) (cI (wr9 (cfo σ set).1 = none) (ul ((cfo σ set).2) 33 0 (((cfo σ set).1).toInt64)) ((cfo σ set).2)))) σ 0 [(0, .ref (g.2.1 0)), (1, .int set), (2, .ref (g.2.1 33))] []
  refine g_aload_n (pc' := 1) (j := 2) hC dL_fork_0 rfl rfl rfl ?_
  refine g_iconst (pc' := 2) (v := nI 0) hC dL_fork_1 rfl rfl ?_
  refine g_aload_n (pc' := 3) (j := 0) hC dL_fork_2 rfl rfl rfl ?_
  refine g_iload_n (pc' := 4) (j := 1) hC dL_fork_3 rfl rfl rfl ?_
  refine hx_Vi (pc' := 7) (kr := 0) (st := [.int (nI 0), .ref (g.2.1 33)]) hC hY (c_fork x.2.1 g z0 σ set (hxl ▸ hNT) (hT) (by first | exact hI | (simp (disch := decide) only [nb, rd_uv, rd_ur, uv_cell, ur_cell]; exact hI) | omega) (by first | exact hS | (simp (disch := decide) only [nb, rd_uv, rd_ur, uv_cell, ur_cell]; exact hS) | omega)) k_X9_fork wM_L_47 (by decide) (by decide) (ct_0 g σ) rfl rfl rfl rfl (Nat.le_of_ble_eq_true rfl) dL_fork_4 rfl (by decide) (by decide) (fun E x4 => ?_) (fun x4 => ?_)
  · rcases hw E x4 with rfl | rfl
    · refine ⟨12, ⟨[], ({ startPc := 0, endPc := 9, handlerPc := 12, catchType := 19 } : ExceptionTableEntry), [({ startPc := 0, endPc := 9, handlerPc := 15, catchType := 13 } : ExceptionTableEntry)], _, rfl, ?_, rfl, by decide, wK_L_19, (hT _ _ hC.2.2.2.2.2.2.2.2.2).2.1 exA (by simp [exE]), rfl⟩, fun q => ?_⟩
      · exact fun z hz => absurd hz List.not_mem_nil
      · skip
        refine g_astore_n (pc' := 13) (lv' := [(3, .ref q), (0, .ref (g.2.1 0)), (1, .int set), (2, .ref (g.2.1 33))]) hC dL_fork_12 rfl rfl (by decide) rfl ?_
        refine g_iconst (pc' := 14) (v := nI 1) hC dL_fork_13 rfl rfl ?_
        refine gh_ret hC (by decide) (by decide) dL_fork_14 ?_
        exact ⟨by unfold kof2; rw [if_neg (by rw [x4]; decide), if_pos x4], (cI_f (by rw [x4]; decide)).symm⟩
    · refine ⟨15, ⟨[({ startPc := 0, endPc := 9, handlerPc := 12, catchType := 19 } : ExceptionTableEntry)], ({ startPc := 0, endPc := 9, handlerPc := 15, catchType := 13 } : ExceptionTableEntry), [], _, rfl, ?_, rfl, by decide, wK_L_13, (hT _ _ hC.2.2.2.2.2.2.2.2.2).2.1 exI (by simp [exE]), rfl⟩, fun q => ?_⟩
      · intro z hz
        rcases List.mem_cons.mp hz with rfl | hz
        · exact Or.inr ⟨by decide, _, wK_L_19, (hG3 _ _ hC.2.2.2.2.2.2.2.2.2).1⟩
        exact absurd hz List.not_mem_nil
      · skip
        refine g_astore_n (pc' := 16) (lv' := [(3, .ref q), (0, .ref (g.2.1 0)), (1, .int set), (2, .ref (g.2.1 33))]) hC dL_fork_15 rfl rfl (by decide) rfl ?_
        refine g_iconst (pc' := 17) (v := nI 2) hC dL_fork_16 rfl rfl ?_
        refine gh_ret hC (by decide) (by decide) dL_fork_17 ?_
        exact ⟨by unfold kof2; rw [if_neg (by rw [x4]; decide), if_neg (by rw [x4]; decide)], (cI_f (by rw [x4]; decide)).symm⟩
  refine g_i2l (pc' := 8) hC dL_fork_7 rfl ?_
  refine a_stl (pc' := 9) hC dL_fork_8 rfl ?_
  refine g_goto (tgt := 18) hC dL_fork_9 (by decide) ?_
  refine g_iconst (pc' := 19) (v := nI 0) hC dL_fork_18 rfl rfl ?_
  refine gh_ret hC (by decide) (by decide) dL_fork_19 ?_
  exact ⟨by unfold kof2; rw [if_pos x4], (cI_t x4).symm⟩
set_option maxHeartbeats 4000000 in
set_option maxRecDepth 20000 in
theorem h_move (l : Launch) (g : Lay) (z0 : Nat) (σ : St) (c : Int32) (b : Int32) (hNT : l.stackTraces = false) (hT : GT g z0) (hI : CI σ) (hG3 : GX3 g) (hw : ∀ E, wr9 (cmv σ c b).1 = some E → E = exNo)  : CH l yL_move cL_move 5 hL_move 10 1 g z0 [.ref (g.2.1 0), .int c, .int b, .ref (g.2.1 33)] σ (FI (kof1 (wr9 (cmv σ c b).1)) (cI (wr9 (cmv σ c b).1 = none) (ul ((cmv σ c b).2) 33 0 (((cmv σ c b).1).toInt64)) ((cmv σ c b).2))) := by
  refine CH.of (by decide) (Nat.le_of_ble_eq_true rfl) ?_
  intro x hxl hC hY
  have hC : Cx x RL cL_move 5 (some .int) 10 g z0 := hC
  show GG x g z0 5 0 0 (Qh x g z0 1 (FI (kof1 (wr9 (cmv σ c b).1)) (cI (wr9 (cmv σ c b).1 = none) (ul ((cmv σ c b).2) 33 0 (((cmv σ c b).1).toInt64)) ((cmv σ c b).2)))) σ 0 [(0, .ref (g.2.1 0)), (1, .int c), (2, .int b), (3, .ref (g.2.1 33))] []
  refine g_aload_n (pc' := 1) (j := 3) hC dL_move_0 rfl rfl rfl ?_
  refine g_iconst (pc' := 2) (v := nI 0) hC dL_move_1 rfl rfl ?_
  refine g_aload_n (pc' := 3) (j := 0) hC dL_move_2 rfl rfl rfl ?_
  refine g_iload_n (pc' := 4) (j := 1) hC dL_move_3 rfl rfl rfl ?_
  refine g_iload_n (pc' := 5) (j := 2) hC dL_move_4 rfl rfl rfl ?_
  refine hx_Vi (pc' := 8) (kr := 0) (st := [.int (nI 0), .ref (g.2.1 33)]) hC hY (c_move x.2.1 g z0 σ c b (hxl ▸ hNT) (hT) (by first | exact hI | (simp (disch := decide) only [nb, rd_uv, rd_ur, uv_cell, ur_cell]; exact hI) | omega)) k_X9_move wM_L_50 (by decide) (by decide) (ct_0 g σ) rfl rfl rfl rfl (Nat.le_of_ble_eq_true rfl) dL_move_5 rfl (by decide) (by decide) (fun E x5 => ?_) (fun x5 => ?_)
  · rcases hw E x5 with rfl
    · refine ⟨13, ⟨[], ({ startPc := 0, endPc := 10, handlerPc := 13, catchType := 28 } : ExceptionTableEntry), [], _, rfl, ?_, rfl, by decide, wK_L_28, (hT _ _ hC.2.2.2.2.2.2.2.2.2).2.1 exNo (by simp [exE]), rfl⟩, fun q => ?_⟩
      · exact fun z hz => absurd hz List.not_mem_nil
      · skip
        refine g_astore (pc' := 15) (lv' := [(4, .ref q), (0, .ref (g.2.1 0)), (1, .int c), (2, .int b), (3, .ref (g.2.1 33))]) hC dL_move_13 rfl (by decide) rfl ?_
        refine g_iconst (pc' := 16) (v := nI 1) hC dL_move_15 rfl rfl ?_
        refine gh_ret hC (by decide) (by decide) dL_move_16 ?_
        exact ⟨by unfold kof1; rw [if_neg (by rw [x5]; decide)], (cI_f (by rw [x5]; decide)).symm⟩
  refine g_i2l (pc' := 9) hC dL_move_8 rfl ?_
  refine a_stl (pc' := 10) hC dL_move_9 rfl ?_
  refine g_goto (tgt := 17) hC dL_move_10 (by decide) ?_
  refine g_iconst (pc' := 18) (v := nI 0) hC dL_move_17 rfl rfl ?_
  refine gh_ret hC (by decide) (by decide) dL_move_18 ?_
  exact ⟨by unfold kof1; rw [if_pos x5], (cI_t x5).symm⟩
set_option maxHeartbeats 4000000 in
set_option maxRecDepth 20000 in
theorem h_rewind (l : Launch) (g : Lay) (z0 : Nat) (σ : St) (b : Int32) (n : Int32) (hNT : l.stackTraces = false) (hT : GT g z0) (hI : CI σ) (hG3 : GX3 g) (hw : ∀ E, wr9 (crw σ b n).1 = some E → E = exNo ∨ E = exA)  : CH l yL_rewind cL_rewind 5 hL_rewind 10 1 g z0 [.ref (g.2.1 0), .int b, .int n, .ref (g.2.1 33)] σ (FI (kof2 exNo (wr9 (crw σ b n).1)) (cI (wr9 (crw σ b n).1 = none) (ul ((crw σ b n).2) 33 0 (((crw σ b n).1).toInt64)) ((crw σ b n).2))) := by
  refine CH.of (by decide) (Nat.le_of_ble_eq_true rfl) ?_
  intro x hxl hC hY
  have hC : Cx x RL cL_rewind 5 (some .int) 10 g z0 := hC
  show GG x g z0 5 0 0 (Qh x g z0 1 (FI (kof2 exNo (wr9 (crw σ b n).1)) (cI (wr9 (crw σ b n).1 = none) (ul ((crw σ b n).2) 33 0 (((crw σ b n).1).toInt64)) ((crw σ b n).2)))) σ 0 [(0, .ref (g.2.1 0)), (1, .int b), (2, .int n), (3, .ref (g.2.1 33))] []
  refine g_aload_n (pc' := 1) (j := 3) hC dL_rewind_0 rfl rfl rfl ?_
  refine g_iconst (pc' := 2) (v := nI 0) hC dL_rewind_1 rfl rfl ?_
  refine g_aload_n (pc' := 3) (j := 0) hC dL_rewind_2 rfl rfl rfl ?_
  refine g_iload_n (pc' := 4) (j := 1) hC dL_rewind_3 rfl rfl rfl ?_
  refine g_iload_n (pc' := 5) (j := 2) hC dL_rewind_4 rfl rfl rfl ?_
  refine hx_Vi (pc' := 8) (kr := 0) (st := [.int (nI 0), .ref (g.2.1 33)]) hC hY (c_rewind x.2.1 g z0 σ b n (hxl ▸ hNT) (hT) (by first | exact hI | (simp (disch := decide) only [nb, rd_uv, rd_ur, uv_cell, ur_cell]; exact hI) | omega)) k_X9_rewind wM_L_53 (by decide) (by decide) (ct_0 g σ) rfl rfl rfl rfl (Nat.le_of_ble_eq_true rfl) dL_rewind_5 rfl (by decide) (by decide) (fun E x5 => ?_) (fun x5 => ?_)
  · rcases hw E x5 with rfl | rfl
    · refine ⟨13, ⟨[], ({ startPc := 0, endPc := 10, handlerPc := 13, catchType := 28 } : ExceptionTableEntry), [({ startPc := 0, endPc := 10, handlerPc := 17, catchType := 19 } : ExceptionTableEntry)], _, rfl, ?_, rfl, by decide, wK_L_28, (hT _ _ hC.2.2.2.2.2.2.2.2.2).2.1 exNo (by simp [exE]), rfl⟩, fun q => ?_⟩
      · exact fun z hz => absurd hz List.not_mem_nil
      · skip
        refine g_astore (pc' := 15) (lv' := [(4, .ref q), (0, .ref (g.2.1 0)), (1, .int b), (2, .int n), (3, .ref (g.2.1 33))]) hC dL_rewind_13 rfl (by decide) rfl ?_
        refine g_iconst (pc' := 16) (v := nI 1) hC dL_rewind_15 rfl rfl ?_
        refine gh_ret hC (by decide) (by decide) dL_rewind_16 ?_
        exact ⟨by unfold kof2; rw [if_neg (by rw [x5]; decide), if_pos x5], (cI_f (by rw [x5]; decide)).symm⟩
    · refine ⟨17, ⟨[({ startPc := 0, endPc := 10, handlerPc := 13, catchType := 28 } : ExceptionTableEntry)], ({ startPc := 0, endPc := 10, handlerPc := 17, catchType := 19 } : ExceptionTableEntry), [], _, rfl, ?_, rfl, by decide, wK_L_19, (hT _ _ hC.2.2.2.2.2.2.2.2.2).2.1 exA (by simp [exE]), rfl⟩, fun q => ?_⟩
      · intro z hz
        rcases List.mem_cons.mp hz with rfl | hz
        · exact Or.inr ⟨by decide, _, wK_L_28, (hG3 _ _ hC.2.2.2.2.2.2.2.2.2).2.2⟩
        exact absurd hz List.not_mem_nil
      · skip
        refine g_astore (pc' := 19) (lv' := [(4, .ref q), (0, .ref (g.2.1 0)), (1, .int b), (2, .int n), (3, .ref (g.2.1 33))]) hC dL_rewind_17 rfl (by decide) rfl ?_
        refine g_iconst (pc' := 20) (v := nI 2) hC dL_rewind_19 rfl rfl ?_
        refine gh_ret hC (by decide) (by decide) dL_rewind_20 ?_
        exact ⟨by unfold kof2; rw [if_neg (by rw [x5]; decide), if_neg (by rw [x5]; decide)], (cI_f (by rw [x5]; decide)).symm⟩
  refine g_i2l (pc' := 9) hC dL_rewind_8 rfl ?_
  refine a_stl (pc' := 10) hC dL_rewind_9 rfl ?_
  refine g_goto (tgt := 21) hC dL_rewind_10 (by decide) ?_
  refine g_iconst (pc' := 22) (v := nI 0) hC dL_rewind_21 rfl rfl ?_
  refine gh_ret hC (by decide) (by decide) dL_rewind_22 ?_
  exact ⟨by unfold kof2; rw [if_pos x5], (cI_t x5).symm⟩
set_option maxHeartbeats 4000000 in
set_option maxRecDepth 20000 in
theorem h_corrupt (l : Launch) (g : Lay) (z0 : Nat) (σ : St) (b : Int32) (n : Int32) (v : Int32) (hNT : l.stackTraces = false) (hT : GT g z0) (hI : CI σ) (hG3 : GX3 g) (hw : ∀ E, wr9 (cco σ b n v).1 = some E → E = exNo ∨ E = exA ∨ E = exI)  : CH l yL_corrupt cL_corrupt 6 hL_corrupt 10 1 g z0 [.ref (g.2.1 0), .int b, .int n, .int v, .ref (g.2.1 33)] σ (FI (kof3 exNo exA (wr9 (cco σ b n v).1)) (cI (wr9 (cco σ b n v).1 = none) (ul ((cco σ b n v).2) 33 0 (((cco σ b n v).1).toInt64)) ((cco σ b n v).2))) := by
  refine CH.of (by decide) (Nat.le_of_ble_eq_true rfl) ?_
  intro x hxl hC hY
  have hC : Cx x RL cL_corrupt 6 (some .int) 10 g z0 := hC
  show GG x g z0 6 0 0 (Qh x g z0 1 (FI (kof3 exNo exA (wr9 (cco σ b n v).1)) (cI (wr9 (cco σ b n v).1 = none) (ul ((cco σ b n v).2) 33 0 (((cco σ b n v).1).toInt64)) ((cco σ b n v).2)))) σ 0 [(0, .ref (g.2.1 0)), (1, .int b), (2, .int n), (3, .int v), (4, .ref (g.2.1 33))] []
  refine g_aload (pc' := 2) (j := 4) hC dL_corrupt_0 rfl rfl ?_
  refine g_iconst (pc' := 3) (v := nI 0) hC dL_corrupt_2 rfl rfl ?_
  refine g_aload_n (pc' := 4) (j := 0) hC dL_corrupt_3 rfl rfl rfl ?_
  refine g_iload_n (pc' := 5) (j := 1) hC dL_corrupt_4 rfl rfl rfl ?_
  refine g_iload_n (pc' := 6) (j := 2) hC dL_corrupt_5 rfl rfl rfl ?_
  refine g_iload_n (pc' := 7) (j := 3) hC dL_corrupt_6 rfl rfl rfl ?_
  refine hx_Vi (pc' := 10) (kr := 0) (st := [.int (nI 0), .ref (g.2.1 33)]) hC hY (c_corrupt x.2.1 g z0 σ b n v (hxl ▸ hNT) (hT) (by first | exact hI | (simp (disch := decide) only [nb, rd_uv, rd_ur, uv_cell, ur_cell]; exact hI) | omega)) k_X9_corrupt wM_L_56 (by decide) (by decide) (ct_0 g σ) rfl rfl rfl rfl (Nat.le_of_ble_eq_true rfl) dL_corrupt_7 rfl (by decide) (by decide) (fun E x7 => ?_) (fun x7 => ?_)
  · rcases hw E x7 with rfl | rfl | rfl
    · refine ⟨15, ⟨[], ({ startPc := 0, endPc := 12, handlerPc := 15, catchType := 28 } : ExceptionTableEntry), [({ startPc := 0, endPc := 12, handlerPc := 19, catchType := 19 } : ExceptionTableEntry), ({ startPc := 0, endPc := 12, handlerPc := 23, catchType := 13 } : ExceptionTableEntry)], _, rfl, ?_, rfl, by decide, wK_L_28, (hT _ _ hC.2.2.2.2.2.2.2.2.2).2.1 exNo (by simp [exE]), rfl⟩, fun q => ?_⟩
      · exact fun z hz => absurd hz List.not_mem_nil
      · skip
        refine g_astore (pc' := 17) (lv' := [(5, .ref q), (0, .ref (g.2.1 0)), (1, .int b), (2, .int n), (3, .int v), (4, .ref (g.2.1 33))]) hC dL_corrupt_15 rfl (by decide) rfl ?_
        refine g_iconst (pc' := 18) (v := nI 1) hC dL_corrupt_17 rfl rfl ?_
        refine gh_ret hC (by decide) (by decide) dL_corrupt_18 ?_
        exact ⟨by unfold kof3; rw [if_neg (by rw [x7]; decide), if_pos x7], (cI_f (by rw [x7]; decide)).symm⟩
    · refine ⟨19, ⟨[({ startPc := 0, endPc := 12, handlerPc := 15, catchType := 28 } : ExceptionTableEntry)], ({ startPc := 0, endPc := 12, handlerPc := 19, catchType := 19 } : ExceptionTableEntry), [({ startPc := 0, endPc := 12, handlerPc := 23, catchType := 13 } : ExceptionTableEntry)], _, rfl, ?_, rfl, by decide, wK_L_19, (hT _ _ hC.2.2.2.2.2.2.2.2.2).2.1 exA (by simp [exE]), rfl⟩, fun q => ?_⟩
      · intro z hz
        rcases List.mem_cons.mp hz with rfl | hz
        · exact Or.inr ⟨by decide, _, wK_L_28, (hG3 _ _ hC.2.2.2.2.2.2.2.2.2).2.2⟩
        exact absurd hz List.not_mem_nil
      · skip
        refine g_astore (pc' := 21) (lv' := [(5, .ref q), (0, .ref (g.2.1 0)), (1, .int b), (2, .int n), (3, .int v), (4, .ref (g.2.1 33))]) hC dL_corrupt_19 rfl (by decide) rfl ?_
        refine g_iconst (pc' := 22) (v := nI 2) hC dL_corrupt_21 rfl rfl ?_
        refine gh_ret hC (by decide) (by decide) dL_corrupt_22 ?_
        exact ⟨by unfold kof3; rw [if_neg (by rw [x7]; decide), if_neg (by rw [x7]; decide), if_pos x7], (cI_f (by rw [x7]; decide)).symm⟩
    · refine ⟨23, ⟨[({ startPc := 0, endPc := 12, handlerPc := 15, catchType := 28 } : ExceptionTableEntry), ({ startPc := 0, endPc := 12, handlerPc := 19, catchType := 19 } : ExceptionTableEntry)], ({ startPc := 0, endPc := 12, handlerPc := 23, catchType := 13 } : ExceptionTableEntry), [], _, rfl, ?_, rfl, by decide, wK_L_13, (hT _ _ hC.2.2.2.2.2.2.2.2.2).2.1 exI (by simp [exE]), rfl⟩, fun q => ?_⟩
      · intro z hz
        rcases List.mem_cons.mp hz with rfl | hz
        · exact Or.inr ⟨by decide, _, wK_L_28, (hG3 _ _ hC.2.2.2.2.2.2.2.2.2).2.1⟩
        rcases List.mem_cons.mp hz with rfl | hz
        · exact Or.inr ⟨by decide, _, wK_L_19, (hG3 _ _ hC.2.2.2.2.2.2.2.2.2).1⟩
        exact absurd hz List.not_mem_nil
      · skip
        refine g_astore (pc' := 25) (lv' := [(5, .ref q), (0, .ref (g.2.1 0)), (1, .int b), (2, .int n), (3, .int v), (4, .ref (g.2.1 33))]) hC dL_corrupt_23 rfl (by decide) rfl ?_
        refine g_iconst (pc' := 26) (v := nI 3) hC dL_corrupt_25 rfl rfl ?_
        refine gh_ret hC (by decide) (by decide) dL_corrupt_26 ?_
        exact ⟨by unfold kof3; rw [if_neg (by rw [x7]; decide), if_neg (by rw [x7]; decide), if_neg (by rw [x7]; decide)], (cI_f (by rw [x7]; decide)).symm⟩
  refine g_i2l (pc' := 11) hC dL_corrupt_10 rfl ?_
  refine a_stl (pc' := 12) hC dL_corrupt_11 rfl ?_
  refine g_goto (tgt := 27) hC dL_corrupt_12 (by decide) ?_
  refine g_iconst (pc' := 28) (v := nI 0) hC dL_corrupt_27 rfl rfl ?_
  refine gh_ret hC (by decide) (by decide) dL_corrupt_28 ?_
  exact ⟨by unfold kof3; rw [if_pos x7], (cI_t x7).symm⟩
set_option maxHeartbeats 4000000 in
set_option maxRecDepth 20000 in
theorem h_heal (l : Launch) (g : Lay) (z0 : Nat) (σ : St) (ua : Int32) (ub : Int32) (hNT : l.stackTraces = false) (hT : GT g z0) (hG : GX g) (hI : CI σ) (hG3 : GX3 g) (hw : ∀ E, wr9 (chel σ ua ub).1 = some E → E = exNo ∨ E = exI)  : CH l yL_heal cL_heal 5 hL_heal 10 1 g z0 [.ref (g.2.1 0), .int ua, .int ub, .ref (g.2.1 33)] σ (FI (kof2 exNo (wr9 (chel σ ua ub).1)) (cI (wr9 (chel σ ua ub).1 = none) (ul ((chel σ ua ub).2) 33 0 (((chel σ ua ub).1).toInt64)) ((chel σ ua ub).2))) := by
  refine CH.of (by decide) (Nat.le_of_ble_eq_true rfl) ?_
  intro x hxl hC hY
  have hC : Cx x RL cL_heal 5 (some .int) 10 g z0 := hC
  show GG x g z0 5 0 0 (Qh x g z0 1 (FI (kof2 exNo (wr9 (chel σ ua ub).1)) (cI (wr9 (chel σ ua ub).1 = none) (ul ((chel σ ua ub).2) 33 0 (((chel σ ua ub).1).toInt64)) ((chel σ ua ub).2)))) σ 0 [(0, .ref (g.2.1 0)), (1, .int ua), (2, .int ub), (3, .ref (g.2.1 33))] []
  refine g_aload_n (pc' := 1) (j := 3) hC dL_heal_0 rfl rfl rfl ?_
  refine g_iconst (pc' := 2) (v := nI 0) hC dL_heal_1 rfl rfl ?_
  refine g_aload_n (pc' := 3) (j := 0) hC dL_heal_2 rfl rfl rfl ?_
  refine g_iload_n (pc' := 4) (j := 1) hC dL_heal_3 rfl rfl rfl ?_
  refine g_iload_n (pc' := 5) (j := 2) hC dL_heal_4 rfl rfl rfl ?_
  refine hx_Vi (pc' := 8) (kr := 0) (st := [.int (nI 0), .ref (g.2.1 33)]) hC hY (c_heal x.2.1 g z0 σ ua ub (hxl ▸ hNT) (hT) (hG) (by first | exact hI | (simp (disch := decide) only [nb, rd_uv, rd_ur, uv_cell, ur_cell]; exact hI) | omega)) k_X9_heal wM_L_59 (by decide) (by decide) (ct_0 g σ) rfl rfl rfl rfl (Nat.le_of_ble_eq_true rfl) dL_heal_5 rfl (by decide) (by decide) (fun E x5 => ?_) (fun x5 => ?_)
  · rcases hw E x5 with rfl | rfl
    · refine ⟨13, ⟨[], ({ startPc := 0, endPc := 10, handlerPc := 13, catchType := 28 } : ExceptionTableEntry), [({ startPc := 0, endPc := 10, handlerPc := 17, catchType := 13 } : ExceptionTableEntry)], _, rfl, ?_, rfl, by decide, wK_L_28, (hT _ _ hC.2.2.2.2.2.2.2.2.2).2.1 exNo (by simp [exE]), rfl⟩, fun q => ?_⟩
      · exact fun z hz => absurd hz List.not_mem_nil
      · skip
        refine g_astore (pc' := 15) (lv' := [(4, .ref q), (0, .ref (g.2.1 0)), (1, .int ua), (2, .int ub), (3, .ref (g.2.1 33))]) hC dL_heal_13 rfl (by decide) rfl ?_
        refine g_iconst (pc' := 16) (v := nI 1) hC dL_heal_15 rfl rfl ?_
        refine gh_ret hC (by decide) (by decide) dL_heal_16 ?_
        exact ⟨by unfold kof2; rw [if_neg (by rw [x5]; decide), if_pos x5], (cI_f (by rw [x5]; decide)).symm⟩
    · refine ⟨17, ⟨[({ startPc := 0, endPc := 10, handlerPc := 13, catchType := 28 } : ExceptionTableEntry)], ({ startPc := 0, endPc := 10, handlerPc := 17, catchType := 13 } : ExceptionTableEntry), [], _, rfl, ?_, rfl, by decide, wK_L_13, (hT _ _ hC.2.2.2.2.2.2.2.2.2).2.1 exI (by simp [exE]), rfl⟩, fun q => ?_⟩
      · intro z hz
        rcases List.mem_cons.mp hz with rfl | hz
        · exact Or.inr ⟨by decide, _, wK_L_28, (hG3 _ _ hC.2.2.2.2.2.2.2.2.2).2.1⟩
        exact absurd hz List.not_mem_nil
      · skip
        refine g_astore (pc' := 19) (lv' := [(4, .ref q), (0, .ref (g.2.1 0)), (1, .int ua), (2, .int ub), (3, .ref (g.2.1 33))]) hC dL_heal_17 rfl (by decide) rfl ?_
        refine g_iconst (pc' := 20) (v := nI 2) hC dL_heal_19 rfl rfl ?_
        refine gh_ret hC (by decide) (by decide) dL_heal_20 ?_
        exact ⟨by unfold kof2; rw [if_neg (by rw [x5]; decide), if_neg (by rw [x5]; decide)], (cI_f (by rw [x5]; decide)).symm⟩
  refine g_i2l (pc' := 9) hC dL_heal_8 rfl ?_
  refine a_stl (pc' := 10) hC dL_heal_9 rfl ?_
  refine g_goto (tgt := 21) hC dL_heal_10 (by decide) ?_
  refine g_iconst (pc' := 22) (v := nI 0) hC dL_heal_21 rfl rfl ?_
  refine gh_ret hC (by decide) (by decide) dL_heal_22 ?_
  exact ⟨by unfold kof2; rw [if_pos x5], (cI_t x5).symm⟩
set_option maxHeartbeats 4000000 in
set_option maxRecDepth 20000 in
theorem h_length (l : Launch) (g : Lay) (z0 : Nat) (σ : St) (b : Int32) (hNT : l.stackTraces = false) (hT : GT g z0) (hI : CI σ) (hG3 : GX3 g) (hw : ∀ E, wBr σ b = some E → E = exNo)  : CH l yL_length cL_length 4 hL_length 10 1 g z0 [.ref (g.2.1 0), .int b, .ref (g.2.1 33)] σ (FI (kof1 (wBr σ b)) (cI (wBr σ b = none) (ul σ 33 0 ((σ.1 (34 + 7 * cn b) 6).toInt64)) σ)) := by
  refine CH.of (by decide) (Nat.le_of_ble_eq_true rfl) ?_
  intro x hxl hC hY
  have hC : Cx x RL cL_length 4 (some .int) 10 g z0 := hC
  show GG x g z0 4 0 0 (Qh x g z0 1 (FI (kof1 (wBr σ b)) (cI (wBr σ b = none) (ul σ 33 0 ((σ.1 (34 + 7 * cn b) 6).toInt64)) σ))) σ 0 [(0, .ref (g.2.1 0)), (1, .int b), (2, .ref (g.2.1 33))] []
  refine g_aload_n (pc' := 1) (j := 2) hC dL_length_0 rfl rfl rfl ?_
  refine g_iconst (pc' := 2) (v := nI 0) hC dL_length_1 rfl rfl ?_
  refine g_aload_n (pc' := 3) (j := 0) hC dL_length_2 rfl rfl rfl ?_
  refine g_iload_n (pc' := 4) (j := 1) hC dL_length_3 rfl rfl rfl ?_
  refine hx_Vi (pc' := 7) (kr := 0) (st := [.int (nI 0), .ref (g.2.1 33)]) hC hY (c_length x.2.1 g z0 σ b (hxl ▸ hNT) (hT) (by first | exact hI | (simp (disch := decide) only [nb, rd_uv, rd_ur, uv_cell, ur_cell]; exact hI) | omega)) k_X9_length wM_L_62 (by decide) (by decide) (ct_0 g σ) rfl rfl rfl rfl (Nat.le_of_ble_eq_true rfl) dL_length_4 rfl (by decide) (by decide) (fun E x4 => ?_) (fun x4 => ?_)
  · rcases hw E x4 with rfl
    · refine ⟨12, ⟨[], ({ startPc := 0, endPc := 9, handlerPc := 12, catchType := 28 } : ExceptionTableEntry), [], _, rfl, ?_, rfl, by decide, wK_L_28, (hT _ _ hC.2.2.2.2.2.2.2.2.2).2.1 exNo (by simp [exE]), rfl⟩, fun q => ?_⟩
      · exact fun z hz => absurd hz List.not_mem_nil
      · skip
        refine g_astore_n (pc' := 13) (lv' := [(3, .ref q), (0, .ref (g.2.1 0)), (1, .int b), (2, .ref (g.2.1 33))]) hC dL_length_12 rfl rfl (by decide) rfl ?_
        refine g_iconst (pc' := 14) (v := nI 1) hC dL_length_13 rfl rfl ?_
        refine gh_ret hC (by decide) (by decide) dL_length_14 ?_
        exact ⟨by unfold kof1; rw [if_neg (by rw [x4]; decide)], (cI_f (by rw [x4]; decide)).symm⟩
  refine g_i2l (pc' := 8) hC dL_length_7 rfl ?_
  refine a_stl (pc' := 9) hC dL_length_8 rfl ?_
  refine g_goto (tgt := 15) hC dL_length_9 (by decide) ?_
  refine g_iconst (pc' := 16) (v := nI 0) hC dL_length_15 rfl rfl ?_
  refine gh_ret hC (by decide) (by decide) dL_length_16 ?_
  exact ⟨by unfold kof1; rw [if_pos x4], (cI_t x4).symm⟩
set_option maxHeartbeats 4000000 in
set_option maxRecDepth 20000 in
theorem h_entry (l : Launch) (g : Lay) (z0 : Nat) (σ : St) (b : Int32) (n : Int32) (w : Int32) (hNT : l.stackTraces = false) (hT : GT g z0) (hI : CI σ) (hG3 : GX3 g) (hw : ∀ E, wEn σ b n w = some E → E = exNo ∨ E = exA)  : CH l yL_entry cL_entry 6 hL_entry 10 3 g z0 [.ref (g.2.1 0), .int b, .int n, .int w, .ref (g.2.1 33)] σ (FI (kof2 exNo (wEn σ b n w)) (cI (wEn σ b n w = none) (ul σ 33 0 ((cpt σ (cn b) (cn n) w).toInt64)) σ)) := by
  refine CH.of (by decide) (Nat.le_of_ble_eq_true rfl) ?_
  intro x hxl hC hY
  have hC : Cx x RL cL_entry 6 (some .int) 10 g z0 := hC
  show GG x g z0 6 0 0 (Qh x g z0 3 (FI (kof2 exNo (wEn σ b n w)) (cI (wEn σ b n w = none) (ul σ 33 0 ((cpt σ (cn b) (cn n) w).toInt64)) σ))) σ 0 [(0, .ref (g.2.1 0)), (1, .int b), (2, .int n), (3, .int w), (4, .ref (g.2.1 33))] []
  refine g_aload (pc' := 2) (j := 4) hC dL_entry_0 rfl rfl ?_
  refine g_iconst (pc' := 3) (v := nI 0) hC dL_entry_2 rfl rfl ?_
  refine g_aload_n (pc' := 4) (j := 0) hC dL_entry_3 rfl rfl rfl ?_
  refine g_iload_n (pc' := 5) (j := 1) hC dL_entry_4 rfl rfl rfl ?_
  refine g_iload_n (pc' := 6) (j := 2) hC dL_entry_5 rfl rfl rfl ?_
  refine g_iload_n (pc' := 7) (j := 3) hC dL_entry_6 rfl rfl rfl ?_
  refine hx_Vi (pc' := 10) (kr := 0) (st := [.int (nI 0), .ref (g.2.1 33)]) hC hY (c_entry x.2.1 g z0 σ b n w (hxl ▸ hNT) (hT) (by first | exact hI | (simp (disch := decide) only [nb, rd_uv, rd_ur, uv_cell, ur_cell]; exact hI) | omega)) k_X9_entry wM_L_65 (by decide) (by decide) (ct_0 g σ) rfl rfl rfl rfl (Nat.le_of_ble_eq_true rfl) dL_entry_7 rfl (by decide) (by decide) (fun E x7 => ?_) (fun x7 => ?_)
  · rcases hw E x7 with rfl | rfl
    · refine ⟨15, ⟨[], ({ startPc := 0, endPc := 12, handlerPc := 15, catchType := 28 } : ExceptionTableEntry), [({ startPc := 0, endPc := 12, handlerPc := 19, catchType := 19 } : ExceptionTableEntry)], _, rfl, ?_, rfl, by decide, wK_L_28, (hT _ _ hC.2.2.2.2.2.2.2.2.2).2.1 exNo (by simp [exE]), rfl⟩, fun q => ?_⟩
      · exact fun z hz => absurd hz List.not_mem_nil
      · skip
        refine g_astore (pc' := 17) (lv' := [(5, .ref q), (0, .ref (g.2.1 0)), (1, .int b), (2, .int n), (3, .int w), (4, .ref (g.2.1 33))]) hC dL_entry_15 rfl (by decide) rfl ?_
        refine g_iconst (pc' := 18) (v := nI 1) hC dL_entry_17 rfl rfl ?_
        refine gh_ret hC (by decide) (by decide) dL_entry_18 ?_
        exact ⟨by unfold kof2; rw [if_neg (by rw [x7]; decide), if_pos x7], (cI_f (by rw [x7]; decide)).symm⟩
    · refine ⟨19, ⟨[({ startPc := 0, endPc := 12, handlerPc := 15, catchType := 28 } : ExceptionTableEntry)], ({ startPc := 0, endPc := 12, handlerPc := 19, catchType := 19 } : ExceptionTableEntry), [], _, rfl, ?_, rfl, by decide, wK_L_19, (hT _ _ hC.2.2.2.2.2.2.2.2.2).2.1 exA (by simp [exE]), rfl⟩, fun q => ?_⟩
      · intro z hz
        rcases List.mem_cons.mp hz with rfl | hz
        · exact Or.inr ⟨by decide, _, wK_L_28, (hG3 _ _ hC.2.2.2.2.2.2.2.2.2).2.2⟩
        exact absurd hz List.not_mem_nil
      · skip
        refine g_astore (pc' := 21) (lv' := [(5, .ref q), (0, .ref (g.2.1 0)), (1, .int b), (2, .int n), (3, .int w), (4, .ref (g.2.1 33))]) hC dL_entry_19 rfl (by decide) rfl ?_
        refine g_iconst (pc' := 22) (v := nI 2) hC dL_entry_21 rfl rfl ?_
        refine gh_ret hC (by decide) (by decide) dL_entry_22 ?_
        exact ⟨by unfold kof2; rw [if_neg (by rw [x7]; decide), if_neg (by rw [x7]; decide)], (cI_f (by rw [x7]; decide)).symm⟩
  refine g_i2l (pc' := 11) hC dL_entry_10 rfl ?_
  refine a_stl (pc' := 12) hC dL_entry_11 rfl ?_
  refine g_goto (tgt := 23) hC dL_entry_12 (by decide) ?_
  refine g_iconst (pc' := 24) (v := nI 0) hC dL_entry_23 rfl rfl ?_
  refine gh_ret hC (by decide) (by decide) dL_entry_24 ?_
  exact ⟨by unfold kof2; rw [if_pos x7], (cI_t x7).symm⟩
set_option maxHeartbeats 4000000 in
set_option maxRecDepth 20000 in
theorem h_value (l : Launch) (g : Lay) (z0 : Nat) (σ : St) (b : Int32) (w : Int32) (hNT : l.stackTraces = false) (hT : GT g z0) (hI : CI σ) (hG3 : GX3 g) (hw : ∀ E, wVa σ b w = some E → E = exNo)  : CH l yL_value cL_value 5 hL_value 10 2 g z0 [.ref (g.2.1 0), .int b, .int w, .ref (g.2.1 33)] σ (FI (kof1 (wVa σ b w)) (cI (wVa σ b w = none) (ul σ 33 0 ((cval σ (cn b) w (rd σ (34 + 7 * cn b) 6)).toInt64)) σ)) := by
  refine CH.of (by decide) (Nat.le_of_ble_eq_true rfl) ?_
  intro x hxl hC hY
  have hC : Cx x RL cL_value 5 (some .int) 10 g z0 := hC
  show GG x g z0 5 0 0 (Qh x g z0 2 (FI (kof1 (wVa σ b w)) (cI (wVa σ b w = none) (ul σ 33 0 ((cval σ (cn b) w (rd σ (34 + 7 * cn b) 6)).toInt64)) σ))) σ 0 [(0, .ref (g.2.1 0)), (1, .int b), (2, .int w), (3, .ref (g.2.1 33))] []
  refine g_aload_n (pc' := 1) (j := 3) hC dL_value_0 rfl rfl rfl ?_
  refine g_iconst (pc' := 2) (v := nI 0) hC dL_value_1 rfl rfl ?_
  refine g_aload_n (pc' := 3) (j := 0) hC dL_value_2 rfl rfl rfl ?_
  refine g_iload_n (pc' := 4) (j := 1) hC dL_value_3 rfl rfl rfl ?_
  refine g_iload_n (pc' := 5) (j := 2) hC dL_value_4 rfl rfl rfl ?_
  refine hx_Vi (pc' := 8) (kr := 0) (st := [.int (nI 0), .ref (g.2.1 33)]) hC hY (c_value x.2.1 g z0 σ b w (hxl ▸ hNT) (hT) (by first | exact hI | (simp (disch := decide) only [nb, rd_uv, rd_ur, uv_cell, ur_cell]; exact hI) | omega)) k_X9_value wM_L_68 (by decide) (by decide) (ct_0 g σ) rfl rfl rfl rfl (Nat.le_of_ble_eq_true rfl) dL_value_5 rfl (by decide) (by decide) (fun E x5 => ?_) (fun x5 => ?_)
  · rcases hw E x5 with rfl
    · refine ⟨13, ⟨[], ({ startPc := 0, endPc := 10, handlerPc := 13, catchType := 28 } : ExceptionTableEntry), [], _, rfl, ?_, rfl, by decide, wK_L_28, (hT _ _ hC.2.2.2.2.2.2.2.2.2).2.1 exNo (by simp [exE]), rfl⟩, fun q => ?_⟩
      · exact fun z hz => absurd hz List.not_mem_nil
      · skip
        refine g_astore (pc' := 15) (lv' := [(4, .ref q), (0, .ref (g.2.1 0)), (1, .int b), (2, .int w), (3, .ref (g.2.1 33))]) hC dL_value_13 rfl (by decide) rfl ?_
        refine g_iconst (pc' := 16) (v := nI 1) hC dL_value_15 rfl rfl ?_
        refine gh_ret hC (by decide) (by decide) dL_value_16 ?_
        exact ⟨by unfold kof1; rw [if_neg (by rw [x5]; decide)], (cI_f (by rw [x5]; decide)).symm⟩
  refine g_i2l (pc' := 9) hC dL_value_8 rfl ?_
  refine a_stl (pc' := 10) hC dL_value_9 rfl ?_
  refine g_goto (tgt := 17) hC dL_value_10 (by decide) ?_
  refine g_iconst (pc' := 18) (v := nI 0) hC dL_value_17 rfl rfl ?_
  refine gh_ret hC (by decide) (by decide) dL_value_18 ?_
  exact ⟨by unfold kof1; rw [if_pos x5], (cI_t x5).symm⟩
set_option maxHeartbeats 4000000 in
set_option maxRecDepth 20000 in
theorem h_branchOf (l : Launch) (g : Lay) (z0 : Nat) (σ : St) (c : Int32) (hNT : l.stackTraces = false) (hT : GT g z0) (hI : CI σ) (hG3 : GX3 g) (hw : ∀ E, wCl σ c = some E → E = exNo)  : CH l yL_branchOf cL_branchOf 4 hL_branchOf 10 1 g z0 [.ref (g.2.1 0), .int c, .ref (g.2.1 33)] σ (FI (kof1 (wCl σ c)) (cI (wCl σ c = none) (ul σ 33 0 ((σ.1 (90 + 3 * cn c) 3).toInt64)) σ)) := by
  refine CH.of (by decide) (Nat.le_of_ble_eq_true rfl) ?_
  intro x hxl hC hY
  have hC : Cx x RL cL_branchOf 4 (some .int) 10 g z0 := hC
  show GG x g z0 4 0 0 (Qh x g z0 1 (FI (kof1 (wCl σ c)) (cI (wCl σ c = none) (ul σ 33 0 ((σ.1 (90 + 3 * cn c) 3).toInt64)) σ))) σ 0 [(0, .ref (g.2.1 0)), (1, .int c), (2, .ref (g.2.1 33))] []
  refine g_aload_n (pc' := 1) (j := 2) hC dL_branchOf_0 rfl rfl rfl ?_
  refine g_iconst (pc' := 2) (v := nI 0) hC dL_branchOf_1 rfl rfl ?_
  refine g_aload_n (pc' := 3) (j := 0) hC dL_branchOf_2 rfl rfl rfl ?_
  refine g_iload_n (pc' := 4) (j := 1) hC dL_branchOf_3 rfl rfl rfl ?_
  refine hx_Vi (pc' := 7) (kr := 0) (st := [.int (nI 0), .ref (g.2.1 33)]) hC hY (c_branchOf x.2.1 g z0 σ c (hxl ▸ hNT) (hT) (by first | exact hI | (simp (disch := decide) only [nb, rd_uv, rd_ur, uv_cell, ur_cell]; exact hI) | omega)) k_X9_branchOf wM_L_71 (by decide) (by decide) (ct_0 g σ) rfl rfl rfl rfl (Nat.le_of_ble_eq_true rfl) dL_branchOf_4 rfl (by decide) (by decide) (fun E x4 => ?_) (fun x4 => ?_)
  · rcases hw E x4 with rfl
    · refine ⟨12, ⟨[], ({ startPc := 0, endPc := 9, handlerPc := 12, catchType := 28 } : ExceptionTableEntry), [], _, rfl, ?_, rfl, by decide, wK_L_28, (hT _ _ hC.2.2.2.2.2.2.2.2.2).2.1 exNo (by simp [exE]), rfl⟩, fun q => ?_⟩
      · exact fun z hz => absurd hz List.not_mem_nil
      · skip
        refine g_astore_n (pc' := 13) (lv' := [(3, .ref q), (0, .ref (g.2.1 0)), (1, .int c), (2, .ref (g.2.1 33))]) hC dL_branchOf_12 rfl rfl (by decide) rfl ?_
        refine g_iconst (pc' := 14) (v := nI 1) hC dL_branchOf_13 rfl rfl ?_
        refine gh_ret hC (by decide) (by decide) dL_branchOf_14 ?_
        exact ⟨by unfold kof1; rw [if_neg (by rw [x4]; decide)], (cI_f (by rw [x4]; decide)).symm⟩
  refine g_i2l (pc' := 8) hC dL_branchOf_7 rfl ?_
  refine a_stl (pc' := 9) hC dL_branchOf_8 rfl ?_
  refine g_goto (tgt := 15) hC dL_branchOf_9 (by decide) ?_
  refine g_iconst (pc' := 16) (v := nI 0) hC dL_branchOf_15 rfl rfl ?_
  refine gh_ret hC (by decide) (by decide) dL_branchOf_16 ?_
  exact ⟨by unfold kof1; rw [if_pos x4], (cI_t x4).symm⟩
set_option maxHeartbeats 4000000 in
set_option maxRecDepth 20000 in
theorem h_commonLength (l : Launch) (g : Lay) (z0 : Nat) (σ : St) (ua : Int32) (ub : Int32) (hNT : l.stackTraces = false) (hT : GT g z0) (hG : GX g) (hI : CI σ) (hG3 : GX3 g) (hw : ∀ E, w2B σ ua ub = some E → E = exNo)  : CH l yL_commonLength cL_commonLength 5 hL_commonLength 10 2 g z0 [.ref (g.2.1 0), .int ua, .int ub, .ref (g.2.1 33)] σ (FI (kof1 (w2B σ ua ub)) (cI (w2B σ ua ub = none) (ul σ 33 0 ((nI (csh σ (cn ua) (cn ub))).toInt64)) σ)) := by
  refine CH.of (by decide) (Nat.le_of_ble_eq_true rfl) ?_
  intro x hxl hC hY
  have hC : Cx x RL cL_commonLength 5 (some .int) 10 g z0 := hC
  show GG x g z0 5 0 0 (Qh x g z0 2 (FI (kof1 (w2B σ ua ub)) (cI (w2B σ ua ub = none) (ul σ 33 0 ((nI (csh σ (cn ua) (cn ub))).toInt64)) σ))) σ 0 [(0, .ref (g.2.1 0)), (1, .int ua), (2, .int ub), (3, .ref (g.2.1 33))] []
  refine g_aload_n (pc' := 1) (j := 3) hC dL_commonLength_0 rfl rfl rfl ?_
  refine g_iconst (pc' := 2) (v := nI 0) hC dL_commonLength_1 rfl rfl ?_
  refine g_aload_n (pc' := 3) (j := 0) hC dL_commonLength_2 rfl rfl rfl ?_
  refine g_iload_n (pc' := 4) (j := 1) hC dL_commonLength_3 rfl rfl rfl ?_
  refine g_iload_n (pc' := 5) (j := 2) hC dL_commonLength_4 rfl rfl rfl ?_
  refine hx_Vi (pc' := 8) (kr := 0) (st := [.int (nI 0), .ref (g.2.1 33)]) hC hY (c_commonLength x.2.1 g z0 σ ua ub (hxl ▸ hNT) (hT) (hG) (by first | exact hI | (simp (disch := decide) only [nb, rd_uv, rd_ur, uv_cell, ur_cell]; exact hI) | omega)) k_X9_commonLength wM_L_74 (by decide) (by decide) (ct_0 g σ) rfl rfl rfl rfl (Nat.le_of_ble_eq_true rfl) dL_commonLength_5 rfl (by decide) (by decide) (fun E x5 => ?_) (fun x5 => ?_)
  · rcases hw E x5 with rfl
    · refine ⟨13, ⟨[], ({ startPc := 0, endPc := 10, handlerPc := 13, catchType := 28 } : ExceptionTableEntry), [], _, rfl, ?_, rfl, by decide, wK_L_28, (hT _ _ hC.2.2.2.2.2.2.2.2.2).2.1 exNo (by simp [exE]), rfl⟩, fun q => ?_⟩
      · exact fun z hz => absurd hz List.not_mem_nil
      · skip
        refine g_astore (pc' := 15) (lv' := [(4, .ref q), (0, .ref (g.2.1 0)), (1, .int ua), (2, .int ub), (3, .ref (g.2.1 33))]) hC dL_commonLength_13 rfl (by decide) rfl ?_
        refine g_iconst (pc' := 16) (v := nI 1) hC dL_commonLength_15 rfl rfl ?_
        refine gh_ret hC (by decide) (by decide) dL_commonLength_16 ?_
        exact ⟨by unfold kof1; rw [if_neg (by rw [x5]; decide)], (cI_f (by rw [x5]; decide)).symm⟩
  refine g_i2l (pc' := 9) hC dL_commonLength_8 rfl ?_
  refine a_stl (pc' := 10) hC dL_commonLength_9 rfl ?_
  refine g_goto (tgt := 17) hC dL_commonLength_10 (by decide) ?_
  refine g_iconst (pc' := 18) (v := nI 0) hC dL_commonLength_17 rfl rfl ?_
  refine gh_ret hC (by decide) (by decide) dL_commonLength_18 ?_
  exact ⟨by unfold kof1; rw [if_pos x5], (cI_t x5).symm⟩
set_option maxHeartbeats 4000000 in
set_option maxRecDepth 20000 in
theorem h_conflicts (l : Launch) (g : Lay) (z0 : Nat) (σ : St) (ua : Int32) (ub : Int32) (hNT : l.stackTraces = false) (hT : GT g z0) (hG : GX g) (hI : CI σ) (hG3 : GX3 g) (hw : ∀ E, w2B σ ua ub = some E → E = exNo)  : CH l yL_conflicts cL_conflicts 5 hL_conflicts 10 2 g z0 [.ref (g.2.1 0), .int ua, .int ub, .ref (g.2.1 33)] σ (FI (kof1 (w2B σ ua ub)) (cI (w2B σ ua ub = none) (ul σ 33 0 ((ccf σ (cn ua) (cn ub)).toInt64)) σ)) := by
  refine CH.of (by decide) (Nat.le_of_ble_eq_true rfl) ?_
  intro x hxl hC hY
  have hC : Cx x RL cL_conflicts 5 (some .int) 10 g z0 := hC
  show GG x g z0 5 0 0 (Qh x g z0 2 (FI (kof1 (w2B σ ua ub)) (cI (w2B σ ua ub = none) (ul σ 33 0 ((ccf σ (cn ua) (cn ub)).toInt64)) σ))) σ 0 [(0, .ref (g.2.1 0)), (1, .int ua), (2, .int ub), (3, .ref (g.2.1 33))] []
  refine g_aload_n (pc' := 1) (j := 3) hC dL_conflicts_0 rfl rfl rfl ?_
  refine g_iconst (pc' := 2) (v := nI 0) hC dL_conflicts_1 rfl rfl ?_
  refine g_aload_n (pc' := 3) (j := 0) hC dL_conflicts_2 rfl rfl rfl ?_
  refine g_iload_n (pc' := 4) (j := 1) hC dL_conflicts_3 rfl rfl rfl ?_
  refine g_iload_n (pc' := 5) (j := 2) hC dL_conflicts_4 rfl rfl rfl ?_
  refine hx_Vi (pc' := 8) (kr := 0) (st := [.int (nI 0), .ref (g.2.1 33)]) hC hY (c_conflicts x.2.1 g z0 σ ua ub (hxl ▸ hNT) (hT) (hG) (by first | exact hI | (simp (disch := decide) only [nb, rd_uv, rd_ur, uv_cell, ur_cell]; exact hI) | omega)) k_X9_conflicts wM_L_77 (by decide) (by decide) (ct_0 g σ) rfl rfl rfl rfl (Nat.le_of_ble_eq_true rfl) dL_conflicts_5 rfl (by decide) (by decide) (fun E x5 => ?_) (fun x5 => ?_)
  · rcases hw E x5 with rfl
    · refine ⟨13, ⟨[], ({ startPc := 0, endPc := 10, handlerPc := 13, catchType := 28 } : ExceptionTableEntry), [], _, rfl, ?_, rfl, by decide, wK_L_28, (hT _ _ hC.2.2.2.2.2.2.2.2.2).2.1 exNo (by simp [exE]), rfl⟩, fun q => ?_⟩
      · exact fun z hz => absurd hz List.not_mem_nil
      · skip
        refine g_astore (pc' := 15) (lv' := [(4, .ref q), (0, .ref (g.2.1 0)), (1, .int ua), (2, .int ub), (3, .ref (g.2.1 33))]) hC dL_conflicts_13 rfl (by decide) rfl ?_
        refine g_iconst (pc' := 16) (v := nI 1) hC dL_conflicts_15 rfl rfl ?_
        refine gh_ret hC (by decide) (by decide) dL_conflicts_16 ?_
        exact ⟨by unfold kof1; rw [if_neg (by rw [x5]; decide)], (cI_f (by rw [x5]; decide)).symm⟩
  refine g_i2l (pc' := 9) hC dL_conflicts_8 rfl ?_
  refine a_stl (pc' := 10) hC dL_conflicts_9 rfl ?_
  refine g_goto (tgt := 17) hC dL_conflicts_10 (by decide) ?_
  refine g_iconst (pc' := 18) (v := nI 0) hC dL_conflicts_17 rfl rfl ?_
  refine gh_ret hC (by decide) (by decide) dL_conflicts_18 ?_
  exact ⟨by unfold kof1; rw [if_pos x5], (cI_t x5).symm⟩
set_option maxHeartbeats 4000000 in
set_option maxRecDepth 20000 in
theorem h_receipt (l : Launch) (g : Lay) (z0 : Nat) (σ : St) (c : Int32) (w : Int32) (hNT : l.stackTraces = false) (hT : GT g z0) (hI : CI σ) (hG3 : GX3 g) (hw : ∀ E, wRc σ c w = some E → E = exNo ∨ E = exA)  : CH l yL_receipt cL_receipt 5 hL_receipt 10 2 g z0 [.ref (g.2.1 0), .int c, .int w, .ref (g.2.1 33)] σ (FI (kof2 exNo (wRc σ c w)) (cI (wRc σ c w = none) (ul σ 33 0 ((crc σ c w).toInt64)) σ)) := by
  refine CH.of (by decide) (Nat.le_of_ble_eq_true rfl) ?_
  intro x hxl hC hY
  have hC : Cx x RL cL_receipt 5 (some .int) 10 g z0 := hC
  show GG x g z0 5 0 0 (Qh x g z0 2 (FI (kof2 exNo (wRc σ c w)) (cI (wRc σ c w = none) (ul σ 33 0 ((crc σ c w).toInt64)) σ))) σ 0 [(0, .ref (g.2.1 0)), (1, .int c), (2, .int w), (3, .ref (g.2.1 33))] []
  refine g_aload_n (pc' := 1) (j := 3) hC dL_receipt_0 rfl rfl rfl ?_
  refine g_iconst (pc' := 2) (v := nI 0) hC dL_receipt_1 rfl rfl ?_
  refine g_aload_n (pc' := 3) (j := 0) hC dL_receipt_2 rfl rfl rfl ?_
  refine g_iload_n (pc' := 4) (j := 1) hC dL_receipt_3 rfl rfl rfl ?_
  refine g_iload_n (pc' := 5) (j := 2) hC dL_receipt_4 rfl rfl rfl ?_
  refine hx_Vi (pc' := 8) (kr := 0) (st := [.int (nI 0), .ref (g.2.1 33)]) hC hY (c_receipt x.2.1 g z0 σ c w (hxl ▸ hNT) (hT) (by first | exact hI | (simp (disch := decide) only [nb, rd_uv, rd_ur, uv_cell, ur_cell]; exact hI) | omega)) k_X9_receipt wM_L_80 (by decide) (by decide) (ct_0 g σ) rfl rfl rfl rfl (Nat.le_of_ble_eq_true rfl) dL_receipt_5 rfl (by decide) (by decide) (fun E x5 => ?_) (fun x5 => ?_)
  · rcases hw E x5 with rfl | rfl
    · refine ⟨13, ⟨[], ({ startPc := 0, endPc := 10, handlerPc := 13, catchType := 28 } : ExceptionTableEntry), [({ startPc := 0, endPc := 10, handlerPc := 17, catchType := 19 } : ExceptionTableEntry)], _, rfl, ?_, rfl, by decide, wK_L_28, (hT _ _ hC.2.2.2.2.2.2.2.2.2).2.1 exNo (by simp [exE]), rfl⟩, fun q => ?_⟩
      · exact fun z hz => absurd hz List.not_mem_nil
      · skip
        refine g_astore (pc' := 15) (lv' := [(4, .ref q), (0, .ref (g.2.1 0)), (1, .int c), (2, .int w), (3, .ref (g.2.1 33))]) hC dL_receipt_13 rfl (by decide) rfl ?_
        refine g_iconst (pc' := 16) (v := nI 1) hC dL_receipt_15 rfl rfl ?_
        refine gh_ret hC (by decide) (by decide) dL_receipt_16 ?_
        exact ⟨by unfold kof2; rw [if_neg (by rw [x5]; decide), if_pos x5], (cI_f (by rw [x5]; decide)).symm⟩
    · refine ⟨17, ⟨[({ startPc := 0, endPc := 10, handlerPc := 13, catchType := 28 } : ExceptionTableEntry)], ({ startPc := 0, endPc := 10, handlerPc := 17, catchType := 19 } : ExceptionTableEntry), [], _, rfl, ?_, rfl, by decide, wK_L_19, (hT _ _ hC.2.2.2.2.2.2.2.2.2).2.1 exA (by simp [exE]), rfl⟩, fun q => ?_⟩
      · intro z hz
        rcases List.mem_cons.mp hz with rfl | hz
        · exact Or.inr ⟨by decide, _, wK_L_28, (hG3 _ _ hC.2.2.2.2.2.2.2.2.2).2.2⟩
        exact absurd hz List.not_mem_nil
      · skip
        refine g_astore (pc' := 19) (lv' := [(4, .ref q), (0, .ref (g.2.1 0)), (1, .int c), (2, .int w), (3, .ref (g.2.1 33))]) hC dL_receipt_17 rfl (by decide) rfl ?_
        refine g_iconst (pc' := 20) (v := nI 2) hC dL_receipt_19 rfl rfl ?_
        refine gh_ret hC (by decide) (by decide) dL_receipt_20 ?_
        exact ⟨by unfold kof2; rw [if_neg (by rw [x5]; decide), if_neg (by rw [x5]; decide)], (cI_f (by rw [x5]; decide)).symm⟩
  refine g_i2l (pc' := 9) hC dL_receipt_8 rfl ?_
  refine a_stl (pc' := 10) hC dL_receipt_9 rfl ?_
  refine g_goto (tgt := 21) hC dL_receipt_10 (by decide) ?_
  refine g_iconst (pc' := 22) (v := nI 0) hC dL_receipt_21 rfl rfl ?_
  refine gh_ret hC (by decide) (by decide) dL_receipt_22 ?_
  exact ⟨by unfold kof2; rw [if_pos x5], (cI_t x5).symm⟩
set_option maxHeartbeats 4000000 in
set_option maxRecDepth 20000 in
theorem h_hashAt (l : Launch) (g : Lay) (z0 : Nat) (σ : St) (c : Int32) (n : Int32) (hNT : l.stackTraces = false) (hT : GT g z0) (hI : CI σ) (hG3 : GX3 g) (hw : ∀ E, wHa σ c n = some E → E = exNo)  : CH l yL_hashAt cL_hashAt 5 hL_hashAt 10 2 g z0 [.ref (g.2.1 0), .int c, .int n, .ref (g.2.1 33)] σ (FI (kof1 (wHa σ c n)) (cI (wHa σ c n = none) (ul σ 33 0 ((σ.1 (90 + 3 * cn c + 1) (cn n)).toInt64)) σ)) := by
  refine CH.of (by decide) (Nat.le_of_ble_eq_true rfl) ?_
  intro x hxl hC hY
  have hC : Cx x RL cL_hashAt 5 (some .int) 10 g z0 := hC
  show GG x g z0 5 0 0 (Qh x g z0 2 (FI (kof1 (wHa σ c n)) (cI (wHa σ c n = none) (ul σ 33 0 ((σ.1 (90 + 3 * cn c + 1) (cn n)).toInt64)) σ))) σ 0 [(0, .ref (g.2.1 0)), (1, .int c), (2, .int n), (3, .ref (g.2.1 33))] []
  refine g_aload_n (pc' := 1) (j := 3) hC dL_hashAt_0 rfl rfl rfl ?_
  refine g_iconst (pc' := 2) (v := nI 0) hC dL_hashAt_1 rfl rfl ?_
  refine g_aload_n (pc' := 3) (j := 0) hC dL_hashAt_2 rfl rfl rfl ?_
  refine g_iload_n (pc' := 4) (j := 1) hC dL_hashAt_3 rfl rfl rfl ?_
  refine g_iload_n (pc' := 5) (j := 2) hC dL_hashAt_4 rfl rfl rfl ?_
  refine hx_Vi (pc' := 8) (kr := 0) (st := [.int (nI 0), .ref (g.2.1 33)]) hC hY (c_hashAt x.2.1 g z0 σ c n (hxl ▸ hNT) (hT) (by first | exact hI | (simp (disch := decide) only [nb, rd_uv, rd_ur, uv_cell, ur_cell]; exact hI) | omega)) k_X9_hashAt wM_L_83 (by decide) (by decide) (ct_0 g σ) rfl rfl rfl rfl (Nat.le_of_ble_eq_true rfl) dL_hashAt_5 rfl (by decide) (by decide) (fun E x5 => ?_) (fun x5 => ?_)
  · rcases hw E x5 with rfl
    · refine ⟨13, ⟨[], ({ startPc := 0, endPc := 10, handlerPc := 13, catchType := 28 } : ExceptionTableEntry), [], _, rfl, ?_, rfl, by decide, wK_L_28, (hT _ _ hC.2.2.2.2.2.2.2.2.2).2.1 exNo (by simp [exE]), rfl⟩, fun q => ?_⟩
      · exact fun z hz => absurd hz List.not_mem_nil
      · skip
        refine g_astore (pc' := 15) (lv' := [(4, .ref q), (0, .ref (g.2.1 0)), (1, .int c), (2, .int n), (3, .ref (g.2.1 33))]) hC dL_hashAt_13 rfl (by decide) rfl ?_
        refine g_iconst (pc' := 16) (v := nI 1) hC dL_hashAt_15 rfl rfl ?_
        refine gh_ret hC (by decide) (by decide) dL_hashAt_16 ?_
        exact ⟨by unfold kof1; rw [if_neg (by rw [x5]; decide)], (cI_f (by rw [x5]; decide)).symm⟩
  refine g_i2l (pc' := 9) hC dL_hashAt_8 rfl ?_
  refine a_stl (pc' := 10) hC dL_hashAt_9 rfl ?_
  refine g_goto (tgt := 17) hC dL_hashAt_10 (by decide) ?_
  refine g_iconst (pc' := 18) (v := nI 0) hC dL_hashAt_17 rfl rfl ?_
  refine gh_ret hC (by decide) (by decide) dL_hashAt_18 ?_
  exact ⟨by unfold kof1; rw [if_pos x5], (cI_t x5).symm⟩
set_option maxHeartbeats 4000000 in
set_option maxRecDepth 20000 in
theorem h_vector (l : Launch) (g : Lay) (z0 : Nat) (σ : St) (ua : Int32) (ub : Int32) (hNT : l.stackTraces = false) (hT : GT g z0) (hI : CI σ) (hG3 : GX3 g) (hw : ∀ E, w2C σ ua ub = some E → E = exNo)  : CH l yL_vector cL_vector 5 hL_vector 10 2 g z0 [.ref (g.2.1 0), .int ua, .int ub, .ref (g.2.1 33)] σ (FI (kof1 (w2C σ ua ub)) (cI (w2C σ ua ub = none) (ul σ 33 0 ((σ.1 (90 + 3 * cn ua + 2) (cn ub)).toInt64)) σ)) := by
  refine CH.of (by decide) (Nat.le_of_ble_eq_true rfl) ?_
  intro x hxl hC hY
  have hC : Cx x RL cL_vector 5 (some .int) 10 g z0 := hC
  show GG x g z0 5 0 0 (Qh x g z0 2 (FI (kof1 (w2C σ ua ub)) (cI (w2C σ ua ub = none) (ul σ 33 0 ((σ.1 (90 + 3 * cn ua + 2) (cn ub)).toInt64)) σ))) σ 0 [(0, .ref (g.2.1 0)), (1, .int ua), (2, .int ub), (3, .ref (g.2.1 33))] []
  refine g_aload_n (pc' := 1) (j := 3) hC dL_vector_0 rfl rfl rfl ?_
  refine g_iconst (pc' := 2) (v := nI 0) hC dL_vector_1 rfl rfl ?_
  refine g_aload_n (pc' := 3) (j := 0) hC dL_vector_2 rfl rfl rfl ?_
  refine g_iload_n (pc' := 4) (j := 1) hC dL_vector_3 rfl rfl rfl ?_
  refine g_iload_n (pc' := 5) (j := 2) hC dL_vector_4 rfl rfl rfl ?_
  refine hx_Vi (pc' := 8) (kr := 0) (st := [.int (nI 0), .ref (g.2.1 33)]) hC hY (c_vector x.2.1 g z0 σ ua ub (hxl ▸ hNT) (hT) (by first | exact hI | (simp (disch := decide) only [nb, rd_uv, rd_ur, uv_cell, ur_cell]; exact hI) | omega)) k_X9_vector wM_L_86 (by decide) (by decide) (ct_0 g σ) rfl rfl rfl rfl (Nat.le_of_ble_eq_true rfl) dL_vector_5 rfl (by decide) (by decide) (fun E x5 => ?_) (fun x5 => ?_)
  · rcases hw E x5 with rfl
    · refine ⟨13, ⟨[], ({ startPc := 0, endPc := 10, handlerPc := 13, catchType := 28 } : ExceptionTableEntry), [], _, rfl, ?_, rfl, by decide, wK_L_28, (hT _ _ hC.2.2.2.2.2.2.2.2.2).2.1 exNo (by simp [exE]), rfl⟩, fun q => ?_⟩
      · exact fun z hz => absurd hz List.not_mem_nil
      · skip
        refine g_astore (pc' := 15) (lv' := [(4, .ref q), (0, .ref (g.2.1 0)), (1, .int ua), (2, .int ub), (3, .ref (g.2.1 33))]) hC dL_vector_13 rfl (by decide) rfl ?_
        refine g_iconst (pc' := 16) (v := nI 1) hC dL_vector_15 rfl rfl ?_
        refine gh_ret hC (by decide) (by decide) dL_vector_16 ?_
        exact ⟨by unfold kof1; rw [if_neg (by rw [x5]; decide)], (cI_f (by rw [x5]; decide)).symm⟩
  refine g_i2l (pc' := 9) hC dL_vector_8 rfl ?_
  refine a_stl (pc' := 10) hC dL_vector_9 rfl ?_
  refine g_goto (tgt := 17) hC dL_vector_10 (by decide) ?_
  refine g_iconst (pc' := 18) (v := nI 0) hC dL_vector_17 rfl rfl ?_
  refine gh_ret hC (by decide) (by decide) dL_vector_18 ?_
  exact ⟨by unfold kof1; rw [if_pos x5], (cI_t x5).symm⟩
set_option maxHeartbeats 4000000 in
set_option maxRecDepth 20000 in
theorem h_order (l : Launch) (g : Lay) (z0 : Nat) (σ : St) (ua : Int32) (ub : Int32) (hNT : l.stackTraces = false) (hT : GT g z0) (hI : CI σ) (hG3 : GX3 g) (hw : ∀ E, w2C σ ua ub = some E → E = exNo)  : CH l yL_order cL_order 5 hL_order 10 2 g z0 [.ref (g.2.1 0), .int ua, .int ub, .ref (g.2.1 33)] σ (FI (kof1 (w2C σ ua ub)) (cI (w2C σ ua ub = none) (ul σ 33 0 ((ordF (σ.1 (90 + 3 * cn ua + 2)) (σ.1 (90 + 3 * cn ub + 2)) 6).toInt64)) σ)) := by
  refine CH.of (by decide) (Nat.le_of_ble_eq_true rfl) ?_
  intro x hxl hC hY
  have hC : Cx x RL cL_order 5 (some .int) 10 g z0 := hC
  show GG x g z0 5 0 0 (Qh x g z0 2 (FI (kof1 (w2C σ ua ub)) (cI (w2C σ ua ub = none) (ul σ 33 0 ((ordF (σ.1 (90 + 3 * cn ua + 2)) (σ.1 (90 + 3 * cn ub + 2)) 6).toInt64)) σ))) σ 0 [(0, .ref (g.2.1 0)), (1, .int ua), (2, .int ub), (3, .ref (g.2.1 33))] []
  refine g_aload_n (pc' := 1) (j := 3) hC dL_order_0 rfl rfl rfl ?_
  refine g_iconst (pc' := 2) (v := nI 0) hC dL_order_1 rfl rfl ?_
  refine g_aload_n (pc' := 3) (j := 0) hC dL_order_2 rfl rfl rfl ?_
  refine g_iload_n (pc' := 4) (j := 1) hC dL_order_3 rfl rfl rfl ?_
  refine g_iload_n (pc' := 5) (j := 2) hC dL_order_4 rfl rfl rfl ?_
  refine hx_Vi (pc' := 8) (kr := 0) (st := [.int (nI 0), .ref (g.2.1 33)]) hC hY (c_order x.2.1 g z0 σ ua ub (hxl ▸ hNT) (hT) (by first | exact hI | (simp (disch := decide) only [nb, rd_uv, rd_ur, uv_cell, ur_cell]; exact hI) | omega)) k_X9_order wM_L_89 (by decide) (by decide) (ct_0 g σ) rfl rfl rfl rfl (Nat.le_of_ble_eq_true rfl) dL_order_5 rfl (by decide) (by decide) (fun E x5 => ?_) (fun x5 => ?_)
  · rcases hw E x5 with rfl
    · refine ⟨13, ⟨[], ({ startPc := 0, endPc := 10, handlerPc := 13, catchType := 28 } : ExceptionTableEntry), [], _, rfl, ?_, rfl, by decide, wK_L_28, (hT _ _ hC.2.2.2.2.2.2.2.2.2).2.1 exNo (by simp [exE]), rfl⟩, fun q => ?_⟩
      · exact fun z hz => absurd hz List.not_mem_nil
      · skip
        refine g_astore (pc' := 15) (lv' := [(4, .ref q), (0, .ref (g.2.1 0)), (1, .int ua), (2, .int ub), (3, .ref (g.2.1 33))]) hC dL_order_13 rfl (by decide) rfl ?_
        refine g_iconst (pc' := 16) (v := nI 1) hC dL_order_15 rfl rfl ?_
        refine gh_ret hC (by decide) (by decide) dL_order_16 ?_
        exact ⟨by unfold kof1; rw [if_neg (by rw [x5]; decide)], (cI_f (by rw [x5]; decide)).symm⟩
  refine g_i2l (pc' := 9) hC dL_order_8 rfl ?_
  refine a_stl (pc' := 10) hC dL_order_9 rfl ?_
  refine g_goto (tgt := 17) hC dL_order_10 (by decide) ?_
  refine g_iconst (pc' := 18) (v := nI 0) hC dL_order_17 rfl rfl ?_
  refine gh_ret hC (by decide) (by decide) dL_order_18 ?_
  exact ⟨by unfold kof1; rw [if_pos x5], (cI_t x5).symm⟩
set_option maxHeartbeats 4000000 in
set_option maxRecDepth 20000 in
theorem h_isSuspicious (l : Launch) (g : Lay) (z0 : Nat) (σ : St) (c : Int32) (hNT : l.stackTraces = false) (hT : GT g z0) (hI : CI σ) (hG3 : GX3 g) (hw : ∀ E, wCl σ c = some E → E = exNo)  : CH l yL_isSuspicious cL_isSuspicious 4 hL_isSuspicious 10 1 g z0 [.ref (g.2.1 0), .int c, .ref (g.2.1 33)] σ (FI (kof1 (wCl σ c)) (cI (wCl σ c = none) (ul σ 33 0 (cI (σ.1 (90 + 3 * cn c) 5 = 0) 0 1)) σ)) := by
  refine CH.of (by decide) (Nat.le_of_ble_eq_true rfl) ?_
  intro x hxl hC hY
  have hC : Cx x RL cL_isSuspicious 4 (some .int) 10 g z0 := hC
  show GG x g z0 4 0 0 (Qh x g z0 1 (FI (kof1 (wCl σ c)) (cI (wCl σ c = none) (ul σ 33 0 (cI (σ.1 (90 + 3 * cn c) 5 = 0) 0 1)) σ))) σ 0 [(0, .ref (g.2.1 0)), (1, .int c), (2, .ref (g.2.1 33))] []
  refine g_aload_n (pc' := 1) (j := 2) hC dL_isSuspicious_0 rfl rfl rfl ?_
  refine g_iconst (pc' := 2) (v := nI 0) hC dL_isSuspicious_1 rfl rfl ?_
  refine g_aload_n (pc' := 3) (j := 0) hC dL_isSuspicious_2 rfl rfl rfl ?_
  refine g_iload_n (pc' := 4) (j := 1) hC dL_isSuspicious_3 rfl rfl rfl ?_
  refine hx_Vi (pc' := 7) (kr := 0) (st := [.int (nI 0), .ref (g.2.1 33)]) hC hY (c_isSuspicious x.2.1 g z0 σ c (hxl ▸ hNT) (hT) (by first | exact hI | (simp (disch := decide) only [nb, rd_uv, rd_ur, uv_cell, ur_cell]; exact hI) | omega)) k_X9_isSuspicious wM_L_92 (by decide) (by decide) (ct_0 g σ) rfl rfl rfl rfl (Nat.le_of_ble_eq_true rfl) dL_isSuspicious_4 rfl (by decide) (by decide) (fun E x4 => ?_) (fun x4 => ?_)
  · rcases hw E x4 with rfl
    · refine ⟨19, ⟨[], ({ startPc := 0, endPc := 16, handlerPc := 19, catchType := 28 } : ExceptionTableEntry), [], _, rfl, ?_, rfl, by decide, wK_L_28, (hT _ _ hC.2.2.2.2.2.2.2.2.2).2.1 exNo (by simp [exE]), rfl⟩, fun q => ?_⟩
      · exact fun z hz => absurd hz List.not_mem_nil
      · skip
        refine g_astore_n (pc' := 20) (lv' := [(3, .ref q), (0, .ref (g.2.1 0)), (1, .int c), (2, .ref (g.2.1 33))]) hC dL_isSuspicious_19 rfl rfl (by decide) rfl ?_
        refine g_iconst (pc' := 21) (v := nI 1) hC dL_isSuspicious_20 rfl rfl ?_
        refine gh_ret hC (by decide) (by decide) dL_isSuspicious_21 ?_
        exact ⟨by unfold kof1; rw [if_neg (by rw [x4]; decide)], (cI_f (by rw [x4]; decide)).symm⟩
  refine g_if_eq (pc' := 10) (tgt := 14) hC dL_isSuspicious_7 (by decide) rfl (fun c7 => ?_) (fun c7 => ?_)
  · skip
    refine g_lconst (pc' := 15) (v := 0) hC dL_isSuspicious_14 rfl rfl ?_
    refine a_stl (pc' := 16) hC dL_isSuspicious_15 rfl ?_
    refine g_goto (tgt := 22) hC dL_isSuspicious_16 (by decide) ?_
    refine g_iconst (pc' := 23) (v := nI 0) hC dL_isSuspicious_22 rfl rfl ?_
    refine gh_ret hC (by decide) (by decide) dL_isSuspicious_23 ?_
    exact ⟨by unfold kof1; rw [if_pos x4], (by rw [cI_t x4, cI_t c7])⟩
  · skip
    refine g_lconst (pc' := 11) (v := 1) hC dL_isSuspicious_10 rfl rfl ?_
    refine g_goto (tgt := 15) hC dL_isSuspicious_11 (by decide) ?_
    refine a_stl (pc' := 16) hC dL_isSuspicious_15 rfl ?_
    refine g_goto (tgt := 22) hC dL_isSuspicious_16 (by decide) ?_
    refine g_iconst (pc' := 23) (v := nI 0) hC dL_isSuspicious_22 rfl rfl ?_
    refine gh_ret hC (by decide) (by decide) dL_isSuspicious_23 ?_
    exact ⟨by unfold kof1; rw [if_pos x4], (by rw [cI_t x4, cI_f c7])⟩
set_option maxHeartbeats 4000000 in
set_option maxRecDepth 20000 in
theorem h_wouldFind (l : Launch) (g : Lay) (z0 : Nat) (σ : St) (c : Int32) (hNT : l.stackTraces = false) (hT : GT g z0) (hI : CI σ) (hG3 : GX3 g) (hw : ∀ E, wCl σ c = some E → E = exNo)  : CH l yL_wouldFind cL_wouldFind 4 hL_wouldFind 10 1 g z0 [.ref (g.2.1 0), .int c, .ref (g.2.1 33)] σ (FI (kof1 (wCl σ c)) (cI (wCl σ c = none) (ul σ 33 0 ((nI (cfc σ (cn c))).toInt64)) σ)) := by
  refine CH.of (by decide) (Nat.le_of_ble_eq_true rfl) ?_
  intro x hxl hC hY
  have hC : Cx x RL cL_wouldFind 4 (some .int) 10 g z0 := hC
  show GG x g z0 4 0 0 (Qh x g z0 1 (FI (kof1 (wCl σ c)) (cI (wCl σ c = none) (ul σ 33 0 ((nI (cfc σ (cn c))).toInt64)) σ))) σ 0 [(0, .ref (g.2.1 0)), (1, .int c), (2, .ref (g.2.1 33))] []
  refine g_aload_n (pc' := 1) (j := 2) hC dL_wouldFind_0 rfl rfl rfl ?_
  refine g_iconst (pc' := 2) (v := nI 0) hC dL_wouldFind_1 rfl rfl ?_
  refine g_aload_n (pc' := 3) (j := 0) hC dL_wouldFind_2 rfl rfl rfl ?_
  refine g_iload_n (pc' := 4) (j := 1) hC dL_wouldFind_3 rfl rfl rfl ?_
  refine hx_Vi (pc' := 7) (kr := 0) (st := [.int (nI 0), .ref (g.2.1 33)]) hC hY (c_wouldFind x.2.1 g z0 σ c (hxl ▸ hNT) (hT) (by first | exact hI | (simp (disch := decide) only [nb, rd_uv, rd_ur, uv_cell, ur_cell]; exact hI) | omega)) k_X9_wouldFind wM_L_95 (by decide) (by decide) (ct_0 g σ) rfl rfl rfl rfl (Nat.le_of_ble_eq_true rfl) dL_wouldFind_4 rfl (by decide) (by decide) (fun E x4 => ?_) (fun x4 => ?_)
  · rcases hw E x4 with rfl
    · refine ⟨12, ⟨[], ({ startPc := 0, endPc := 9, handlerPc := 12, catchType := 28 } : ExceptionTableEntry), [], _, rfl, ?_, rfl, by decide, wK_L_28, (hT _ _ hC.2.2.2.2.2.2.2.2.2).2.1 exNo (by simp [exE]), rfl⟩, fun q => ?_⟩
      · exact fun z hz => absurd hz List.not_mem_nil
      · skip
        refine g_astore_n (pc' := 13) (lv' := [(3, .ref q), (0, .ref (g.2.1 0)), (1, .int c), (2, .ref (g.2.1 33))]) hC dL_wouldFind_12 rfl rfl (by decide) rfl ?_
        refine g_iconst (pc' := 14) (v := nI 1) hC dL_wouldFind_13 rfl rfl ?_
        refine gh_ret hC (by decide) (by decide) dL_wouldFind_14 ?_
        exact ⟨by unfold kof1; rw [if_neg (by rw [x4]; decide)], (cI_f (by rw [x4]; decide)).symm⟩
  refine g_i2l (pc' := 8) hC dL_wouldFind_7 rfl ?_
  refine a_stl (pc' := 9) hC dL_wouldFind_8 rfl ?_
  refine g_goto (tgt := 15) hC dL_wouldFind_9 (by decide) ?_
  refine g_iconst (pc' := 16) (v := nI 0) hC dL_wouldFind_15 rfl rfl ?_
  refine gh_ret hC (by decide) (by decide) dL_wouldFind_16 ?_
  exact ⟨by unfold kof1; rw [if_pos x4], (cI_t x4).symm⟩
set_option maxHeartbeats 4000000 in
set_option maxRecDepth 20000 in
theorem h_seenBy (l : Launch) (g : Lay) (z0 : Nat) (σ : St) (c : Int32) (hNT : l.stackTraces = false) (hT : GT g z0) (hI : CI σ) (hG3 : GX3 g) (hw : ∀ E, wCl σ c = some E → E = exNo)  : CH l yL_seenBy cL_seenBy 4 hL_seenBy 10 1 g z0 [.ref (g.2.1 0), .int c, .ref (g.2.1 33)] σ (FI (kof1 (wCl σ c)) (cI (wCl σ c = none) (ul σ 33 0 ((csb σ (cn c) (rd σ 8 4)).toInt64)) σ)) := by
  refine CH.of (by decide) (Nat.le_of_ble_eq_true rfl) ?_
  intro x hxl hC hY
  have hC : Cx x RL cL_seenBy 4 (some .int) 10 g z0 := hC
  show GG x g z0 4 0 0 (Qh x g z0 1 (FI (kof1 (wCl σ c)) (cI (wCl σ c = none) (ul σ 33 0 ((csb σ (cn c) (rd σ 8 4)).toInt64)) σ))) σ 0 [(0, .ref (g.2.1 0)), (1, .int c), (2, .ref (g.2.1 33))] []
  refine g_aload_n (pc' := 1) (j := 2) hC dL_seenBy_0 rfl rfl rfl ?_
  refine g_iconst (pc' := 2) (v := nI 0) hC dL_seenBy_1 rfl rfl ?_
  refine g_aload_n (pc' := 3) (j := 0) hC dL_seenBy_2 rfl rfl rfl ?_
  refine g_iload_n (pc' := 4) (j := 1) hC dL_seenBy_3 rfl rfl rfl ?_
  refine hx_Vi (pc' := 7) (kr := 0) (st := [.int (nI 0), .ref (g.2.1 33)]) hC hY (c_seenBy x.2.1 g z0 σ c (hxl ▸ hNT) (hT) (by first | exact hI | (simp (disch := decide) only [nb, rd_uv, rd_ur, uv_cell, ur_cell]; exact hI) | omega)) k_X9_seenBy wM_L_98 (by decide) (by decide) (ct_0 g σ) rfl rfl rfl rfl (Nat.le_of_ble_eq_true rfl) dL_seenBy_4 rfl (by decide) (by decide) (fun E x4 => ?_) (fun x4 => ?_)
  · rcases hw E x4 with rfl
    · refine ⟨12, ⟨[], ({ startPc := 0, endPc := 9, handlerPc := 12, catchType := 28 } : ExceptionTableEntry), [], _, rfl, ?_, rfl, by decide, wK_L_28, (hT _ _ hC.2.2.2.2.2.2.2.2.2).2.1 exNo (by simp [exE]), rfl⟩, fun q => ?_⟩
      · exact fun z hz => absurd hz List.not_mem_nil
      · skip
        refine g_astore_n (pc' := 13) (lv' := [(3, .ref q), (0, .ref (g.2.1 0)), (1, .int c), (2, .ref (g.2.1 33))]) hC dL_seenBy_12 rfl rfl (by decide) rfl ?_
        refine g_iconst (pc' := 14) (v := nI 1) hC dL_seenBy_13 rfl rfl ?_
        refine gh_ret hC (by decide) (by decide) dL_seenBy_14 ?_
        exact ⟨by unfold kof1; rw [if_neg (by rw [x4]; decide)], (cI_f (by rw [x4]; decide)).symm⟩
  refine g_i2l (pc' := 8) hC dL_seenBy_7 rfl ?_
  refine a_stl (pc' := 9) hC dL_seenBy_8 rfl ?_
  refine g_goto (tgt := 15) hC dL_seenBy_9 (by decide) ?_
  refine g_iconst (pc' := 16) (v := nI 0) hC dL_seenBy_15 rfl rfl ?_
  refine gh_ret hC (by decide) (by decide) dL_seenBy_16 ?_
  exact ⟨by unfold kof1; rw [if_pos x4], (cI_t x4).symm⟩
set_option maxHeartbeats 4000000 in
set_option maxRecDepth 20000 in
theorem h_blame (l : Launch) (g : Lay) (z0 : Nat) (σ : St) (i : Int32) (w : Int32) (hNT : l.stackTraces = false) (hT : GT g z0) (hI : CI σ) (hG3 : GX3 g) (hw : ∀ E, wBm σ i w = some E → E = exNo ∨ E = exA)  : CH l yL_blame cL_blame 5 hL_blame 10 2 g z0 [.ref (g.2.1 0), .int i, .int w, .ref (g.2.1 33)] σ (FI (kof2 exNo (wBm σ i w)) (cI (wBm σ i w = none) (ul σ 33 0 ((σ.1 12 (cn i * 6 + cn w)).toInt64)) σ)) := by
  refine CH.of (by decide) (Nat.le_of_ble_eq_true rfl) ?_
  intro x hxl hC hY
  have hC : Cx x RL cL_blame 5 (some .int) 10 g z0 := hC
  show GG x g z0 5 0 0 (Qh x g z0 2 (FI (kof2 exNo (wBm σ i w)) (cI (wBm σ i w = none) (ul σ 33 0 ((σ.1 12 (cn i * 6 + cn w)).toInt64)) σ))) σ 0 [(0, .ref (g.2.1 0)), (1, .int i), (2, .int w), (3, .ref (g.2.1 33))] []
  refine g_aload_n (pc' := 1) (j := 3) hC dL_blame_0 rfl rfl rfl ?_
  refine g_iconst (pc' := 2) (v := nI 0) hC dL_blame_1 rfl rfl ?_
  refine g_aload_n (pc' := 3) (j := 0) hC dL_blame_2 rfl rfl rfl ?_
  refine g_iload_n (pc' := 4) (j := 1) hC dL_blame_3 rfl rfl rfl ?_
  refine g_iload_n (pc' := 5) (j := 2) hC dL_blame_4 rfl rfl rfl ?_
  refine hx_Vi (pc' := 8) (kr := 0) (st := [.int (nI 0), .ref (g.2.1 33)]) hC hY (c_blame x.2.1 g z0 σ i w (hxl ▸ hNT) (hT) (by first | exact hI | (simp (disch := decide) only [nb, rd_uv, rd_ur, uv_cell, ur_cell]; exact hI) | omega)) k_X9_blame wM_L_101 (by decide) (by decide) (ct_0 g σ) rfl rfl rfl rfl (Nat.le_of_ble_eq_true rfl) dL_blame_5 rfl (by decide) (by decide) (fun E x5 => ?_) (fun x5 => ?_)
  · rcases hw E x5 with rfl | rfl
    · refine ⟨13, ⟨[], ({ startPc := 0, endPc := 10, handlerPc := 13, catchType := 28 } : ExceptionTableEntry), [({ startPc := 0, endPc := 10, handlerPc := 17, catchType := 19 } : ExceptionTableEntry)], _, rfl, ?_, rfl, by decide, wK_L_28, (hT _ _ hC.2.2.2.2.2.2.2.2.2).2.1 exNo (by simp [exE]), rfl⟩, fun q => ?_⟩
      · exact fun z hz => absurd hz List.not_mem_nil
      · skip
        refine g_astore (pc' := 15) (lv' := [(4, .ref q), (0, .ref (g.2.1 0)), (1, .int i), (2, .int w), (3, .ref (g.2.1 33))]) hC dL_blame_13 rfl (by decide) rfl ?_
        refine g_iconst (pc' := 16) (v := nI 1) hC dL_blame_15 rfl rfl ?_
        refine gh_ret hC (by decide) (by decide) dL_blame_16 ?_
        exact ⟨by unfold kof2; rw [if_neg (by rw [x5]; decide), if_pos x5], (cI_f (by rw [x5]; decide)).symm⟩
    · refine ⟨17, ⟨[({ startPc := 0, endPc := 10, handlerPc := 13, catchType := 28 } : ExceptionTableEntry)], ({ startPc := 0, endPc := 10, handlerPc := 17, catchType := 19 } : ExceptionTableEntry), [], _, rfl, ?_, rfl, by decide, wK_L_19, (hT _ _ hC.2.2.2.2.2.2.2.2.2).2.1 exA (by simp [exE]), rfl⟩, fun q => ?_⟩
      · intro z hz
        rcases List.mem_cons.mp hz with rfl | hz
        · exact Or.inr ⟨by decide, _, wK_L_28, (hG3 _ _ hC.2.2.2.2.2.2.2.2.2).2.2⟩
        exact absurd hz List.not_mem_nil
      · skip
        refine g_astore (pc' := 19) (lv' := [(4, .ref q), (0, .ref (g.2.1 0)), (1, .int i), (2, .int w), (3, .ref (g.2.1 33))]) hC dL_blame_17 rfl (by decide) rfl ?_
        refine g_iconst (pc' := 20) (v := nI 2) hC dL_blame_19 rfl rfl ?_
        refine gh_ret hC (by decide) (by decide) dL_blame_20 ?_
        exact ⟨by unfold kof2; rw [if_neg (by rw [x5]; decide), if_neg (by rw [x5]; decide)], (cI_f (by rw [x5]; decide)).symm⟩
  refine g_i2l (pc' := 9) hC dL_blame_8 rfl ?_
  refine a_stl (pc' := 10) hC dL_blame_9 rfl ?_
  refine g_goto (tgt := 21) hC dL_blame_10 (by decide) ?_
  refine g_iconst (pc' := 22) (v := nI 0) hC dL_blame_21 rfl rfl ?_
  refine gh_ret hC (by decide) (by decide) dL_blame_22 ?_
  exact ⟨by unfold kof2; rw [if_pos x5], (cI_t x5).symm⟩
set_option maxHeartbeats 4000000 in
set_option maxRecDepth 20000 in
theorem h_boardPost (l : Launch) (g : Lay) (z0 : Nat) (σ : St) (i : Int32) (w : Int32) (hNT : l.stackTraces = false) (hT : GT g z0) (hI : CI σ) (hG3 : GX3 g) (hw : ∀ E, wBp σ i w = some E → E = exNo ∨ E = exA)  : CH l yL_boardPost cL_boardPost 5 hL_boardPost 10 2 g z0 [.ref (g.2.1 0), .int i, .int w, .ref (g.2.1 33)] σ (FI (kof2 exNo (wBp σ i w)) (cI (wBp σ i w = none) (ul σ 33 0 ((σ.1 14 (cn i * 4 + cn w)).toInt64)) σ)) := by
  refine CH.of (by decide) (Nat.le_of_ble_eq_true rfl) ?_
  intro x hxl hC hY
  have hC : Cx x RL cL_boardPost 5 (some .int) 10 g z0 := hC
  show GG x g z0 5 0 0 (Qh x g z0 2 (FI (kof2 exNo (wBp σ i w)) (cI (wBp σ i w = none) (ul σ 33 0 ((σ.1 14 (cn i * 4 + cn w)).toInt64)) σ))) σ 0 [(0, .ref (g.2.1 0)), (1, .int i), (2, .int w), (3, .ref (g.2.1 33))] []
  refine g_aload_n (pc' := 1) (j := 3) hC dL_boardPost_0 rfl rfl rfl ?_
  refine g_iconst (pc' := 2) (v := nI 0) hC dL_boardPost_1 rfl rfl ?_
  refine g_aload_n (pc' := 3) (j := 0) hC dL_boardPost_2 rfl rfl rfl ?_
  refine g_iload_n (pc' := 4) (j := 1) hC dL_boardPost_3 rfl rfl rfl ?_
  refine g_iload_n (pc' := 5) (j := 2) hC dL_boardPost_4 rfl rfl rfl ?_
  refine hx_Vi (pc' := 8) (kr := 0) (st := [.int (nI 0), .ref (g.2.1 33)]) hC hY (c_boardPost x.2.1 g z0 σ i w (hxl ▸ hNT) (hT) (by first | exact hI | (simp (disch := decide) only [nb, rd_uv, rd_ur, uv_cell, ur_cell]; exact hI) | omega)) k_X9_boardPost wM_L_104 (by decide) (by decide) (ct_0 g σ) rfl rfl rfl rfl (Nat.le_of_ble_eq_true rfl) dL_boardPost_5 rfl (by decide) (by decide) (fun E x5 => ?_) (fun x5 => ?_)
  · rcases hw E x5 with rfl | rfl
    · refine ⟨13, ⟨[], ({ startPc := 0, endPc := 10, handlerPc := 13, catchType := 28 } : ExceptionTableEntry), [({ startPc := 0, endPc := 10, handlerPc := 17, catchType := 19 } : ExceptionTableEntry)], _, rfl, ?_, rfl, by decide, wK_L_28, (hT _ _ hC.2.2.2.2.2.2.2.2.2).2.1 exNo (by simp [exE]), rfl⟩, fun q => ?_⟩
      · exact fun z hz => absurd hz List.not_mem_nil
      · skip
        refine g_astore (pc' := 15) (lv' := [(4, .ref q), (0, .ref (g.2.1 0)), (1, .int i), (2, .int w), (3, .ref (g.2.1 33))]) hC dL_boardPost_13 rfl (by decide) rfl ?_
        refine g_iconst (pc' := 16) (v := nI 1) hC dL_boardPost_15 rfl rfl ?_
        refine gh_ret hC (by decide) (by decide) dL_boardPost_16 ?_
        exact ⟨by unfold kof2; rw [if_neg (by rw [x5]; decide), if_pos x5], (cI_f (by rw [x5]; decide)).symm⟩
    · refine ⟨17, ⟨[({ startPc := 0, endPc := 10, handlerPc := 13, catchType := 28 } : ExceptionTableEntry)], ({ startPc := 0, endPc := 10, handlerPc := 17, catchType := 19 } : ExceptionTableEntry), [], _, rfl, ?_, rfl, by decide, wK_L_19, (hT _ _ hC.2.2.2.2.2.2.2.2.2).2.1 exA (by simp [exE]), rfl⟩, fun q => ?_⟩
      · intro z hz
        rcases List.mem_cons.mp hz with rfl | hz
        · exact Or.inr ⟨by decide, _, wK_L_28, (hG3 _ _ hC.2.2.2.2.2.2.2.2.2).2.2⟩
        exact absurd hz List.not_mem_nil
      · skip
        refine g_astore (pc' := 19) (lv' := [(4, .ref q), (0, .ref (g.2.1 0)), (1, .int i), (2, .int w), (3, .ref (g.2.1 33))]) hC dL_boardPost_17 rfl (by decide) rfl ?_
        refine g_iconst (pc' := 20) (v := nI 2) hC dL_boardPost_19 rfl rfl ?_
        refine gh_ret hC (by decide) (by decide) dL_boardPost_20 ?_
        exact ⟨by unfold kof2; rw [if_neg (by rw [x5]; decide), if_neg (by rw [x5]; decide)], (cI_f (by rw [x5]; decide)).symm⟩
  refine g_i2l (pc' := 9) hC dL_boardPost_8 rfl ?_
  refine a_stl (pc' := 10) hC dL_boardPost_9 rfl ?_
  refine g_goto (tgt := 21) hC dL_boardPost_10 (by decide) ?_
  refine g_iconst (pc' := 22) (v := nI 0) hC dL_boardPost_21 rfl rfl ?_
  refine gh_ret hC (by decide) (by decide) dL_boardPost_22 ?_
  exact ⟨by unfold kof2; rw [if_pos x5], (cI_t x5).symm⟩
set_option maxHeartbeats 4000000 in
set_option maxRecDepth 20000 in
theorem h_checkPost (l : Launch) (g : Lay) (z0 : Nat) (σ : St) (c : Int32) (i : Int32) (hNT : l.stackTraces = false) (hT : GT g z0) (hI : CI σ) (hG3 : GX3 g) (hw : ∀ E, wCp σ c i = some E → E = exNo)  : CH l yL_checkPost cL_checkPost 5 hL_checkPost 10 2 g z0 [.ref (g.2.1 0), .int c, .int i, .ref (g.2.1 33)] σ (FI (kof1 (wCp σ c i)) (cI (wCp σ c i = none) (ul σ 33 0 ((ccp' σ c i).toInt64)) σ)) := by
  refine CH.of (by decide) (Nat.le_of_ble_eq_true rfl) ?_
  intro x hxl hC hY
  have hC : Cx x RL cL_checkPost 5 (some .int) 10 g z0 := hC
  show GG x g z0 5 0 0 (Qh x g z0 2 (FI (kof1 (wCp σ c i)) (cI (wCp σ c i = none) (ul σ 33 0 ((ccp' σ c i).toInt64)) σ))) σ 0 [(0, .ref (g.2.1 0)), (1, .int c), (2, .int i), (3, .ref (g.2.1 33))] []
  refine g_aload_n (pc' := 1) (j := 3) hC dL_checkPost_0 rfl rfl rfl ?_
  refine g_iconst (pc' := 2) (v := nI 0) hC dL_checkPost_1 rfl rfl ?_
  refine g_aload_n (pc' := 3) (j := 0) hC dL_checkPost_2 rfl rfl rfl ?_
  refine g_iload_n (pc' := 4) (j := 1) hC dL_checkPost_3 rfl rfl rfl ?_
  refine g_iload_n (pc' := 5) (j := 2) hC dL_checkPost_4 rfl rfl rfl ?_
  refine hx_Vi (pc' := 8) (kr := 0) (st := [.int (nI 0), .ref (g.2.1 33)]) hC hY (c_checkPost x.2.1 g z0 σ c i (hxl ▸ hNT) (hT) (by first | exact hI | (simp (disch := decide) only [nb, rd_uv, rd_ur, uv_cell, ur_cell]; exact hI) | omega)) k_X9_checkPost wM_L_107 (by decide) (by decide) (ct_0 g σ) rfl rfl rfl rfl (Nat.le_of_ble_eq_true rfl) dL_checkPost_5 rfl (by decide) (by decide) (fun E x5 => ?_) (fun x5 => ?_)
  · rcases hw E x5 with rfl
    · refine ⟨13, ⟨[], ({ startPc := 0, endPc := 10, handlerPc := 13, catchType := 28 } : ExceptionTableEntry), [], _, rfl, ?_, rfl, by decide, wK_L_28, (hT _ _ hC.2.2.2.2.2.2.2.2.2).2.1 exNo (by simp [exE]), rfl⟩, fun q => ?_⟩
      · exact fun z hz => absurd hz List.not_mem_nil
      · skip
        refine g_astore (pc' := 15) (lv' := [(4, .ref q), (0, .ref (g.2.1 0)), (1, .int c), (2, .int i), (3, .ref (g.2.1 33))]) hC dL_checkPost_13 rfl (by decide) rfl ?_
        refine g_iconst (pc' := 16) (v := nI 1) hC dL_checkPost_15 rfl rfl ?_
        refine gh_ret hC (by decide) (by decide) dL_checkPost_16 ?_
        exact ⟨by unfold kof1; rw [if_neg (by rw [x5]; decide)], (cI_f (by rw [x5]; decide)).symm⟩
  refine g_i2l (pc' := 9) hC dL_checkPost_8 rfl ?_
  refine a_stl (pc' := 10) hC dL_checkPost_9 rfl ?_
  refine g_goto (tgt := 17) hC dL_checkPost_10 (by decide) ?_
  refine g_iconst (pc' := 18) (v := nI 0) hC dL_checkPost_17 rfl rfl ?_
  refine gh_ret hC (by decide) (by decide) dL_checkPost_18 ?_
  exact ⟨by unfold kof1; rw [if_pos x5], (cI_t x5).symm⟩
