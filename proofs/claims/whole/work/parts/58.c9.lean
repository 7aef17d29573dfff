set_option maxHeartbeats 4000000 in
set_option maxRecDepth 20000 in
theorem c_signatureOf (l : Launch) (g : Lay) (z0 : Nat) (σ : St) (c : Int32) (n : Int32) (t : Int32)   : CTi l yX9_signatureOf cX9_signatureOf 3 (some .int) 0 g z0 [.int c, .int n, .int t] σ (FI (sgn c n t) σ) := by
  refine CTi.of (by decide) (Nat.le_of_ble_eq_true rfl) ?_
  intro x hxl hxa hC
  have hC : Cx x RX9 cX9_signatureOf 3 (some .int) 0 g z0 := hC
  show GG x g z0 3 0 0 (Qi x g z0 (FI (sgn c n t) σ)) σ 0 [(0, .int c), (1, .int n), (2, .int t)] []
  refine g_iload_n (pc' := 1) (j := 2) hC dX9_signatureOf_0 rfl rfl rfl ?_
  refine g_i2l (pc' := 2) hC dX9_signatureOf_1 rfl ?_
  refine g_ldc2 (pc' := 5) (v := 31) hC wC_X9_298 dX9_signatureOf_2 rfl ?_
  refine g_lmul (pc' := 6) hC dX9_signatureOf_5 rfl ?_
  refine g_iload_n (pc' := 7) (j := 1) hC dX9_signatureOf_6 rfl rfl rfl ?_
  refine g_i2l (pc' := 8) hC dX9_signatureOf_7 rfl ?_
  refine g_ldc2 (pc' := 11) (v := 17) hC wC_X9_300 dX9_signatureOf_8 rfl ?_
  refine g_lmul (pc' := 12) hC dX9_signatureOf_11 rfl ?_
  refine g_ladd (pc' := 13) hC dX9_signatureOf_12 rfl ?_
  refine g_iload_n (pc' := 14) (j := 0) hC dX9_signatureOf_13 rfl rfl rfl ?_
  refine g_i2l (pc' := 15) hC dX9_signatureOf_14 rfl ?_
  refine g_ldc2 (pc' := 18) (v := 13) hC wC_X9_302 dX9_signatureOf_15 rfl ?_
  refine g_lmul (pc' := 19) hC dX9_signatureOf_18 rfl ?_
  refine g_ladd (pc' := 20) hC dX9_signatureOf_19 rfl ?_
  refine g_ldc2 (pc' := 23) (v := 12345) hC wC_X9_304 dX9_signatureOf_20 rfl ?_
  refine g_ladd (pc' := 24) hC dX9_signatureOf_23 rfl ?_
  refine g_ldc2 (pc' := 27) (v := 2147483647) hC wC_X9_239 dX9_signatureOf_24 rfl ?_
  refine g_lrem (pc' := 28) hC dX9_signatureOf_27 rfl (by decide) ?_
  refine g_l2i (pc' := 29) hC dX9_signatureOf_28 rfl ?_
  refine g_ret hC dX9_signatureOf_29 rfl ?_
  exact ⟨rfl, rfl⟩
set_option maxHeartbeats 4000000 in
set_option maxRecDepth 20000 in
theorem c_receipt (l : Launch) (g : Lay) (z0 : Nat) (σ : St) (c : Int32) (w : Int32) (hNT : l.stackTraces = false) (hT : GT g z0) (hI : CI σ)  : CXi l yX9_receipt cX9_receipt 4 (some .int) 7 2 g z0 [.ref (g.2.1 0), .int c, .int w] σ (FXi (wRc σ c w) (crc σ c w) σ) (FXx (wRc σ c w) σ) := by
  refine CXi.of hNT (by decide) (Nat.le_of_ble_eq_true rfl) ?_
  intro x hxl hxa hC hY
  have hC : Cx x RX9 cX9_receipt 4 (some .int) 7 g z0 := hC
  show GG x g z0 4 0 0 (Xi x g z0 (FXi (wRc σ c w) (crc σ c w) σ) (FXx (wRc σ c w) σ) 2) σ 0 [(0, .ref (g.2.1 0)), (1, .int c), (2, .int w)] []
  refine g_aload_n (pc' := 1) (j := 0) hC dX9_receipt_0 rfl rfl rfl ?_
  refine g_iload_n (pc' := 2) (j := 1) hC dX9_receipt_1 rfl rfl rfl ?_
  refine fx_Vv (pc' := 5) (kr := 0) (st := []) hC hY (c_requireClient x.2.1 g z0 σ c (hY.2.2) (hT) (hI.nc)) k_X9_requireClient wM_X9_161 (by decide) (by decide) (ct_0 g σ) rfl rfl rfl rfl (Nat.le_of_ble_eq_true rfl) dX9_receipt_2 rfl (by decide) (by decide) (fun E x2 => ?_) (fun x2 => ?_)
  · exact ⟨by obtain ⟨q, e⟩ := cI_so x2; unfold wRc; rw [cI_f q, e], rfl⟩
  obtain ⟨hcN, hcL⟩ := vl2_n (by have := hI.nc.2; omega) (cI_no x2)
  have hcM := hI.nc.2
  refine gg_lve (lv' := [(0, .ref (g.2.1 0)), (1, .int (nI (cn c))), (2, .int w)]) (by rw [← hcN]) ?_
  refine g_iload_n (pc' := 6) (j := 2) hC dX9_receipt_5 rfl rfl rfl ?_
  refine g_iconst (pc' := 7) (v := nI 3) hC dX9_receipt_6 rfl rfl ?_
  refine fx_Sv (pc' := 10) (st := []) hC hY (c_requirePart x.2.1 g z0 σ w 3 (hY.2.2) (hT)) k_X9_requirePart wM_X9_208 (by decide) rfl rfl (Nat.le_of_ble_eq_true rfl) dX9_receipt_7 rfl (by decide) (by decide) (fun E x7 => ?_) (fun x7 => ?_)
  · exact ⟨by unfold wRc; rw [cI_t (cI_no x2)]; exact x7, rfl⟩
  refine g_aload_n (pc' := 11) (j := 0) hC dX9_receipt_10 rfl rfl rfl ?_
  refine gf_X9_1 (pc' := 14) hC wF_X9_19 dX9_receipt_11 rfl ?_
  refine gf_X6_1 (pc' := 17) hC wF_X9_164 dX9_receipt_14 rfl ?_
  refine g_iload_n (pc' := 18) (j := 1) hC dX9_receipt_17 rfl rfl rfl ?_
  refine a_ldr (pc' := 19) (k := 10) (t := 6) (i := cn c) hC (by decide) (ct_10 g σ) rfl (by omega) (by decide) dX9_receipt_18 rfl ?_
  refine g_astore_n (pc' := 20) (lv' := [(3, .ref (g.2.1 (90 + 3 * (cn c)))), (0, .ref (g.2.1 0)), (1, .int (nI (cn c))), (2, .int w)]) hC dX9_receipt_19 rfl rfl (by decide) rfl ?_
  refine g_iload_n (pc' := 21) (j := 3) hC dX9_receipt_20 rfl rfl rfl ?_
  refine g_if_ne (pc' := 24) (tgt := 29) hC dX9_receipt_21 (by decide) rfl (fun c21 => ?_) (fun c21 => ?_)
  · skip
    refine g_iload_n (pc' := 30) (j := 3) hC dX9_receipt_29 rfl rfl rfl ?_
    refine g_iconst (pc' := 31) (v := nI 1) hC dX9_receipt_30 rfl rfl ?_
    refine g_icmp_ne (pc' := 34) (tgt := 41) hC dX9_receipt_31 (by decide) rfl (fun c31 => ?_) (fun c31 => ?_)
    · skip
      refine g_iload_n (pc' := 42) (j := 2) hC dX9_receipt_41 rfl rfl rfl ?_
      refine g_aload_n (pc' := 43) (j := 0) hC dX9_receipt_42 rfl rfl rfl ?_
      refine gf_X2_2 (pc' := 46) (b := cn c) hC (by omega : (cn c) < 6) wF_X9_185 dX9_receipt_43 rfl ?_
      refine gg_topi (b := nI (rd σ (90 + 3 * cn c) 2)) ((hI.po (by omega)).1) ?_
      refine g_aload_n (pc' := 47) (j := 0) hC dX9_receipt_46 rfl rfl rfl ?_
      refine f_Vi (pc' := 50) (k := 90 + 3 * (cn c)) (st := [.int (nI (rd σ (90 + 3 * cn c) 2)), .int (nI (cn c))]) hC (c_lastHashC x.2.1 g z0 σ ((cn c)) (by omega) (hI.po (by omega))) k_X2_lastHash wM_X9_230 (by decide) (by have := (by omega : (cn c) < 6); show _ < 228; omega) (ct_cl g σ (by omega : (cn c) < 6)) rfl rfl rfl rfl (Nat.le_of_ble_eq_true rfl) dX9_receipt_47 rfl (hY.c (by decide)) (hY.s (by decide)) ?_
      refine f_Si (pc' := 53) (st := []) hC (c_signatureOf x.2.1 g z0 σ ((nI (cn c))) ((nI (rd σ (90 + 3 * cn c) 2))) ((σ.1 (90 + 3 * (cn c) + 1) (rd σ (90 + 3 * (cn c)) 2)))) k_X9_signatureOf wM_X9_233 (by decide) rfl rfl (Nat.le_of_ble_eq_true rfl) dX9_receipt_50 rfl (hY.c (by decide)) (hY.s (by decide)) ?_
      refine gx_ret hC (by decide) (by decide) dX9_receipt_53 rfl ?_
      exact ⟨by unfold wRc; rw [cI_t (cI_no x2)]; exact x7, by unfold crc; rw [cI_f c21, cI_f c31]; rw [← hcN], rfl⟩
    · skip
      refine g_aload_n (pc' := 35) (j := 0) hC dX9_receipt_34 rfl rfl rfl ?_
      refine f_Vi (pc' := 38) (k := 90 + 3 * (cn c)) (st := []) hC (c_lastHashC x.2.1 g z0 σ ((cn c)) (by omega) (hI.po (by omega))) k_X2_lastHash wM_X9_230 (by decide) (by have := (by omega : (cn c) < 6); show _ < 228; omega) (ct_cl g σ (by omega : (cn c) < 6)) rfl rfl rfl rfl (Nat.le_of_ble_eq_true rfl) dX9_receipt_35 rfl (hY.c (by decide)) (hY.s (by decide)) ?_
      refine g_goto (tgt := 53) hC dX9_receipt_38 (by decide) ?_
      refine gx_ret hC (by decide) (by decide) dX9_receipt_53 rfl ?_
      exact ⟨by unfold wRc; rw [cI_t (cI_no x2)]; exact x7, by unfold crc; rw [cI_f c21, cI_t c31], rfl⟩
  · skip
    refine g_aload_n (pc' := 25) (j := 0) hC dX9_receipt_24 rfl rfl rfl ?_
    refine gf_X2_2 (pc' := 28) (b := cn c) hC (by omega : (cn c) < 6) wF_X9_185 dX9_receipt_25 rfl ?_
    refine gg_topi (b := nI (rd σ (90 + 3 * cn c) 2)) ((hI.po (by omega)).1) ?_
    refine gx_ret hC (by decide) (by decide) dX9_receipt_28 rfl ?_
    exact ⟨by unfold wRc; rw [cI_t (cI_no x2)]; exact x7, by unfold crc; rw [cI_t c21], rfl⟩
set_option maxHeartbeats 4000000 in
set_option maxRecDepth 20000 in
theorem c_isSigned (l : Launch) (g : Lay) (z0 : Nat) (σ : St) (c : Int32) (n : Int32) (t : Int32) (s : Int32) (hI : CI σ)  : CTi l yX9_isSigned cX9_isSigned 6 (some .boolean) 1 g z0 [.ref (g.2.1 0), .int c, .int n, .int t, .int s] σ (FI (bI (csg σ c n t s)) σ) := by
  refine CTi.of (by decide) (Nat.le_of_ble_eq_true rfl) ?_
  intro x hxl hxa hC
  have hC : Cx x RX9 cX9_isSigned 6 (some .boolean) 1 g z0 := hC
  show GG x g z0 6 0 0 (Qi x g z0 (FI (bI (csg σ c n t s)) σ)) σ 0 [(0, .ref (g.2.1 0)), (1, .int c), (2, .int n), (3, .int t), (4, .int s)] []
  refine g_aload_n (pc' := 1) (j := 0) hC dX9_isSigned_0 rfl rfl rfl ?_
  refine gf_X9_1 (pc' := 4) hC wF_X9_19 dX9_isSigned_1 rfl ?_
  refine g_iload_n (pc' := 5) (j := 1) hC dX9_isSigned_4 rfl rfl rfl ?_
  refine f_Vi (pc' := 8) (k := 8) (st := []) hC (c_hasClient x.2.1 g z0 σ c (hI.nc)) k_X6_hasClient wM_X9_236 (by decide) (by decide) (ct_8 g σ) rfl rfl rfl rfl (Nat.le_of_ble_eq_true rfl) dX9_isSigned_5 rfl (Nat.zero_le _) (Nat.zero_le _) ?_
  refine b_if_eq (pc' := 11) (tgt := 39) hC dX9_isSigned_8 (by decide) rfl (fun c8 => ?_) (fun c8 => ?_)
  · skip
    refine g_iconst (pc' := 40) (v := nI 0) hC dX9_isSigned_39 rfl rfl ?_
    refine g_istore (pc' := 42) (lv' := [(5, .int (nI 0)), (0, .ref (g.2.1 0)), (1, .int c), (2, .int n), (3, .int t), (4, .int s)]) hC dX9_isSigned_40 rfl (by decide) rfl ?_
    refine g_iload (pc' := 44) (j := 0) hC dX9_isSigned_42 rfl rfl ?_
    refine n_if_eq (pc' := 47) (tgt := 62) hC dX9_isSigned_44 (by decide) rfl (by omega) (fun c44 => ?_) (fun c44 => ?_)
    · skip
      refine g_iconst (pc' := 63) (v := nI 0) hC dX9_isSigned_62 rfl rfl ?_
      refine g_ret hC dX9_isSigned_63 rfl ?_
      exact ⟨(bI_f (fun z => c8 z.1.1)).symm, rfl⟩
    · skip
      first | exact absurd c44 (by decide) | exact c44.elim
  · skip
    refine g_iload_n (pc' := 12) (j := 2) hC dX9_isSigned_11 rfl rfl rfl ?_
    refine g_if_lt (pc' := 15) (tgt := 39) hC dX9_isSigned_12 (by decide) rfl (fun c12 => ?_) (fun c12 => ?_)
    · skip
      refine g_iconst (pc' := 40) (v := nI 0) hC dX9_isSigned_39 rfl rfl ?_
      refine g_istore (pc' := 42) (lv' := [(5, .int (nI 0)), (0, .ref (g.2.1 0)), (1, .int c), (2, .int n), (3, .int t), (4, .int s)]) hC dX9_isSigned_40 rfl (by decide) rfl ?_
      refine g_iload (pc' := 44) (j := 0) hC dX9_isSigned_42 rfl rfl ?_
      refine n_if_eq (pc' := 47) (tgt := 62) hC dX9_isSigned_44 (by decide) rfl (by omega) (fun c44 => ?_) (fun c44 => ?_)
      · skip
        refine g_iconst (pc' := 63) (v := nI 0) hC dX9_isSigned_62 rfl rfl ?_
        refine g_ret hC dX9_isSigned_63 rfl ?_
        exact ⟨(bI_f (fun z => z.1.2.1 c12)).symm, rfl⟩
      · skip
        first | exact absurd c44 (by decide) | exact c44.elim
    · skip
      refine g_iload_n (pc' := 16) (j := 2) hC dX9_isSigned_15 rfl rfl rfl ?_
      refine g_sipush (pc' := 19) (v := nI 200) hC dX9_isSigned_16 rfl rfl ?_
      refine g_icmp_gt (pc' := 22) (tgt := 39) hC dX9_isSigned_19 (by decide) rfl (fun c19 => ?_) (fun c19 => ?_)
      · skip
        refine g_iconst (pc' := 40) (v := nI 0) hC dX9_isSigned_39 rfl rfl ?_
        refine g_istore (pc' := 42) (lv' := [(5, .int (nI 0)), (0, .ref (g.2.1 0)), (1, .int c), (2, .int n), (3, .int t), (4, .int s)]) hC dX9_isSigned_40 rfl (by decide) rfl ?_
        refine g_iload (pc' := 44) (j := 0) hC dX9_isSigned_42 rfl rfl ?_
        refine n_if_eq (pc' := 47) (tgt := 62) hC dX9_isSigned_44 (by decide) rfl (by omega) (fun c44 => ?_) (fun c44 => ?_)
        · skip
          refine g_iconst (pc' := 63) (v := nI 0) hC dX9_isSigned_62 rfl rfl ?_
          refine g_ret hC dX9_isSigned_63 rfl ?_
          exact ⟨(bI_f (fun z => z.1.2.2.1 c19)).symm, rfl⟩
        · skip
          first | exact absurd c44 (by decide) | exact c44.elim
      · skip
        refine g_iload_n (pc' := 23) (j := 3) hC dX9_isSigned_22 rfl rfl rfl ?_
        refine g_if_lt (pc' := 26) (tgt := 39) hC dX9_isSigned_23 (by decide) rfl (fun c23 => ?_) (fun c23 => ?_)
        · skip
          refine g_iconst (pc' := 40) (v := nI 0) hC dX9_isSigned_39 rfl rfl ?_
          refine g_istore (pc' := 42) (lv' := [(5, .int (nI 0)), (0, .ref (g.2.1 0)), (1, .int c), (2, .int n), (3, .int t), (4, .int s)]) hC dX9_isSigned_40 rfl (by decide) rfl ?_
          refine g_iload (pc' := 44) (j := 0) hC dX9_isSigned_42 rfl rfl ?_
          refine n_if_eq (pc' := 47) (tgt := 62) hC dX9_isSigned_44 (by decide) rfl (by omega) (fun c44 => ?_) (fun c44 => ?_)
          · skip
            refine g_iconst (pc' := 63) (v := nI 0) hC dX9_isSigned_62 rfl rfl ?_
            refine g_ret hC dX9_isSigned_63 rfl ?_
            exact ⟨(bI_f (fun z => z.1.2.2.2.1 c23)).symm, rfl⟩
          · skip
            first | exact absurd c44 (by decide) | exact c44.elim
        · skip
          refine g_iload_n (pc' := 27) (j := 3) hC dX9_isSigned_26 rfl rfl rfl ?_
          refine g_i2l (pc' := 28) hC dX9_isSigned_27 rfl ?_
          refine g_ldc2 (pc' := 31) (v := 2147483647) hC wC_X9_239 dX9_isSigned_28 rfl ?_
          refine g_lcmp (pc' := 32) hC dX9_isSigned_31 rfl ?_
          refine g_if_ge (pc' := 35) (tgt := 39) hC dX9_isSigned_32 (by decide) rfl (fun c32 => ?_) (fun c32 => ?_)
          · skip
            refine g_iconst (pc' := 40) (v := nI 0) hC dX9_isSigned_39 rfl rfl ?_
            refine g_istore (pc' := 42) (lv' := [(5, .int (nI 0)), (0, .ref (g.2.1 0)), (1, .int c), (2, .int n), (3, .int t), (4, .int s)]) hC dX9_isSigned_40 rfl (by decide) rfl ?_
            refine g_iload (pc' := 44) (j := 0) hC dX9_isSigned_42 rfl rfl ?_
            refine n_if_eq (pc' := 47) (tgt := 62) hC dX9_isSigned_44 (by decide) rfl (by omega) (fun c44 => ?_) (fun c44 => ?_)
            · skip
              refine g_iconst (pc' := 63) (v := nI 0) hC dX9_isSigned_62 rfl rfl ?_
              refine g_ret hC dX9_isSigned_63 rfl ?_
              exact ⟨(bI_f (fun z => z.1.2.2.2.2 c32)).symm, rfl⟩
            · skip
              first | exact absurd c44 (by decide) | exact c44.elim
          · skip
            refine g_iconst (pc' := 36) (v := nI 1) hC dX9_isSigned_35 rfl rfl ?_
            refine g_goto (tgt := 40) hC dX9_isSigned_36 (by decide) ?_
            refine g_istore (pc' := 42) (lv' := [(5, .int (nI 1)), (0, .ref (g.2.1 0)), (1, .int c), (2, .int n), (3, .int t), (4, .int s)]) hC dX9_isSigned_40 rfl (by decide) rfl ?_
            refine g_iload (pc' := 44) (j := 0) hC dX9_isSigned_42 rfl rfl ?_
            refine n_if_eq (pc' := 47) (tgt := 62) hC dX9_isSigned_44 (by decide) rfl (by omega) (fun c44 => ?_) (fun c44 => ?_)
            · skip
              first | exact absurd c44 (by decide) | exact c44.elim
            · skip
              refine g_iload (pc' := 49) (j := 5) hC dX9_isSigned_47 rfl rfl ?_
              refine g_iload_n (pc' := 50) (j := 2) hC dX9_isSigned_49 rfl rfl rfl ?_
              refine g_iload_n (pc' := 51) (j := 3) hC dX9_isSigned_50 rfl rfl rfl ?_
              refine g_iload_n (pc' := 52) (j := 4) hC dX9_isSigned_51 rfl rfl rfl ?_
              refine f_Si (pc' := 55) (st := [.int s]) hC (c_signatureOf x.2.1 g z0 σ c n t) k_X9_signatureOf wM_X9_233 (by decide) rfl rfl (Nat.le_of_ble_eq_true rfl) dX9_isSigned_52 rfl (Nat.zero_le _) (Nat.zero_le _) ?_
              refine g_icmp_ne (pc' := 58) (tgt := 62) hC dX9_isSigned_55 (by decide) rfl (fun c55 => ?_) (fun c55 => ?_)
              · skip
                refine g_iconst (pc' := 63) (v := nI 0) hC dX9_isSigned_62 rfl rfl ?_
                refine g_ret hC dX9_isSigned_63 rfl ?_
                exact ⟨(bI_f (fun z => c55 z.2)).symm, rfl⟩
              · skip
                refine g_iconst (pc' := 59) (v := nI 1) hC dX9_isSigned_58 rfl rfl ?_
                refine g_goto (tgt := 63) hC dX9_isSigned_59 (by decide) ?_
                refine g_ret hC dX9_isSigned_63 rfl ?_
                exact ⟨(bI_t ⟨⟨c8, c12, c19, c23, c32⟩, c55⟩).symm, rfl⟩
set_option maxHeartbeats 4000000 in
set_option maxRecDepth 20000 in
theorem c_hashAt (l : Launch) (g : Lay) (z0 : Nat) (σ : St) (c : Int32) (n : Int32) (hNT : l.stackTraces = false) (hT : GT g z0) (hI : CI σ)  : CXi l yX9_hashAt cX9_hashAt 3 (some .int) 7 2 g z0 [.ref (g.2.1 0), .int c, .int n] σ (FXi (wHa σ c n) (σ.1 (90 + 3 * cn c + 1) (cn n)) σ) (FXx (wHa σ c n) σ) := by
  refine CXi.of hNT (by decide) (Nat.le_of_ble_eq_true rfl) ?_
  intro x hxl hxa hC hY
  have hC : Cx x RX9 cX9_hashAt 3 (some .int) 7 g z0 := hC
  show GG x g z0 3 0 0 (Xi x g z0 (FXi (wHa σ c n) (σ.1 (90 + 3 * cn c + 1) (cn n)) σ) (FXx (wHa σ c n) σ) 2) σ 0 [(0, .ref (g.2.1 0)), (1, .int c), (2, .int n)] []
  refine g_aload_n (pc' := 1) (j := 0) hC dX9_hashAt_0 rfl rfl rfl ?_
  refine g_iload_n (pc' := 2) (j := 1) hC dX9_hashAt_1 rfl rfl rfl ?_
  refine fx_Vv (pc' := 5) (kr := 0) (st := []) hC hY (c_requireClient x.2.1 g z0 σ c (hY.2.2) (hT) (hI.nc)) k_X9_requireClient wM_X9_161 (by decide) (by decide) (ct_0 g σ) rfl rfl rfl rfl (Nat.le_of_ble_eq_true rfl) dX9_hashAt_2 rfl (by decide) (by decide) (fun E x2 => ?_) (fun x2 => ?_)
  · exact ⟨by obtain ⟨q, e⟩ := cI_so x2; unfold wHa; rw [cI_f q, e], rfl⟩
  obtain ⟨hcN, hcL⟩ := vl2_n (by have := hI.nc.2; omega) (cI_no x2)
  have hcM := hI.nc.2
  have hpo2 := (hI.po (c := cn c) (by omega)).2
  refine gg_lve (lv' := [(0, .ref (g.2.1 0)), (1, .int (nI (cn c))), (2, .int n)]) (by rw [← hcN]) ?_
  refine g_iload_n (pc' := 6) (j := 2) hC dX9_hashAt_5 rfl rfl rfl ?_
  refine g_if_lt (pc' := 9) (tgt := 25) hC dX9_hashAt_6 (by decide) rfl (fun c6 => ?_) (fun c6 => ?_)
  · skip
    exact gx_thS hC hY hT xe_exNo (by decide : (241, "no such position") ∈ exS) (by decide) (by decide) (by decide) (Nat.le_of_ble_eq_true rfl) dX9_hashAt_25 dX9_hashAt_28 dX9_hashAt_29 dX9_hashAt_31 dX9_hashAt_34 (⟨by unfold wHa; rw [cI_t (cI_no x2), cI_f (fun z => z.1 c6)], rfl⟩)
  · skip
    refine g_iload_n (pc' := 10) (j := 2) hC dX9_hashAt_9 rfl rfl rfl ?_
    refine g_aload_n (pc' := 11) (j := 0) hC dX9_hashAt_10 rfl rfl rfl ?_
    refine gf_X9_1 (pc' := 14) hC wF_X9_19 dX9_hashAt_11 rfl ?_
    refine gf_X6_1 (pc' := 17) hC wF_X9_164 dX9_hashAt_14 rfl ?_
    refine g_iload_n (pc' := 18) (j := 1) hC dX9_hashAt_17 rfl rfl rfl ?_
    refine a_ldr (pc' := 19) (k := 10) (t := 6) (i := cn c) hC (by decide) (ct_10 g σ) rfl (by omega) (by decide) dX9_hashAt_18 rfl ?_
    refine gf_X2_2 (pc' := 22) (b := cn c) hC (by omega : (cn c) < 6) wF_X9_185 dX9_hashAt_19 rfl ?_
    refine gg_topi (b := nI (rd σ (90 + 3 * cn c) 2)) ((hI.po (by omega)).1) ?_
    refine g_icmp_le (pc' := 25) (tgt := 35) hC dX9_hashAt_22 (by decide) rfl (fun c22 => ?_) (fun c22 => ?_)
    · skip
      obtain ⟨heN, -, he2⟩ := in_n (a := 0) (by decide) (by omega) (by rw [nI_0]; exact Int32.not_lt.mp c6) c22
      refine gg_lve (lv' := [(0, .ref (g.2.1 0)), (1, .int (nI (cn c))), (2, .int (nI (cn n)))]) (by rw [← heN]) ?_
      refine g_aload_n (pc' := 36) (j := 0) hC dX9_hashAt_35 rfl rfl rfl ?_
      refine gf_X9_1 (pc' := 39) hC wF_X9_19 dX9_hashAt_36 rfl ?_
      refine gf_X6_1 (pc' := 42) hC wF_X9_164 dX9_hashAt_39 rfl ?_
      refine g_iload_n (pc' := 43) (j := 1) hC dX9_hashAt_42 rfl rfl rfl ?_
      refine a_ldr (pc' := 44) (k := 10) (t := 6) (i := cn c) hC (by decide) (ct_10 g σ) rfl (by omega) (by decide) dX9_hashAt_43 rfl ?_
      refine gf_X2_0 (pc' := 47) (b := cn c) hC (by omega : (cn c) < 6) wF_X9_243 dX9_hashAt_44 rfl ?_
      refine g_iload_n (pc' := 48) (j := 2) hC dX9_hashAt_47 rfl rfl rfl ?_
      refine a_ld (pc' := 49) (k := 90 + 3 * (cn c) + 1) (i := cn n) hC (by have := (by omega : (cn c) < 6); show _ < 228; omega) (ct_ch g σ (by omega : (cn c) < 6)) (by omega) (by decide) dX9_hashAt_48 rfl ?_
      refine gx_ret hC (by decide) (by decide) dX9_hashAt_49 rfl ?_
      exact ⟨by unfold wHa; rw [cI_t (cI_no x2), cI_t ⟨c6, c22⟩], rfl, rfl⟩
    · skip
      exact gx_thS hC hY hT xe_exNo (by decide : (241, "no such position") ∈ exS) (by decide) (by decide) (by decide) (Nat.le_of_ble_eq_true rfl) dX9_hashAt_25 dX9_hashAt_28 dX9_hashAt_29 dX9_hashAt_31 dX9_hashAt_34 (⟨by unfold wHa; rw [cI_t (cI_no x2), cI_f (fun z => c22 z.2)], rfl⟩)
set_option maxHeartbeats 4000000 in
set_option maxRecDepth 20000 in
theorem c_clients (l : Launch) (g : Lay) (z0 : Nat) (σ : St)    : CTi l yX9_clients cX9_clients 1 (some .int) 0 g z0 [.ref (g.2.1 0)] σ (FI (σ.1 8 4) σ) := by
  refine CTi.of (by decide) (Nat.le_of_ble_eq_true rfl) ?_
  intro x hxl hxa hC
  have hC : Cx x RX9 cX9_clients 1 (some .int) 0 g z0 := hC
  show GG x g z0 1 0 0 (Qi x g z0 (FI (σ.1 8 4) σ)) σ 0 [(0, .ref (g.2.1 0))] []
  refine g_aload_n (pc' := 1) (j := 0) hC dX9_clients_0 rfl rfl rfl ?_
  refine gf_X9_1 (pc' := 4) hC wF_X9_19 dX9_clients_1 rfl ?_
  refine gf_X6_4 (pc' := 7) hC wF_X9_76 dX9_clients_4 rfl ?_
  refine g_ret hC dX9_clients_7 rfl ?_
  exact ⟨rfl, rfl⟩
set_option maxHeartbeats 4000000 in
set_option maxRecDepth 20000 in
theorem c_blocks (l : Launch) (g : Lay) (z0 : Nat) (σ : St)    : CTi l yX9_blocks cX9_blocks 1 (some .int) 0 g z0 [.ref (g.2.1 0)] σ (FI (σ.1 8 5) σ) := by
  refine CTi.of (by decide) (Nat.le_of_ble_eq_true rfl) ?_
  intro x hxl hxa hC
  have hC : Cx x RX9 cX9_blocks 1 (some .int) 0 g z0 := hC
  show GG x g z0 1 0 0 (Qi x g z0 (FI (σ.1 8 5) σ)) σ 0 [(0, .ref (g.2.1 0))] []
  refine g_aload_n (pc' := 1) (j := 0) hC dX9_blocks_0 rfl rfl rfl ?_
  refine gf_X9_1 (pc' := 4) hC wF_X9_19 dX9_blocks_1 rfl ?_
  refine gf_X6_5 (pc' := 7) hC wF_X9_79 dX9_blocks_4 rfl ?_
  refine g_ret hC dX9_blocks_7 rfl ?_
  exact ⟨rfl, rfl⟩
set_option maxHeartbeats 4000000 in
set_option maxRecDepth 20000 in
theorem c_branches (l : Launch) (g : Lay) (z0 : Nat) (σ : St)    : CTi l yX9_branches cX9_branches 1 (some .int) 0 g z0 [.ref (g.2.1 0)] σ (FI (σ.1 8 6) σ) := by
  refine CTi.of (by decide) (Nat.le_of_ble_eq_true rfl) ?_
  intro x hxl hxa hC
  have hC : Cx x RX9 cX9_branches 1 (some .int) 0 g z0 := hC
  show GG x g z0 1 0 0 (Qi x g z0 (FI (σ.1 8 6) σ)) σ 0 [(0, .ref (g.2.1 0))] []
  refine g_aload_n (pc' := 1) (j := 0) hC dX9_branches_0 rfl rfl rfl ?_
  refine gf_X9_1 (pc' := 4) hC wF_X9_19 dX9_branches_1 rfl ?_
  refine gf_X6_6 (pc' := 7) hC wF_X9_188 dX9_branches_4 rfl ?_
  refine g_ret hC dX9_branches_7 rfl ?_
  exact ⟨rfl, rfl⟩
set_option maxHeartbeats 4000000 in
set_option maxRecDepth 20000 in
theorem c_blames (l : Launch) (g : Lay) (z0 : Nat) (σ : St)    : CTi l yX9_blames cX9_blames 1 (some .int) 0 g z0 [.ref (g.2.1 0)] σ (FI (σ.1 11 3) σ) := by
  refine CTi.of (by decide) (Nat.le_of_ble_eq_true rfl) ?_
  intro x hxl hxa hC
  have hC : Cx x RX9 cX9_blames 1 (some .int) 0 g z0 := hC
  show GG x g z0 1 0 0 (Qi x g z0 (FI (σ.1 11 3) σ)) σ 0 [(0, .ref (g.2.1 0))] []
  refine g_aload_n (pc' := 1) (j := 0) hC dX9_blames_0 rfl rfl rfl ?_
  refine gf_X9_1 (pc' := 4) hC wF_X9_19 dX9_blames_1 rfl ?_
  refine gf_X6_2 (pc' := 7) hC wF_X9_260 dX9_blames_4 rfl ?_
  refine gf_X4a_3 (pc' := 10) hC wF_X9_264 dX9_blames_7 rfl ?_
  refine g_ret hC dX9_blames_10 rfl ?_
  exact ⟨rfl, rfl⟩
set_option maxHeartbeats 4000000 in
set_option maxRecDepth 20000 in
theorem c_posts (l : Launch) (g : Lay) (z0 : Nat) (σ : St)    : CTi l yX9_posts cX9_posts 1 (some .int) 0 g z0 [.ref (g.2.1 0)] σ (FI (σ.1 13 3) σ) := by
  refine CTi.of (by decide) (Nat.le_of_ble_eq_true rfl) ?_
  intro x hxl hxa hC
  have hC : Cx x RX9 cX9_posts 1 (some .int) 0 g z0 := hC
  show GG x g z0 1 0 0 (Qi x g z0 (FI (σ.1 13 3) σ)) σ 0 [(0, .ref (g.2.1 0))] []
  refine g_aload_n (pc' := 1) (j := 0) hC dX9_posts_0 rfl rfl rfl ?_
  refine gf_X9_1 (pc' := 4) hC wF_X9_19 dX9_posts_1 rfl ?_
  refine gf_X6_3 (pc' := 7) hC wF_X9_275 dX9_posts_4 rfl ?_
  refine gf_X4b_3 (pc' := 10) hC wF_X9_264 dX9_posts_7 rfl ?_
  refine g_ret hC dX9_posts_10 rfl ?_
  exact ⟨rfl, rfl⟩
set_option maxHeartbeats 4000000 in
set_option maxRecDepth 20000 in
theorem c_errorCode (l : Launch) (g : Lay) (z0 : Nat) (σ : St)    : CTi l yX9_errorCode cX9_errorCode 1 (some .int) 0 g z0 [.ref (g.2.1 0)] σ (FI (σ.1 1 7) σ) := by
  refine CTi.of (by decide) (Nat.le_of_ble_eq_true rfl) ?_
  intro x hxl hxa hC
  have hC : Cx x RX9 cX9_errorCode 1 (some .int) 0 g z0 := hC
  show GG x g z0 1 0 0 (Qi x g z0 (FI (σ.1 1 7) σ)) σ 0 [(0, .ref (g.2.1 0))] []
  refine g_aload_n (pc' := 1) (j := 0) hC dX9_errorCode_0 rfl rfl rfl ?_
  refine gf_X9_0 (pc' := 4) hC wF_X9_10 dX9_errorCode_1 rfl ?_
  refine gf_X5_7 (pc' := 7) hC wF_X9_152 dX9_errorCode_4 rfl ?_
  refine g_ret hC dX9_errorCode_7 rfl ?_
  exact ⟨rfl, rfl⟩
set_option maxHeartbeats 4000000 in
set_option maxRecDepth 20000 in
theorem c_errorPosition (l : Launch) (g : Lay) (z0 : Nat) (σ : St)    : CTi l yX9_errorPosition cX9_errorPosition 1 (some .int) 0 g z0 [.ref (g.2.1 0)] σ (FI (σ.1 1 8) σ) := by
  refine CTi.of (by decide) (Nat.le_of_ble_eq_true rfl) ?_
  intro x hxl hxa hC
  have hC : Cx x RX9 cX9_errorPosition 1 (some .int) 0 g z0 := hC
  show GG x g z0 1 0 0 (Qi x g z0 (FI (σ.1 1 8) σ)) σ 0 [(0, .ref (g.2.1 0))] []
  refine g_aload_n (pc' := 1) (j := 0) hC dX9_errorPosition_0 rfl rfl rfl ?_
  refine gf_X9_0 (pc' := 4) hC wF_X9_10 dX9_errorPosition_1 rfl ?_
  refine gf_X5_8 (pc' := 7) hC wF_X9_155 dX9_errorPosition_4 rfl ?_
  refine g_ret hC dX9_errorPosition_7 rfl ?_
  exact ⟨rfl, rfl⟩
set_option maxHeartbeats 4000000 in
set_option maxRecDepth 20000 in
theorem c_refused (l : Launch) (g : Lay) (z0 : Nat) (σ : St)    : CTi l yX9_refused cX9_refused 1 (some .int) 0 g z0 [.ref (g.2.1 0)] σ (FI (σ.1 0 3) σ) := by
  refine CTi.of (by decide) (Nat.le_of_ble_eq_true rfl) ?_
  intro x hxl hxa hC
  have hC : Cx x RX9 cX9_refused 1 (some .int) 0 g z0 := hC
  show GG x g z0 1 0 0 (Qi x g z0 (FI (σ.1 0 3) σ)) σ 0 [(0, .ref (g.2.1 0))] []
  refine g_aload_n (pc' := 1) (j := 0) hC dX9_refused_0 rfl rfl rfl ?_
  refine gf_X9_3 (pc' := 4) hC wF_X9_73 dX9_refused_1 rfl ?_
  refine g_ret hC dX9_refused_4 rfl ?_
  exact ⟨rfl, rfl⟩
set_option maxHeartbeats 4000000 in
set_option maxRecDepth 20000 in
theorem c_blame (l : Launch) (g : Lay) (z0 : Nat) (σ : St) (i : Int32) (w : Int32) (hNT : l.stackTraces = false) (hT : GT g z0) (hI : CI σ)  : CXi l yX9_blame cX9_blame 3 (some .int) 7 2 g z0 [.ref (g.2.1 0), .int i, .int w] σ (FXi (wBm σ i w) (σ.1 12 (cn i * 6 + cn w)) σ) (FXx (wBm σ i w) σ) := by
  refine CXi.of hNT (by decide) (Nat.le_of_ble_eq_true rfl) ?_
  intro x hxl hxa hC hY
  have hC : Cx x RX9 cX9_blame 3 (some .int) 7 g z0 := hC
  show GG x g z0 3 0 0 (Xi x g z0 (FXi (wBm σ i w) (σ.1 12 (cn i * 6 + cn w)) σ) (FXx (wBm σ i w) σ) 2) σ 0 [(0, .ref (g.2.1 0)), (1, .int i), (2, .int w)] []
  refine g_aload_n (pc' := 1) (j := 0) hC dX9_blame_0 rfl rfl rfl ?_
  refine gf_X9_1 (pc' := 4) hC wF_X9_19 dX9_blame_1 rfl ?_
  refine gf_X6_2 (pc' := 7) hC wF_X9_260 dX9_blame_4 rfl ?_
  refine g_iload_n (pc' := 8) (j := 1) hC dX9_blame_7 rfl rfl rfl ?_
  refine f_Vi (pc' := 11) (k := 11) (st := []) hC (c_hasRowa x.2.1 g z0 σ i (hI.ra)) k_X4_hasRow wM_X9_269 (by decide) (by decide) (ct_11 g σ) rfl rfl rfl rfl (Nat.le_of_ble_eq_true rfl) dX9_blame_8 rfl (Nat.zero_le _) (Nat.zero_le _) ?_
  refine b_if_ne (pc' := 14) (tgt := 25) hC dX9_blame_11 (by decide) rfl (fun c11 => ?_) (fun c11 => ?_)
  · skip
    obtain ⟨hiN, hiL⟩ := vl2_n (by have := hI.ra.2; omega) c11
    have hiM := hI.ra.2
    refine gg_lve (lv' := [(0, .ref (g.2.1 0)), (1, .int (nI (cn i))), (2, .int w)]) (by rw [← hiN]) ?_
    refine g_iload_n (pc' := 26) (j := 2) hC dX9_blame_25 rfl rfl rfl ?_
    refine g_bipush (pc' := 28) (v := nI 6) hC dX9_blame_26 rfl rfl ?_
    refine fx_Sv (pc' := 31) (st := []) hC hY (c_requirePart x.2.1 g z0 σ w 6 (hY.2.2) (hT)) k_X9_requirePart wM_X9_208 (by decide) rfl rfl (Nat.le_of_ble_eq_true rfl) dX9_blame_28 rfl (by decide) (by decide) (fun E x28 => ?_) (fun x28 => ?_)
    · exact ⟨by unfold wBm; rw [cI_t c11]; exact x28, rfl⟩
    obtain ⟨hwN, hwL⟩ := cpq_n (by decide) (cI_no x28)
    refine gg_lve (lv' := [(0, .ref (g.2.1 0)), (1, .int (nI (cn i))), (2, .int (nI (cn w)))]) (by rw [← hwN]) ?_
    refine g_aload_n (pc' := 32) (j := 0) hC dX9_blame_31 rfl rfl rfl ?_
    refine gf_X9_1 (pc' := 35) hC wF_X9_19 dX9_blame_32 rfl ?_
    refine gf_X6_2 (pc' := 38) hC wF_X9_260 dX9_blame_35 rfl ?_
    refine g_iload_n (pc' := 39) (j := 1) hC dX9_blame_38 rfl rfl rfl ?_
    refine g_iload_n (pc' := 40) (j := 2) hC dX9_blame_39 rfl rfl rfl ?_
    refine f_Vi (pc' := 43) (k := 11) (st := []) hC (c_partOfa x.2.1 g z0 σ ((cn i)) ((cn w)) (by omega) (by omega)) k_X4_partOf wM_X9_274 (by decide) (by decide) (ct_11 g σ) rfl rfl rfl rfl (Nat.le_of_ble_eq_true rfl) dX9_blame_40 rfl (hY.c (by decide)) (hY.s (by decide)) ?_
    refine gx_ret hC (by decide) (by decide) dX9_blame_43 rfl ?_
    exact ⟨by unfold wBm; rw [cI_t c11]; exact x28, rfl, rfl⟩
  · skip
    exact gx_thSW hC hY hT xe_exNo (by decide : (272, "no such blame record") ∈ exS) (by decide) (by decide) (by decide) (Nat.le_of_ble_eq_true rfl) dX9_blame_14 dX9_blame_17 dX9_blame_18 dX9_blame_21 dX9_blame_24 (⟨by unfold wBm; rw [cI_f c11], rfl⟩)
set_option maxHeartbeats 4000000 in
set_option maxRecDepth 20000 in
theorem c_boardPost (l : Launch) (g : Lay) (z0 : Nat) (σ : St) (i : Int32) (w : Int32) (hNT : l.stackTraces = false) (hT : GT g z0) (hI : CI σ)  : CXi l yX9_boardPost cX9_boardPost 3 (some .int) 7 2 g z0 [.ref (g.2.1 0), .int i, .int w] σ (FXi (wBp σ i w) (σ.1 14 (cn i * 4 + cn w)) σ) (FXx (wBp σ i w) σ) := by
  refine CXi.of hNT (by decide) (Nat.le_of_ble_eq_true rfl) ?_
  intro x hxl hxa hC hY
  have hC : Cx x RX9 cX9_boardPost 3 (some .int) 7 g z0 := hC
  show GG x g z0 3 0 0 (Xi x g z0 (FXi (wBp σ i w) (σ.1 14 (cn i * 4 + cn w)) σ) (FXx (wBp σ i w) σ) 2) σ 0 [(0, .ref (g.2.1 0)), (1, .int i), (2, .int w)] []
  refine g_aload_n (pc' := 1) (j := 0) hC dX9_boardPost_0 rfl rfl rfl ?_
  refine g_iload_n (pc' := 2) (j := 1) hC dX9_boardPost_1 rfl rfl rfl ?_
  refine fx_Vv (pc' := 5) (kr := 0) (st := []) hC hY (c_requirePost x.2.1 g z0 σ i (hY.2.2) (hT) (hI.rb)) k_X9_requirePost wM_X9_278 (by decide) (by decide) (ct_0 g σ) rfl rfl rfl rfl (Nat.le_of_ble_eq_true rfl) dX9_boardPost_2 rfl (by decide) (by decide) (fun E x2 => ?_) (fun x2 => ?_)
  · exact ⟨by obtain ⟨q, e⟩ := cI_so x2; unfold wBp; rw [cI_f q, e], rfl⟩
  obtain ⟨hiN, hiL⟩ := vl2_n (by have := hI.rb.2; omega) (cI_no x2)
  have hiM := hI.rb.2
  refine gg_lve (lv' := [(0, .ref (g.2.1 0)), (1, .int (nI (cn i))), (2, .int w)]) (by rw [← hiN]) ?_
  refine g_iload_n (pc' := 6) (j := 2) hC dX9_boardPost_5 rfl rfl rfl ?_
  refine g_iconst (pc' := 7) (v := nI 4) hC dX9_boardPost_6 rfl rfl ?_
  refine fx_Sv (pc' := 10) (st := []) hC hY (c_requirePart x.2.1 g z0 σ w 4 (hY.2.2) (hT)) k_X9_requirePart wM_X9_208 (by decide) rfl rfl (Nat.le_of_ble_eq_true rfl) dX9_boardPost_7 rfl (by decide) (by decide) (fun E x7 => ?_) (fun x7 => ?_)
  · exact ⟨by unfold wBp; rw [cI_t (cI_no x2)]; exact x7, rfl⟩
  obtain ⟨hwN, hwL⟩ := cpq_n (by decide) (cI_no x7)
  refine gg_lve (lv' := [(0, .ref (g.2.1 0)), (1, .int (nI (cn i))), (2, .int (nI (cn w)))]) (by rw [← hwN]) ?_
  refine g_aload_n (pc' := 11) (j := 0) hC dX9_boardPost_10 rfl rfl rfl ?_
  refine gf_X9_1 (pc' := 14) hC wF_X9_19 dX9_boardPost_11 rfl ?_
  refine gf_X6_3 (pc' := 17) hC wF_X9_275 dX9_boardPost_14 rfl ?_
  refine g_iload_n (pc' := 18) (j := 1) hC dX9_boardPost_17 rfl rfl rfl ?_
  refine g_iload_n (pc' := 19) (j := 2) hC dX9_boardPost_18 rfl rfl rfl ?_
  refine f_Vi (pc' := 22) (k := 13) (st := []) hC (c_partOfb x.2.1 g z0 σ ((cn i)) ((cn w)) (by omega) (by omega)) k_X4_partOf wM_X9_274 (by decide) (by decide) (ct_13 g σ) rfl rfl rfl rfl (Nat.le_of_ble_eq_true rfl) dX9_boardPost_19 rfl (hY.c (by decide)) (hY.s (by decide)) ?_
  refine gx_ret hC (by decide) (by decide) dX9_boardPost_22 rfl ?_
  exact ⟨by unfold wBp; rw [cI_t (cI_no x2)]; exact x7, rfl, rfl⟩
set_option maxHeartbeats 4000000 in
set_option maxRecDepth 20000 in
theorem c_checkPost (l : Launch) (g : Lay) (z0 : Nat) (σ : St) (c : Int32) (i : Int32) (hNT : l.stackTraces = false) (hT : GT g z0) (hI : CI σ)  : CXi l yX9_checkPost cX9_checkPost 5 (some .int) 7 2 g z0 [.ref (g.2.1 0), .int c, .int i] σ (FXi (wCp σ c i) (ccp' σ c i) σ) (FXx (wCp σ c i) σ) := by
  refine CXi.of hNT (by decide) (Nat.le_of_ble_eq_true rfl) ?_
  intro x hxl hxa hC hY
  have hC : Cx x RX9 cX9_checkPost 5 (some .int) 7 g z0 := hC
  show GG x g z0 5 0 0 (Xi x g z0 (FXi (wCp σ c i) (ccp' σ c i) σ) (FXx (wCp σ c i) σ) 2) σ 0 [(0, .ref (g.2.1 0)), (1, .int c), (2, .int i)] []
  refine g_aload_n (pc' := 1) (j := 0) hC dX9_checkPost_0 rfl rfl rfl ?_
  refine g_iload_n (pc' := 2) (j := 1) hC dX9_checkPost_1 rfl rfl rfl ?_
  refine fx_Vv (pc' := 5) (kr := 0) (st := []) hC hY (c_requireClient x.2.1 g z0 σ c (hY.2.2) (hT) (hI.nc)) k_X9_requireClient wM_X9_161 (by decide) (by decide) (ct_0 g σ) rfl rfl rfl rfl (Nat.le_of_ble_eq_true rfl) dX9_checkPost_2 rfl (by decide) (by decide) (fun E x2 => ?_) (fun x2 => ?_)
  · exact ⟨by obtain ⟨q, e⟩ := cI_so x2; unfold wCp; rw [cI_f q, e], rfl⟩
  refine g_aload_n (pc' := 6) (j := 0) hC dX9_checkPost_5 rfl rfl rfl ?_
  refine g_iload_n (pc' := 7) (j := 2) hC dX9_checkPost_6 rfl rfl rfl ?_
  refine fx_Vv (pc' := 10) (kr := 0) (st := []) hC hY (c_requirePost x.2.1 g z0 σ i (hY.2.2) (hT) (hI.rb)) k_X9_requirePost wM_X9_278 (by decide) (by decide) (ct_0 g σ) rfl rfl rfl rfl (Nat.le_of_ble_eq_true rfl) dX9_checkPost_7 rfl (by decide) (by decide) (fun E x7 => ?_) (fun x7 => ?_)
  · exact ⟨by unfold wCp; rw [cI_t (cI_no x2)]; exact x7, rfl⟩
  obtain ⟨hcN, hcL⟩ := vl2_n (by have := hI.nc.2; omega) (cI_no x2)
  have hcM := hI.nc.2
  have hpo2 := (hI.po (c := cn c) (by omega)).2
  refine gg_lve (lv' := [(0, .ref (g.2.1 0)), (1, .int (nI (cn c))), (2, .int i)]) (by rw [← hcN]) ?_
  obtain ⟨hiN, hiL⟩ := vl2_n (by have := hI.rb.2; omega) (cI_no x7)
  have hiM := hI.rb.2
  have hpp2 := (hI.pp (k := cn i) (by omega)).2
  refine gg_lve (lv' := [(0, .ref (g.2.1 0)), (1, .int (nI (cn c))), (2, .int (nI (cn i)))]) (by rw [← hiN]) ?_
  refine g_aload_n (pc' := 11) (j := 0) hC dX9_checkPost_10 rfl rfl rfl ?_
  refine gf_X9_1 (pc' := 14) hC wF_X9_19 dX9_checkPost_11 rfl ?_
  refine gf_X6_1 (pc' := 17) hC wF_X9_164 dX9_checkPost_14 rfl ?_
  refine g_iload_n (pc' := 18) (j := 1) hC dX9_checkPost_17 rfl rfl rfl ?_
  refine a_ldr (pc' := 19) (k := 10) (t := 6) (i := cn c) hC (by decide) (ct_10 g σ) rfl (by omega) (by decide) dX9_checkPost_18 rfl ?_
  refine g_astore_n (pc' := 20) (lv' := [(3, .ref (g.2.1 (90 + 3 * (cn c)))), (0, .ref (g.2.1 0)), (1, .int (nI (cn c))), (2, .int (nI (cn i)))]) hC dX9_checkPost_19 rfl rfl (by decide) rfl ?_
  refine g_aload_n (pc' := 21) (j := 1) hC dX9_checkPost_20 rfl rfl rfl ?_
  refine gf_X9_1 (pc' := 24) hC wF_X9_19 dX9_checkPost_21 rfl ?_
  refine gf_X6_3 (pc' := 27) hC wF_X9_275 dX9_checkPost_24 rfl ?_
  refine g_iload_n (pc' := 28) (j := 3) hC dX9_checkPost_27 rfl rfl rfl ?_
  refine g_iconst (pc' := 29) (v := nI 1) hC dX9_checkPost_28 rfl rfl ?_
  refine f_Vi (pc' := 32) (k := 13) (st := []) hC (c_partOfb x.2.1 g z0 σ ((cn i)) 1 (by omega) (by omega)) k_X4_partOf wM_X9_274 (by decide) (by decide) (ct_13 g σ) rfl rfl rfl rfl (Nat.le_of_ble_eq_true rfl) dX9_checkPost_29 rfl (hY.c (by decide)) (hY.s (by decide)) ?_
  refine gg_topi (b := nI (rd σ 14 (cn i * 4 + 1))) ((hI.pp (by omega)).1) ?_
  refine g_istore (pc' := 34) (lv' := [(4, .int (nI (rd σ 14 (cn i * 4 + 1)))), (3, .ref (g.2.1 (90 + 3 * (cn c)))), (0, .ref (g.2.1 0)), (1, .int (nI (cn c))), (2, .int (nI (cn i)))]) hC dX9_checkPost_32 rfl (by decide) rfl ?_
  refine g_aload_n (pc' := 35) (j := 1) hC dX9_checkPost_34 rfl rfl rfl ?_
  refine gf_X2_2 (pc' := 38) (b := cn c) hC (by omega : (cn c) < 6) wF_X9_185 dX9_checkPost_35 rfl ?_
  refine gg_topi (b := nI (rd σ (90 + 3 * cn c) 2)) ((hI.po (by omega)).1) ?_
  refine g_iload (pc' := 40) (j := 0) hC dX9_checkPost_38 rfl rfl ?_
  refine n_icmp_ge (pc' := 43) (tgt := 45) hC dX9_checkPost_40 (by decide) rfl (by omega) (by omega) (fun c40 => ?_) (fun c40 => ?_)
  · skip
    refine g_aload_n (pc' := 46) (j := 1) hC dX9_checkPost_45 rfl rfl rfl ?_
    refine gf_X2_0 (pc' := 49) (b := cn c) hC (by omega : (cn c) < 6) wF_X9_243 dX9_checkPost_46 rfl ?_
    refine g_iload (pc' := 51) (j := 0) hC dX9_checkPost_49 rfl rfl ?_
    refine a_ld (pc' := 52) (k := 90 + 3 * (cn c) + 1) (i := rd σ 14 (cn i * 4 + 1)) hC (by have := (by omega : (cn c) < 6); show _ < 228; omega) (ct_ch g σ (by omega : (cn c) < 6)) (by omega) (by decide) dX9_checkPost_51 rfl ?_
    refine g_aload_n (pc' := 53) (j := 2) hC dX9_checkPost_52 rfl rfl rfl ?_
    refine gf_X9_1 (pc' := 56) hC wF_X9_19 dX9_checkPost_53 rfl ?_
    refine gf_X6_3 (pc' := 59) hC wF_X9_275 dX9_checkPost_56 rfl ?_
    refine g_iload_n (pc' := 60) (j := 4) hC dX9_checkPost_59 rfl rfl rfl ?_
    refine g_iconst (pc' := 61) (v := nI 2) hC dX9_checkPost_60 rfl rfl ?_
    refine f_Vi (pc' := 64) (k := 13) (st := [.int (σ.1 (90 + 3 * (cn c) + 1) (rd σ 14 (cn i * 4 + 1)))]) hC (c_partOfb x.2.1 g z0 σ ((cn i)) 2 (by omega) (by omega)) k_X4_partOf wM_X9_274 (by decide) (by decide) (ct_13 g σ) rfl rfl rfl rfl (Nat.le_of_ble_eq_true rfl) dX9_checkPost_61 rfl (hY.c (by decide)) (hY.s (by decide)) ?_
    refine g_icmp_ne (pc' := 67) (tgt := 71) hC dX9_checkPost_64 (by decide) rfl (fun c64 => ?_) (fun c64 => ?_)
    · skip
      refine g_iconst (pc' := 72) (v := nI 1) hC dX9_checkPost_71 rfl rfl ?_
      refine gx_ret hC (by decide) (by decide) dX9_checkPost_72 rfl ?_
      exact ⟨by unfold wCp; rw [cI_t (cI_no x2)]; exact x7, by unfold ccp'; rw [cI_f (Nat.not_lt.mpr c40), cI_f c64], rfl⟩
    · skip
      refine g_iconst (pc' := 68) (v := nI 0) hC dX9_checkPost_67 rfl rfl ?_
      refine g_goto (tgt := 72) hC dX9_checkPost_68 (by decide) ?_
      refine gx_ret hC (by decide) (by decide) dX9_checkPost_72 rfl ?_
      exact ⟨by unfold wCp; rw [cI_t (cI_no x2)]; exact x7, by unfold ccp'; rw [cI_f (Nat.not_lt.mpr c40), cI_t c64], rfl⟩
  · skip
    refine g_iconst (pc' := 44) (v := nI 2) hC dX9_checkPost_43 rfl rfl ?_
    refine gx_ret hC (by decide) (by decide) dX9_checkPost_44 rfl ?_
    exact ⟨by unfold wCp; rw [cI_t (cI_no x2)]; exact x7, by unfold ccp'; rw [cI_t c40], rfl⟩
set_option maxHeartbeats 4000000 in
set_option maxRecDepth 20000 in
theorem c_seenBy (l : Launch) (g : Lay) (z0 : Nat) (σ : St) (c : Int32) (hNT : l.stackTraces = false) (hT : GT g z0) (hI : CI σ)  : CXi l yX9_seenBy cX9_seenBy 6 (some .int) 7 1 g z0 [.ref (g.2.1 0), .int c] σ (FXi (wCl σ c) (csb σ (cn c) (rd σ 8 4)) σ) (FXx (wCl σ c) σ) := by
  refine CXi.of hNT (by decide) (Nat.le_of_ble_eq_true rfl) ?_
  intro x hxl hxa hC hY
  have hC : Cx x RX9 cX9_seenBy 6 (some .int) 7 g z0 := hC
  show GG x g z0 6 0 0 (Xi x g z0 (FXi (wCl σ c) (csb σ (cn c) (rd σ 8 4)) σ) (FXx (wCl σ c) σ) 1) σ 0 [(0, .ref (g.2.1 0)), (1, .int c)] []
  refine g_aload_n (pc' := 1) (j := 0) hC dX9_seenBy_0 rfl rfl rfl ?_
  refine g_iload_n (pc' := 2) (j := 1) hC dX9_seenBy_1 rfl rfl rfl ?_
  refine fx_Vv (pc' := 5) (kr := 0) (st := []) hC hY (c_requireClient x.2.1 g z0 σ c (hY.2.2) (hT) (hI.nc)) k_X9_requireClient wM_X9_161 (by decide) (by decide) (ct_0 g σ) rfl rfl rfl rfl (Nat.le_of_ble_eq_true rfl) dX9_seenBy_2 rfl (by decide) (by decide) (fun E x2 => ?_) (fun x2 => ?_)
  · exact ⟨x2, rfl⟩
  obtain ⟨hcN, hcL⟩ := vl2_n (by have := hI.nc.2; omega) (cI_no x2)
  have hcM := hI.nc.2
  refine gg_lve (lv' := [(0, .ref (g.2.1 0)), (1, .int (nI (cn c)))]) (by rw [← hcN]) ?_
  refine g_aload_n (pc' := 6) (j := 0) hC dX9_seenBy_5 rfl rfl rfl ?_
  refine gf_X9_1 (pc' := 9) hC wF_X9_19 dX9_seenBy_6 rfl ?_
  refine gf_X6_1 (pc' := 12) hC wF_X9_164 dX9_seenBy_9 rfl ?_
  refine g_iload_n (pc' := 13) (j := 1) hC dX9_seenBy_12 rfl rfl rfl ?_
  refine a_ldr (pc' := 14) (k := 10) (t := 6) (i := cn c) hC (by decide) (ct_10 g σ) rfl (by omega) (by decide) dX9_seenBy_13 rfl ?_
  refine g_astore_n (pc' := 15) (lv' := [(2, .ref (g.2.1 (90 + 3 * (cn c)))), (0, .ref (g.2.1 0)), (1, .int (nI (cn c)))]) hC dX9_seenBy_14 rfl rfl (by decide) rfl ?_
  refine g_iconst (pc' := 16) (v := nI 0) hC dX9_seenBy_15 rfl rfl ?_
  refine g_istore_n (pc' := 17) (lv' := [(3, .int (nI 0)), (2, .ref (g.2.1 (90 + 3 * (cn c)))), (0, .ref (g.2.1 0)), (1, .int (nI (cn c)))]) hC dX9_seenBy_16 rfl rfl (by decide) rfl ?_
  refine g_iconst (pc' := 18) (v := nI 0) hC dX9_seenBy_17 rfl rfl ?_
  refine g_istore (pc' := 20) (lv' := [(4, .int (nI 0)), (3, .int (nI 0)), (2, .ref (g.2.1 (90 + 3 * (cn c)))), (0, .ref (g.2.1 0)), (1, .int (nI (cn c)))]) hC dX9_seenBy_18 rfl (by decide) rfl ?_
  have L20 : ∀ (fu : Nat) (i : Nat) (set : Int32), (i ≤ rd σ 8 4) → (set = csb σ (cn c) i) → (rd σ 8 4 - i) < fu → GG x g z0 6 1 6 (Xi x g z0 (FXi (wCl σ c) (csb σ (cn c) (rd σ 8 4)) σ) (FXx (wCl σ c) σ) 1) σ 20 [(4, .int (nI i)), (3, .int set), (2, .ref (g.2.1 (90 + 3 * (cn c)))), (0, .ref (g.2.1 0)), (1, .int (nI (cn c)))] [] := by
    intro fu
    induction fu with
    | zero => intro i set hi hs hz; exact absurd hz (Nat.not_lt_zero _)
    | succ fu ih20 =>
      intro i set hi hs hf
      refine g_iload (pc' := 22) (j := 0) hC dX9_seenBy_20 rfl rfl ?_
      refine g_aload_n (pc' := 23) (j := 3) hC dX9_seenBy_22 rfl rfl rfl ?_
      refine gf_X9_1 (pc' := 26) hC wF_X9_19 dX9_seenBy_23 rfl ?_
      refine gf_X6_4 (pc' := 29) hC wF_X9_76 dX9_seenBy_26 rfl ?_
      refine gg_topi (b := nI (rd σ 8 4)) (hI.nc.1) ?_
      refine n_icmp_ge (pc' := 32) (tgt := 88) hC dX9_seenBy_29 (by decide) rfl (by omega) (by omega) (fun c29 => ?_) (fun c29 => ?_)
      · skip
        refine g_iload_n (pc' := 89) (j := 1) hC dX9_seenBy_88 rfl rfl rfl ?_
        refine gx_ret hC (by decide) (by decide) dX9_seenBy_89 rfl ?_
        exact ⟨x2, by rw [hs, show rd σ 8 4 = i by omega], rfl⟩
      · skip
        refine g_aload_n (pc' := 33) (j := 3) hC dX9_seenBy_32 rfl rfl rfl ?_
        refine gf_X9_1 (pc' := 36) hC wF_X9_19 dX9_seenBy_33 rfl ?_
        refine gf_X6_1 (pc' := 39) hC wF_X9_164 dX9_seenBy_36 rfl ?_
        refine g_iload (pc' := 41) (j := 0) hC dX9_seenBy_39 rfl rfl ?_
        refine a_ldr (pc' := 42) (k := 10) (t := 6) (i := i) hC (by decide) (ct_10 g σ) rfl (by omega) (by decide) dX9_seenBy_41 rfl ?_
        refine g_astore (pc' := 44) (lv' := [(5, .ref (g.2.1 (90 + 3 * i))), (4, .int (nI i)), (3, .int set), (2, .ref (g.2.1 (90 + 3 * (cn c)))), (0, .ref (g.2.1 0)), (1, .int (nI (cn c)))]) hC dX9_seenBy_42 rfl (by decide) rfl ?_
        refine g_iload (pc' := 46) (j := 1) hC dX9_seenBy_44 rfl rfl ?_
        refine g_iload_n (pc' := 47) (j := 5) hC dX9_seenBy_46 rfl rfl rfl ?_
        refine n_icmp_eq (pc' := 50) (tgt := 82) hC dX9_seenBy_47 (by decide) rfl (by omega) (by omega) (fun c47 => ?_) (fun c47 => ?_)
        · skip
          have hst : set = csb σ (cn c) (i + 1) := hs.trans (cI_f (fun z => z.1 c47)).symm
          refine g_iinc (pc' := 85) (j := 1) (u := nI (i + 1)) (lv' := [(4, .int (nI (i + 1))), (5, .ref (g.2.1 (90 + 3 * i))), (3, .int set), (2, .ref (g.2.1 (90 + 3 * (cn c)))), (0, .ref (g.2.1 0)), (1, .int (nI (cn c)))]) hC dX9_seenBy_82 rfl rfl (nI_add i 1) (by decide) rfl ?_
          refine g_goto (tgt := 20) hC dX9_seenBy_85 (by decide) ?_
          refine gg_lv (lv' := [(4, .int (nI (i + 1))), (3, .int set), (2, .ref (g.2.1 (90 + 3 * (cn c)))), (0, .ref (g.2.1 0)), (1, .int (nI (cn c)))]) ?_ [0, 2, 3, 4, 5] rfl
          exact ih20 ((i + 1)) set (by omega) (hst) (by omega)
        · skip
          refine g_aload (pc' := 52) (j := 0) hC dX9_seenBy_50 rfl rfl ?_
          refine gf_X2_1 (pc' := 55) (b := i) hC (by omega : i < 6) wF_X9_246 dX9_seenBy_52 rfl ?_
          refine g_iload_n (pc' := 56) (j := 5) hC dX9_seenBy_55 rfl rfl rfl ?_
          refine a_ld (pc' := 57) (k := 90 + 3 * i + 2) (i := cn c) hC (by have := (by omega : i < 6); show _ < 228; omega) (ct_cc g σ (by omega : i < 6)) (by omega) (by decide) dX9_seenBy_56 rfl ?_
          refine g_aload_n (pc' := 58) (j := 3) hC dX9_seenBy_57 rfl rfl rfl ?_
          refine gf_X2_1 (pc' := 61) (b := cn c) hC (by omega : (cn c) < 6) wF_X9_246 dX9_seenBy_58 rfl ?_
          refine g_iload_n (pc' := 62) (j := 5) hC dX9_seenBy_61 rfl rfl rfl ?_
          refine a_ld (pc' := 63) (k := 90 + 3 * (cn c) + 2) (i := cn c) hC (by have := (by omega : (cn c) < 6); show _ < 228; omega) (ct_cc g σ (by omega : (cn c) < 6)) (by omega) (by decide) dX9_seenBy_62 rfl ?_
          refine g_icmp_lt (pc' := 66) (tgt := 82) hC dX9_seenBy_63 (by decide) rfl (fun c63 => ?_) (fun c63 => ?_)
          · skip
            have hst : set = csb σ (cn c) (i + 1) := hs.trans (cI_f (fun z => z.2.1 c63)).symm
            refine g_iinc (pc' := 85) (j := 1) (u := nI (i + 1)) (lv' := [(4, .int (nI (i + 1))), (5, .ref (g.2.1 (90 + 3 * i))), (3, .int set), (2, .ref (g.2.1 (90 + 3 * (cn c)))), (0, .ref (g.2.1 0)), (1, .int (nI (cn c)))]) hC dX9_seenBy_82 rfl rfl (nI_add i 1) (by decide) rfl ?_
            refine g_goto (tgt := 20) hC dX9_seenBy_85 (by decide) ?_
            refine gg_lv (lv' := [(4, .int (nI (i + 1))), (3, .int set), (2, .ref (g.2.1 (90 + 3 * (cn c)))), (0, .ref (g.2.1 0)), (1, .int (nI (cn c)))]) ?_ [0, 2, 3, 4, 5] rfl
            exact ih20 ((i + 1)) set (by omega) (hst) (by omega)
          · skip
            refine g_aload (pc' := 68) (j := 0) hC dX9_seenBy_66 rfl rfl ?_
            refine g_aload_n (pc' := 69) (j := 3) hC dX9_seenBy_68 rfl rfl rfl ?_
            refine f_Vi (pc' := 72) (k := 90 + 3 * i) (st := []) hC (c_isForkedFrom x.2.1 g z0 σ i ((cn c)) (by omega) (hI.po (by omega)) (by omega) (hI.po (by omega))) k_X2_isForkedFrom wM_X9_256 (by decide) (by have := (by omega : i < 6); show _ < 228; omega) (ct_cl g σ (by omega : i < 6)) rfl rfl rfl rfl (Nat.le_of_ble_eq_true rfl) dX9_seenBy_69 rfl (hY.c (by decide)) (hY.s (by decide)) ?_
            refine b_if_ne (pc' := 75) (tgt := 82) hC dX9_seenBy_72 (by decide) rfl (fun c72 => ?_) (fun c72 => ?_)
            · skip
              have hst : set = csb σ (cn c) (i + 1) := hs.trans (cI_f (fun z => z.2.2 c72)).symm
              refine g_iinc (pc' := 85) (j := 1) (u := nI (i + 1)) (lv' := [(4, .int (nI (i + 1))), (5, .ref (g.2.1 (90 + 3 * i))), (3, .int set), (2, .ref (g.2.1 (90 + 3 * (cn c)))), (0, .ref (g.2.1 0)), (1, .int (nI (cn c)))]) hC dX9_seenBy_82 rfl rfl (nI_add i 1) (by decide) rfl ?_
              refine g_goto (tgt := 20) hC dX9_seenBy_85 (by decide) ?_
              refine gg_lv (lv' := [(4, .int (nI (i + 1))), (3, .int set), (2, .ref (g.2.1 (90 + 3 * (cn c)))), (0, .ref (g.2.1 0)), (1, .int (nI (cn c)))]) ?_ [0, 2, 3, 4, 5] rfl
              exact ih20 ((i + 1)) set (by omega) (hst) (by omega)
            · skip
              have hst : set ||| (nI 1 <<< (nI i &&& 31)) = csb σ (cn c) (i + 1) := by rw [hs]; exact (cI_t ⟨c47, c63, c72⟩).symm
              refine g_iload_n (pc' := 76) (j := 2) hC dX9_seenBy_75 rfl rfl rfl ?_
              refine g_iconst (pc' := 77) (v := nI 1) hC dX9_seenBy_76 rfl rfl ?_
              refine g_iload (pc' := 79) (j := 1) hC dX9_seenBy_77 rfl rfl ?_
              refine g_ishl (pc' := 80) hC dX9_seenBy_79 rfl ?_
              refine g_ior (pc' := 81) hC dX9_seenBy_80 rfl ?_
              refine g_istore_n (pc' := 82) (lv' := [(3, .int (set ||| ((nI 1) <<< ((nI i) &&& 31)))), (5, .ref (g.2.1 (90 + 3 * i))), (4, .int (nI i)), (2, .ref (g.2.1 (90 + 3 * (cn c)))), (0, .ref (g.2.1 0)), (1, .int (nI (cn c)))]) hC dX9_seenBy_81 rfl rfl (by decide) rfl ?_
              refine g_iinc (pc' := 85) (j := 2) (u := nI (i + 1)) (lv' := [(4, .int (nI (i + 1))), (3, .int (set ||| ((nI 1) <<< ((nI i) &&& 31)))), (5, .ref (g.2.1 (90 + 3 * i))), (2, .ref (g.2.1 (90 + 3 * (cn c)))), (0, .ref (g.2.1 0)), (1, .int (nI (cn c)))]) hC dX9_seenBy_82 rfl rfl (nI_add i 1) (by decide) rfl ?_
              refine g_goto (tgt := 20) hC dX9_seenBy_85 (by decide) ?_
              refine gg_lv (lv' := [(4, .int (nI (i + 1))), (3, .int (set ||| ((nI 1) <<< ((nI i) &&& 31)))), (2, .ref (g.2.1 (90 + 3 * (cn c)))), (0, .ref (g.2.1 0)), (1, .int (nI (cn c)))]) ?_ [0, 1, 3, 4, 5] rfl
              exact ih20 ((i + 1)) (set ||| ((nI 1) <<< ((nI i) &&& 31))) (by omega) (hst) (by omega)
  refine gg_lv (lv' := [(4, .int (nI 0)), (3, .int (nI 0)), (2, .ref (g.2.1 (90 + 3 * (cn c)))), (0, .ref (g.2.1 0)), (1, .int (nI (cn c)))]) ?_ [0, 1, 2, 3, 4] rfl
  exact L20 (rd σ 8 4 - 0 + 1) 0 ((nI 0)) (by omega) (rfl) (by omega)
set_option maxHeartbeats 4000000 in
set_option maxRecDepth 20000 in
theorem c_forkedPairs (l : Launch) (g : Lay) (z0 : Nat) (σ : St)  (hI : CI σ)  : CTi l yX9_forkedPairs cX9_forkedPairs 4 (some .int) 2 g z0 [.ref (g.2.1 0)] σ (FI (nI (cfp σ (rd σ 8 4) (rd σ 8 4))) σ) := by
  refine CTi.of (by decide) (Nat.le_of_ble_eq_true rfl) ?_
  intro x hxl hxa hC
  have hC : Cx x RX9 cX9_forkedPairs 4 (some .int) 2 g z0 := hC
  have hN := hI.nc.2
  show GG x g z0 4 0 0 (Qi x g z0 (FI (nI (cfp σ (rd σ 8 4) (rd σ 8 4))) σ)) σ 0 [(0, .ref (g.2.1 0))] []
  refine g_iconst (pc' := 1) (v := nI 0) hC dX9_forkedPairs_0 rfl rfl ?_
  refine g_istore_n (pc' := 2) (lv' := [(1, .int (nI 0)), (0, .ref (g.2.1 0))]) hC dX9_forkedPairs_1 rfl rfl (by decide) rfl ?_
  refine g_iconst (pc' := 3) (v := nI 0) hC dX9_forkedPairs_2 rfl rfl ?_
  refine g_istore_n (pc' := 4) (lv' := [(2, .int (nI 0)), (1, .int (nI 0)), (0, .ref (g.2.1 0))]) hC dX9_forkedPairs_3 rfl rfl (by decide) rfl ?_
  have L4 : ∀ (fu : Nat) (a : Nat), (a ≤ rd σ 8 4) → (rd σ 8 4 - a) < fu → GG x g z0 4 0 0 (Qi x g z0 (FI (nI (cfp σ (rd σ 8 4) (rd σ 8 4))) σ)) σ 4 [(2, .int (nI a)), (1, .int (nI (cfp σ (rd σ 8 4) a))), (0, .ref (g.2.1 0))] [] := by
    intro fu
    induction fu with
    | zero => intro a ha hz; exact absurd hz (Nat.not_lt_zero _)
    | succ fu ih4 =>
      intro a ha hf
      refine g_iload_n (pc' := 5) (j := 0) hC dX9_forkedPairs_4 rfl rfl rfl ?_
      refine g_aload_n (pc' := 6) (j := 2) hC dX9_forkedPairs_5 rfl rfl rfl ?_
      refine gf_X9_1 (pc' := 9) hC wF_X9_19 dX9_forkedPairs_6 rfl ?_
      refine gf_X6_4 (pc' := 12) hC wF_X9_76 dX9_forkedPairs_9 rfl ?_
      refine gg_topi (b := nI (rd σ 8 4)) (hI.nc.1) ?_
      refine n_icmp_ge (pc' := 15) (tgt := 69) hC dX9_forkedPairs_12 (by decide) rfl (by omega) (by omega) (fun c12 => ?_) (fun c12 => ?_)
      · skip
        refine g_iload_n (pc' := 70) (j := 1) hC dX9_forkedPairs_69 rfl rfl rfl ?_
        refine g_ret hC dX9_forkedPairs_70 rfl ?_
        exact ⟨by rw [show a = rd σ 8 4 by omega], rfl⟩
      · skip
        refine g_iload_n (pc' := 16) (j := 0) hC dX9_forkedPairs_15 rfl rfl rfl ?_
        refine g_iconst (pc' := 17) (v := nI 1) hC dX9_forkedPairs_16 rfl rfl ?_
        refine n_iadd (pc' := 18) hC dX9_forkedPairs_17 rfl ?_
        refine g_istore_n (pc' := 19) (lv' := [(3, .int (nI (a + 1))), (2, .int (nI a)), (1, .int (nI (cfp σ (rd σ 8 4) a))), (0, .ref (g.2.1 0))]) hC dX9_forkedPairs_18 rfl rfl (by decide) rfl ?_
        have L19 : ∀ (fu : Nat) (i : Nat), (a + 1 + i ≤ rd σ 8 4) → (rd σ 8 4 - i) < fu → GG x g z0 4 0 0 (Qi x g z0 (FI (nI (cfp σ (rd σ 8 4) (rd σ 8 4))) σ)) σ 19 [(3, .int (nI (a + 1 + i))), (2, .int (nI a)), (1, .int (nI (cfp σ (rd σ 8 4) a + cfr1 σ a i))), (0, .ref (g.2.1 0))] [] := by
          intro fu
          induction fu with
          | zero => intro i hi hz; exact absurd hz (Nat.not_lt_zero _)
          | succ fu ih19 =>
            intro i hi hf
            refine g_iload_n (pc' := 20) (j := 0) hC dX9_forkedPairs_19 rfl rfl rfl ?_
            refine g_aload_n (pc' := 21) (j := 3) hC dX9_forkedPairs_20 rfl rfl rfl ?_
            refine gf_X9_1 (pc' := 24) hC wF_X9_19 dX9_forkedPairs_21 rfl ?_
            refine gf_X6_4 (pc' := 27) hC wF_X9_76 dX9_forkedPairs_24 rfl ?_
            refine gg_topi (b := nI (rd σ 8 4)) (hI.nc.1) ?_
            refine n_icmp_ge (pc' := 30) (tgt := 63) hC dX9_forkedPairs_27 (by decide) rfl (by omega) (by omega) (fun c27 => ?_) (fun c27 => ?_)
            · skip
              have hlv : nI (cfp σ (rd σ 8 4) a + cfr1 σ a i) = nI (cfp σ (rd σ 8 4) (a + 1)) := by show _ = nI (_ + cfr1 σ a (rd σ 8 4 - (a + 1))); rw [show rd σ 8 4 - (a + 1) = i by omega]
              refine g_iinc (pc' := 66) (j := 1) (u := nI (a + 1)) (lv' := [(2, .int (nI (a + 1))), (3, .int (nI (a + 1 + i))), (1, .int (nI (cfp σ (rd σ 8 4) a + cfr1 σ a i))), (0, .ref (g.2.1 0))]) hC dX9_forkedPairs_63 rfl rfl (nI_add a 1) (by decide) rfl ?_
              refine g_goto (tgt := 4) hC dX9_forkedPairs_66 (by decide) ?_
              refine gg_lv (lv' := [(2, .int (nI (a + 1))), (1, .int (nI (cfp σ (rd σ 8 4) a + cfr1 σ a i))), (0, .ref (g.2.1 0))]) ?_ [0, 2, 3] rfl
              refine gg_lve (lv' := [(2, .int (nI ((a + 1)))), (1, .int (nI (cfp σ (rd σ 8 4) ((a + 1))))), (0, .ref (g.2.1 0))]) (by rw [hlv]) ?_
              exact ih4 ((a + 1)) (by omega) (by omega)
            · skip
              refine g_aload_n (pc' := 31) (j := 3) hC dX9_forkedPairs_30 rfl rfl rfl ?_
              refine gf_X9_1 (pc' := 34) hC wF_X9_19 dX9_forkedPairs_31 rfl ?_
              refine gf_X6_1 (pc' := 37) hC wF_X9_164 dX9_forkedPairs_34 rfl ?_
              refine g_iload_n (pc' := 38) (j := 1) hC dX9_forkedPairs_37 rfl rfl rfl ?_
              refine a_ldr (pc' := 39) (k := 10) (t := 6) (i := a) hC (by decide) (ct_10 g σ) rfl (by omega) (by decide) dX9_forkedPairs_38 rfl ?_
              refine g_aload_n (pc' := 40) (j := 3) hC dX9_forkedPairs_39 rfl rfl rfl ?_
              refine gf_X9_1 (pc' := 43) hC wF_X9_19 dX9_forkedPairs_40 rfl ?_
              refine gf_X6_1 (pc' := 46) hC wF_X9_164 dX9_forkedPairs_43 rfl ?_
              refine g_iload_n (pc' := 47) (j := 0) hC dX9_forkedPairs_46 rfl rfl rfl ?_
              refine a_ldr (pc' := 48) (k := 10) (t := 6) (i := a + 1 + i) hC (by decide) (ct_10 g σ) rfl (by omega) (by decide) dX9_forkedPairs_47 rfl ?_
              refine f_Vi (pc' := 51) (k := 90 + 3 * a) (st := []) hC (c_isForkedFrom x.2.1 g z0 σ a ((a + 1 + i)) (by omega) (hI.po (by omega)) (by omega) (hI.po (by omega))) k_X2_isForkedFrom wM_X9_256 (by decide) (by have := (by omega : a < 6); show _ < 228; omega) (ct_cl g σ (by omega : a < 6)) rfl rfl rfl rfl (Nat.le_of_ble_eq_true rfl) dX9_forkedPairs_48 rfl (Nat.zero_le _) (Nat.zero_le _) ?_
              refine b_if_eq (pc' := 54) (tgt := 57) hC dX9_forkedPairs_51 (by decide) rfl (fun c51 => ?_) (fun c51 => ?_)
              · skip
                have hlw : nI (cfp σ (rd σ 8 4) a + cfr1 σ a i) = nI (cfp σ (rd σ 8 4) a + cfr1 σ a (i + 1)) := by show _ = nI (_ + (_ + cI _ 1 0)); rw [cI_f c51]; rfl
                refine g_iinc (pc' := 60) (j := 0) (u := nI (a + 1 + i + 1)) (lv' := [(3, .int (nI (a + 1 + i + 1))), (2, .int (nI a)), (1, .int (nI (cfp σ (rd σ 8 4) a + cfr1 σ a i))), (0, .ref (g.2.1 0))]) hC dX9_forkedPairs_57 rfl rfl (nI_add (a + 1 + i) 1) (by decide) rfl ?_
                refine g_goto (tgt := 19) hC dX9_forkedPairs_60 (by decide) ?_
                refine gg_lv (lv' := [(3, .int (nI (a + 1 + i + 1))), (2, .int (nI a)), (1, .int (nI (cfp σ (rd σ 8 4) a + cfr1 σ a i))), (0, .ref (g.2.1 0))]) ?_ [0, 1, 2, 3] rfl
                refine gg_lve (lv' := [(3, .int (nI (a + 1 + ((i + 1))))), (2, .int (nI a)), (1, .int (nI (cfp σ (rd σ 8 4) a + cfr1 σ a ((i + 1))))), (0, .ref (g.2.1 0))]) (by rw [hlw]; rfl) ?_
                exact ih19 ((i + 1)) (by omega) (by omega)
              · skip
                have hlw : nI (cfp σ (rd σ 8 4) a + cfr1 σ a i + 1) = nI (cfp σ (rd σ 8 4) a + cfr1 σ a (i + 1)) := by show _ = nI (_ + (_ + cI _ 1 0)); rw [cI_t c51]; rfl
                refine g_iinc (pc' := 57) (j := 2) (u := nI (cfp σ (rd σ 8 4) a + cfr1 σ a i + 1)) (lv' := [(1, .int (nI (cfp σ (rd σ 8 4) a + cfr1 σ a i + 1))), (3, .int (nI (a + 1 + i))), (2, .int (nI a)), (0, .ref (g.2.1 0))]) hC dX9_forkedPairs_54 rfl rfl (nI_add (cfp σ (rd σ 8 4) a + cfr1 σ a i) 1) (by decide) rfl ?_
                refine g_iinc (pc' := 60) (j := 1) (u := nI (a + 1 + i + 1)) (lv' := [(3, .int (nI (a + 1 + i + 1))), (1, .int (nI (cfp σ (rd σ 8 4) a + cfr1 σ a i + 1))), (2, .int (nI a)), (0, .ref (g.2.1 0))]) hC dX9_forkedPairs_57 rfl rfl (nI_add (a + 1 + i) 1) (by decide) rfl ?_
                refine g_goto (tgt := 19) hC dX9_forkedPairs_60 (by decide) ?_
                refine gg_lv (lv' := [(3, .int (nI (a + 1 + i + 1))), (2, .int (nI a)), (1, .int (nI (cfp σ (rd σ 8 4) a + cfr1 σ a i + 1))), (0, .ref (g.2.1 0))]) ?_ [0, 2, 1, 3] rfl
                refine gg_lve (lv' := [(3, .int (nI (a + 1 + ((i + 1))))), (2, .int (nI a)), (1, .int (nI (cfp σ (rd σ 8 4) a + cfr1 σ a ((i + 1))))), (0, .ref (g.2.1 0))]) (by rw [hlw]; rfl) ?_
                exact ih19 ((i + 1)) (by omega) (by omega)
        refine gg_lv (lv' := [(3, .int (nI (a + 1))), (2, .int (nI a)), (1, .int (nI (cfp σ (rd σ 8 4) a))), (0, .ref (g.2.1 0))]) ?_ [0, 1, 2, 3] rfl
        exact L19 (rd σ 8 4 - 0 + 1) 0 (by omega) (by omega)
  refine gg_lv (lv' := [(2, .int (nI 0)), (1, .int (nI 0)), (0, .ref (g.2.1 0))]) ?_ [0, 1, 2] rfl
  exact L4 (rd σ 8 4 - 0 + 1) 0 (by omega) (by omega)
set_option maxHeartbeats 4000000 in
set_option maxRecDepth 20000 in
theorem c_putBytes (l : Launch) (g : Lay) (z0 : Nat) (σ : St) (v : Int32) (hF : nb σ 0 2 896)  : CTv l yX9_putBytes cX9_putBytes 3 0 g z0 [.ref (g.2.1 0), .int v] σ (FV (cpu σ v)) := by
  refine CTv.of (by decide) (Nat.le_of_ble_eq_true rfl) ?_
  intro x hxl hxa hC
  have hC : Cx x RX9 cX9_putBytes 3 none 0 g z0 := hC
  have hF2 := hF.2
  show GG x g z0 3 0 0 (Qv x g z0 (FV (cpu σ v))) σ 0 [(0, .ref (g.2.1 0)), (1, .int v)] []
  refine g_bipush (pc' := 2) (v := nI 24) hC dX9_putBytes_0 rfl rfl ?_
  refine g_istore_n (pc' := 3) (lv' := [(2, .int (nI 24)), (0, .ref (g.2.1 0)), (1, .int v)]) hC dX9_putBytes_2 rfl rfl (by decide) rfl ?_
  refine g_iload_n (pc' := 4) (j := 0) hC dX9_putBytes_3 rfl rfl rfl ?_
  refine n_if_lt (pc' := 7) (tgt := 52) hC dX9_putBytes_4 (by decide) rfl (by omega) (fun c4 => ?_) (fun c4 => ?_)
  · skip
    first | exact absurd c4 (by decide) | exact c4.elim
  · skip
    refine g_aload_n (pc' := 8) (j := 1) hC dX9_putBytes_7 rfl rfl rfl ?_
    refine gf_X9_2 (pc' := 11) hC wF_X9_23 dX9_putBytes_8 rfl ?_
    refine gg_topi (b := nI (rd σ 0 2)) (hF.1) ?_
    refine g_sipush (pc' := 14) (v := nI 900) hC dX9_putBytes_11 rfl rfl ?_
    refine n_icmp_ge (pc' := 17) (tgt := 52) hC dX9_putBytes_14 (by decide) rfl (by omega) (by omega) (fun c14 => ?_) (fun c14 => ?_)
    · skip
      omega
    · skip
      refine g_aload_n (pc' := 18) (j := 1) hC dX9_putBytes_17 rfl rfl rfl ?_
      refine gf_X9_0 (pc' := 21) hC wF_X9_10 dX9_putBytes_18 rfl ?_
      refine gf_X5_0 (pc' := 24) hC wF_X9_38 dX9_putBytes_21 rfl ?_
      refine gf_X8_0 (pc' := 27) hC wF_X9_42 dX9_putBytes_24 rfl ?_
      refine g_aload_n (pc' := 28) (j := 1) hC dX9_putBytes_27 rfl rfl rfl ?_
      refine gf_X9_2 (pc' := 31) hC wF_X9_23 dX9_putBytes_28 rfl ?_
      refine gg_topi (b := nI (rd σ 0 2)) (hF.1) ?_
      refine g_iload_n (pc' := 32) (j := 2) hC dX9_putBytes_31 rfl rfl rfl ?_
      refine g_iload_n (pc' := 33) (j := 0) hC dX9_putBytes_32 rfl rfl rfl ?_
      refine g_iushr (pc' := 34) hC dX9_putBytes_33 rfl ?_
      refine g_i2b (pc' := 35) hC dX9_putBytes_34 rfl ?_
      refine a_stb (pc' := 36) (k := 3) (i := rd σ 0 2) hC (by decide) (fun σ9 => (ct_3 g σ9)) (by omega) (by decide) (pk_vb _) dX9_putBytes_35 rfl ?_
      refine g_aload_n (pc' := 37) (j := 1) hC dX9_putBytes_36 rfl rfl rfl ?_
      refine g_dup (pc' := 38) hC dX9_putBytes_37 rfl rfl ?_
      refine gf_X9_2 (pc' := 41) hC wF_X9_23 dX9_putBytes_38 rfl ?_
      refine gg_topi (b := nI (rd σ 0 2)) ((uv_cell _ _ _ _ (by decide)).trans (hF.1)) ?_
      refine g_iconst (pc' := 42) (v := nI 1) hC dX9_putBytes_41 rfl rfl ?_
      refine n_iadd (pc' := 43) hC dX9_putBytes_42 rfl ?_
      refine pf_X9_2 (pc' := 46) hC wF_X9_23 dX9_putBytes_43 rfl ?_
      refine g_iinc (pc' := 49) (j := 0) (u := nI 16) (lv' := [(2, .int (nI 16)), (0, .ref (g.2.1 0)), (1, .int v)]) hC dX9_putBytes_46 rfl rfl (rfl) (by decide) rfl ?_
      refine g_goto (tgt := 3) hC dX9_putBytes_49 (by decide) ?_
      refine g_iload_n (pc' := 4) (j := 0) hC dX9_putBytes_3 rfl rfl rfl ?_
      refine n_if_lt (pc' := 7) (tgt := 52) hC dX9_putBytes_4 (by decide) rfl (by omega) (fun c4 => ?_) (fun c4 => ?_)
      · skip
        first | exact absurd c4 (by decide) | exact c4.elim
      · skip
        refine g_aload_n (pc' := 8) (j := 1) hC dX9_putBytes_7 rfl rfl rfl ?_
        refine gf_X9_2 (pc' := 11) hC wF_X9_23 dX9_putBytes_8 rfl ?_
        refine gg_topi (b := nI ((rd σ 0 2) + 1)) (uv_same _ _ _ _) ?_
        refine g_sipush (pc' := 14) (v := nI 900) hC dX9_putBytes_11 rfl rfl ?_
        refine n_icmp_ge (pc' := 17) (tgt := 52) hC dX9_putBytes_14 (by decide) rfl (by omega) (by omega) (fun c14 => ?_) (fun c14 => ?_)
        · skip
          omega
        · skip
          refine g_aload_n (pc' := 18) (j := 1) hC dX9_putBytes_17 rfl rfl rfl ?_
          refine gf_X9_0 (pc' := 21) hC wF_X9_10 dX9_putBytes_18 rfl ?_
          refine gf_X5_0 (pc' := 24) hC wF_X9_38 dX9_putBytes_21 rfl ?_
          refine gf_X8_0 (pc' := 27) hC wF_X9_42 dX9_putBytes_24 rfl ?_
          refine g_aload_n (pc' := 28) (j := 1) hC dX9_putBytes_27 rfl rfl rfl ?_
          refine gf_X9_2 (pc' := 31) hC wF_X9_23 dX9_putBytes_28 rfl ?_
          refine gg_topi (b := nI ((rd σ 0 2) + 1)) (uv_same _ _ _ _) ?_
          refine g_iload_n (pc' := 32) (j := 2) hC dX9_putBytes_31 rfl rfl rfl ?_
          refine g_iload_n (pc' := 33) (j := 0) hC dX9_putBytes_32 rfl rfl rfl ?_
          refine g_iushr (pc' := 34) hC dX9_putBytes_33 rfl ?_
          refine g_i2b (pc' := 35) hC dX9_putBytes_34 rfl ?_
          refine a_stb (pc' := 36) (k := 3) (i := (rd σ 0 2) + 1) hC (by decide) (fun σ9 => (ct_3 g σ9)) (by omega) (by decide) (pk_vb _) dX9_putBytes_35 rfl ?_
          refine g_aload_n (pc' := 37) (j := 1) hC dX9_putBytes_36 rfl rfl rfl ?_
          refine g_dup (pc' := 38) hC dX9_putBytes_37 rfl rfl ?_
          refine gf_X9_2 (pc' := 41) hC wF_X9_23 dX9_putBytes_38 rfl ?_
          refine gg_topi (b := nI ((rd σ 0 2) + 1)) ((uv_cell _ _ _ _ (by decide)).trans (uv_same _ _ _ _)) ?_
          refine g_iconst (pc' := 42) (v := nI 1) hC dX9_putBytes_41 rfl rfl ?_
          refine n_iadd (pc' := 43) hC dX9_putBytes_42 rfl ?_
          refine pf_X9_2 (pc' := 46) hC wF_X9_23 dX9_putBytes_43 rfl ?_
          refine g_iinc (pc' := 49) (j := 0) (u := nI 8) (lv' := [(2, .int (nI 8)), (0, .ref (g.2.1 0)), (1, .int v)]) hC dX9_putBytes_46 rfl rfl (rfl) (by decide) rfl ?_
          refine g_goto (tgt := 3) hC dX9_putBytes_49 (by decide) ?_
          refine g_iload_n (pc' := 4) (j := 0) hC dX9_putBytes_3 rfl rfl rfl ?_
          refine n_if_lt (pc' := 7) (tgt := 52) hC dX9_putBytes_4 (by decide) rfl (by omega) (fun c4 => ?_) (fun c4 => ?_)
          · skip
            first | exact absurd c4 (by decide) | exact c4.elim
          · skip
            refine g_aload_n (pc' := 8) (j := 1) hC dX9_putBytes_7 rfl rfl rfl ?_
            refine gf_X9_2 (pc' := 11) hC wF_X9_23 dX9_putBytes_8 rfl ?_
            refine gg_topi (b := nI (((rd σ 0 2) + 1) + 1)) (uv_same _ _ _ _) ?_
            refine g_sipush (pc' := 14) (v := nI 900) hC dX9_putBytes_11 rfl rfl ?_
            refine n_icmp_ge (pc' := 17) (tgt := 52) hC dX9_putBytes_14 (by decide) rfl (by omega) (by omega) (fun c14 => ?_) (fun c14 => ?_)
            · skip
              omega
            · skip
              refine g_aload_n (pc' := 18) (j := 1) hC dX9_putBytes_17 rfl rfl rfl ?_
              refine gf_X9_0 (pc' := 21) hC wF_X9_10 dX9_putBytes_18 rfl ?_
              refine gf_X5_0 (pc' := 24) hC wF_X9_38 dX9_putBytes_21 rfl ?_
              refine gf_X8_0 (pc' := 27) hC wF_X9_42 dX9_putBytes_24 rfl ?_
              refine g_aload_n (pc' := 28) (j := 1) hC dX9_putBytes_27 rfl rfl rfl ?_
              refine gf_X9_2 (pc' := 31) hC wF_X9_23 dX9_putBytes_28 rfl ?_
              refine gg_topi (b := nI (((rd σ 0 2) + 1) + 1)) (uv_same _ _ _ _) ?_
              refine g_iload_n (pc' := 32) (j := 2) hC dX9_putBytes_31 rfl rfl rfl ?_
              refine g_iload_n (pc' := 33) (j := 0) hC dX9_putBytes_32 rfl rfl rfl ?_
              refine g_iushr (pc' := 34) hC dX9_putBytes_33 rfl ?_
              refine g_i2b (pc' := 35) hC dX9_putBytes_34 rfl ?_
              refine a_stb (pc' := 36) (k := 3) (i := ((rd σ 0 2) + 1) + 1) hC (by decide) (fun σ9 => (ct_3 g σ9)) (by omega) (by decide) (pk_vb _) dX9_putBytes_35 rfl ?_
              refine g_aload_n (pc' := 37) (j := 1) hC dX9_putBytes_36 rfl rfl rfl ?_
              refine g_dup (pc' := 38) hC dX9_putBytes_37 rfl rfl ?_
              refine gf_X9_2 (pc' := 41) hC wF_X9_23 dX9_putBytes_38 rfl ?_
              refine gg_topi (b := nI (((rd σ 0 2) + 1) + 1)) ((uv_cell _ _ _ _ (by decide)).trans (uv_same _ _ _ _)) ?_
              refine g_iconst (pc' := 42) (v := nI 1) hC dX9_putBytes_41 rfl rfl ?_
              refine n_iadd (pc' := 43) hC dX9_putBytes_42 rfl ?_
              refine pf_X9_2 (pc' := 46) hC wF_X9_23 dX9_putBytes_43 rfl ?_
              refine g_iinc (pc' := 49) (j := 0) (u := nI 0) (lv' := [(2, .int (nI 0)), (0, .ref (g.2.1 0)), (1, .int v)]) hC dX9_putBytes_46 rfl rfl (rfl) (by decide) rfl ?_
              refine g_goto (tgt := 3) hC dX9_putBytes_49 (by decide) ?_
              refine g_iload_n (pc' := 4) (j := 0) hC dX9_putBytes_3 rfl rfl rfl ?_
              refine n_if_lt (pc' := 7) (tgt := 52) hC dX9_putBytes_4 (by decide) rfl (by omega) (fun c4 => ?_) (fun c4 => ?_)
              · skip
                first | exact absurd c4 (by decide) | exact c4.elim
              · skip
                refine g_aload_n (pc' := 8) (j := 1) hC dX9_putBytes_7 rfl rfl rfl ?_
                refine gf_X9_2 (pc' := 11) hC wF_X9_23 dX9_putBytes_8 rfl ?_
                refine gg_topi (b := nI ((((rd σ 0 2) + 1) + 1) + 1)) (uv_same _ _ _ _) ?_
                refine g_sipush (pc' := 14) (v := nI 900) hC dX9_putBytes_11 rfl rfl ?_
                refine n_icmp_ge (pc' := 17) (tgt := 52) hC dX9_putBytes_14 (by decide) rfl (by omega) (by omega) (fun c14 => ?_) (fun c14 => ?_)
                · skip
                  omega
                · skip
                  refine g_aload_n (pc' := 18) (j := 1) hC dX9_putBytes_17 rfl rfl rfl ?_
                  refine gf_X9_0 (pc' := 21) hC wF_X9_10 dX9_putBytes_18 rfl ?_
                  refine gf_X5_0 (pc' := 24) hC wF_X9_38 dX9_putBytes_21 rfl ?_
                  refine gf_X8_0 (pc' := 27) hC wF_X9_42 dX9_putBytes_24 rfl ?_
                  refine g_aload_n (pc' := 28) (j := 1) hC dX9_putBytes_27 rfl rfl rfl ?_
                  refine gf_X9_2 (pc' := 31) hC wF_X9_23 dX9_putBytes_28 rfl ?_
                  refine gg_topi (b := nI ((((rd σ 0 2) + 1) + 1) + 1)) (uv_same _ _ _ _) ?_
                  refine g_iload_n (pc' := 32) (j := 2) hC dX9_putBytes_31 rfl rfl rfl ?_
                  refine g_iload_n (pc' := 33) (j := 0) hC dX9_putBytes_32 rfl rfl rfl ?_
                  refine g_iushr (pc' := 34) hC dX9_putBytes_33 rfl ?_
                  refine g_i2b (pc' := 35) hC dX9_putBytes_34 rfl ?_
                  refine a_stb (pc' := 36) (k := 3) (i := (((rd σ 0 2) + 1) + 1) + 1) hC (by decide) (fun σ9 => (ct_3 g σ9)) (by omega) (by decide) (pk_vb _) dX9_putBytes_35 rfl ?_
                  refine g_aload_n (pc' := 37) (j := 1) hC dX9_putBytes_36 rfl rfl rfl ?_
                  refine g_dup (pc' := 38) hC dX9_putBytes_37 rfl rfl ?_
                  refine gf_X9_2 (pc' := 41) hC wF_X9_23 dX9_putBytes_38 rfl ?_
                  refine gg_topi (b := nI ((((rd σ 0 2) + 1) + 1) + 1)) ((uv_cell _ _ _ _ (by decide)).trans (uv_same _ _ _ _)) ?_
                  refine g_iconst (pc' := 42) (v := nI 1) hC dX9_putBytes_41 rfl rfl ?_
                  refine n_iadd (pc' := 43) hC dX9_putBytes_42 rfl ?_
                  refine pf_X9_2 (pc' := 46) hC wF_X9_23 dX9_putBytes_43 rfl ?_
                  refine g_iinc (pc' := 49) (j := 0) (u := (-8)) (lv' := [(2, .int ((-8))), (0, .ref (g.2.1 0)), (1, .int v)]) hC dX9_putBytes_46 rfl rfl (rfl) (by decide) rfl ?_
                  refine g_goto (tgt := 3) hC dX9_putBytes_49 (by decide) ?_
                  refine g_iload_n (pc' := 4) (j := 0) hC dX9_putBytes_3 rfl rfl rfl ?_
                  refine g_if_lt (pc' := 7) (tgt := 52) hC dX9_putBytes_4 (by decide) rfl (fun c4 => ?_) (fun c4 => ?_)
                  · skip
                    refine g_retv hC dX9_putBytes_52 ?_
                    exact rfl
                  · skip
                    first | exact absurd c4 (by decide) | exact c4.elim
set_option maxHeartbeats 4000000 in
set_option maxRecDepth 20000 in
theorem c_takeBuffer (l : Launch) (g : Lay) (z0 : Nat) (σ : St) (n : Int32) (hNT : l.stackTraces = false) (hT : GT g z0) (hF : nb σ 0 2 900)  : CXv l yX9_takeBuffer cX9_takeBuffer 2 6 1 g z0 [.ref (g.2.1 0), .int n] σ (FXv (wTk σ n) (ctS σ n)) (FXx (wTk σ n) (ctS σ n)) := by
  refine CXv.of hNT (by decide) (Nat.le_of_ble_eq_true rfl) ?_
  intro x hxl hxa hC hY
  have hC : Cx x RX9 cX9_takeBuffer 2 none 6 g z0 := hC
  show GG x g z0 2 0 0 (Xv x g z0 (FXv (wTk σ n) (ctS σ n)) (FXx (wTk σ n) (ctS σ n)) 1) σ 0 [(0, .ref (g.2.1 0)), (1, .int n)] []
  refine g_iload_n (pc' := 1) (j := 1) hC dX9_takeBuffer_0 rfl rfl rfl ?_
  refine g_if_lt (pc' := 4) (tgt := 12) hC dX9_takeBuffer_1 (by decide) rfl (fun c1 => ?_) (fun c1 => ?_)
  · skip
    exact gx_thS hC hY hT xe_exA (by decide : (98, "the length is out of range") ∈ exS) (by decide) (by decide) (by decide) (Nat.le_of_ble_eq_true rfl) dX9_takeBuffer_12 dX9_takeBuffer_15 dX9_takeBuffer_16 dX9_takeBuffer_18 dX9_takeBuffer_21 (⟨cI_f (fun z => z.1 c1), (cI_f (fun z => z.1 c1)).symm⟩)
  · skip
    refine g_iload_n (pc' := 5) (j := 1) hC dX9_takeBuffer_4 rfl rfl rfl ?_
    refine g_aload_n (pc' := 6) (j := 0) hC dX9_takeBuffer_5 rfl rfl rfl ?_
    refine gf_X9_2 (pc' := 9) hC wF_X9_23 dX9_takeBuffer_6 rfl ?_
    refine gg_topi (b := nI (rd σ 0 2)) (hF.1) ?_
    refine g_icmp_le (pc' := 12) (tgt := 22) hC dX9_takeBuffer_9 (by decide) rfl (fun c9 => ?_) (fun c9 => ?_)
    · skip
      refine g_aload_n (pc' := 23) (j := 0) hC dX9_takeBuffer_22 rfl rfl rfl ?_
      refine g_iconst (pc' := 24) (v := nI 0) hC dX9_takeBuffer_23 rfl rfl ?_
      refine pf_X9_2 (pc' := 27) hC wF_X9_23 dX9_takeBuffer_24 rfl ?_
      refine gx_retv hC (by decide) (by decide) dX9_takeBuffer_27 ?_
      exact ⟨cI_t ⟨c1, c9⟩, (cI_t ⟨c1, c9⟩).symm⟩
    · skip
      exact gx_thS hC hY hT xe_exA (by decide : (98, "the length is out of range") ∈ exS) (by decide) (by decide) (by decide) (Nat.le_of_ble_eq_true rfl) dX9_takeBuffer_12 dX9_takeBuffer_15 dX9_takeBuffer_16 dX9_takeBuffer_18 dX9_takeBuffer_21 (⟨cI_f (fun z => c9 z.2), (cI_f (fun z => c9 z.2)).symm⟩)
set_option maxHeartbeats 4000000 in
set_option maxRecDepth 20000 in
theorem c_feed (l : Launch) (g : Lay) (z0 : Nat) (σ : St) (a : Int32) (b : Int32) (c : Int32) (d : Int32) (e : Int32) (hNT : l.stackTraces = false) (hT : GT g z0) (hF : nb σ 0 2 900)  : CXi l yX9_feed cX9_feed 6 (some .int) 6 1 g z0 [.ref (g.2.1 0), .int a, .int b, .int c, .int d, .int e] σ (FXi (wFd σ) ((cfd σ a b c d e).1 0 2) (cfS σ a b c d e)) (FXx (wFd σ) (cfS σ a b c d e)) := by
  refine CXi.of hNT (by decide) (Nat.le_of_ble_eq_true rfl) ?_
  intro x hxl hxa hC hY
  have hC : Cx x RX9 cX9_feed 6 (some .int) 6 g z0 := hC
  have hF2 := hF.2
  show GG x g z0 6 0 0 (Xi x g z0 (FXi (wFd σ) ((cfd σ a b c d e).1 0 2) (cfS σ a b c d e)) (FXx (wFd σ) (cfS σ a b c d e)) 1) σ 0 [(0, .ref (g.2.1 0)), (1, .int a), (2, .int b), (3, .int c), (4, .int d), (5, .int e)] []
  refine g_aload_n (pc' := 1) (j := 0) hC dX9_feed_0 rfl rfl rfl ?_
  refine gf_X9_2 (pc' := 4) hC wF_X9_23 dX9_feed_1 rfl ?_
  refine gg_topi (b := nI (rd σ 0 2)) (hF.1) ?_
  refine g_sipush (pc' := 7) (v := nI 880) hC dX9_feed_4 rfl rfl ?_
  refine n_icmp_le (pc' := 10) (tgt := 20) hC dX9_feed_7 (by decide) rfl (by omega) (by omega) (fun c7 => ?_) (fun c7 => ?_)
  · skip
    have h0 : nb σ 0 2 896 := nb_cg rfl hF (by omega)
    have h1 := cpu_fed σ a (m := 896) (by omega) (by decide)
    have h2 := cpu_fed (cpu σ a) b (m := 896) (by omega) (by decide)
    have h3 := cpu_fed (cpu (cpu σ a) b) c (m := 896) (by omega) (by decide)
    have h4 := cpu_fed (cpu (cpu (cpu σ a) b) c) d (m := 896) (by omega) (by decide)
    refine g_aload_n (pc' := 21) (j := 0) hC dX9_feed_20 rfl rfl rfl ?_
    refine g_iload_n (pc' := 22) (j := 1) hC dX9_feed_21 rfl rfl rfl ?_
    refine f_Vv (pc' := 25) (k := 0) (st := []) hC (c_putBytes x.2.1 g z0 σ a (h0)) k_X9_putBytes wM_X9_34 (by decide) (by decide) (ct_0 g σ) rfl rfl rfl rfl (Nat.le_of_ble_eq_true rfl) dX9_feed_22 rfl (Nat.zero_le _) (Nat.zero_le _) ?_
    refine g_aload_n (pc' := 26) (j := 0) hC dX9_feed_25 rfl rfl rfl ?_
    refine g_iload_n (pc' := 27) (j := 2) hC dX9_feed_26 rfl rfl rfl ?_
    refine f_Vv (pc' := 30) (k := 0) (st := []) hC (c_putBytes x.2.1 g z0 (cpu σ a) b (h1.1)) k_X9_putBytes wM_X9_34 (by decide) (by decide) (ct_0 g (cpu σ a)) rfl rfl rfl rfl (Nat.le_of_ble_eq_true rfl) dX9_feed_27 rfl (Nat.zero_le _) (Nat.zero_le _) ?_
    refine g_aload_n (pc' := 31) (j := 0) hC dX9_feed_30 rfl rfl rfl ?_
    refine g_iload_n (pc' := 32) (j := 3) hC dX9_feed_31 rfl rfl rfl ?_
    refine f_Vv (pc' := 35) (k := 0) (st := []) hC (c_putBytes x.2.1 g z0 (cpu (cpu σ a) b) c (h2.1)) k_X9_putBytes wM_X9_34 (by decide) (by decide) (ct_0 g (cpu (cpu σ a) b)) rfl rfl rfl rfl (Nat.le_of_ble_eq_true rfl) dX9_feed_32 rfl (Nat.zero_le _) (Nat.zero_le _) ?_
    refine g_aload_n (pc' := 36) (j := 0) hC dX9_feed_35 rfl rfl rfl ?_
    refine g_iload (pc' := 38) (j := 4) hC dX9_feed_36 rfl rfl ?_
    refine f_Vv (pc' := 41) (k := 0) (st := []) hC (c_putBytes x.2.1 g z0 (cpu (cpu (cpu σ a) b) c) d (h3.1)) k_X9_putBytes wM_X9_34 (by decide) (by decide) (ct_0 g (cpu (cpu (cpu σ a) b) c)) rfl rfl rfl rfl (Nat.le_of_ble_eq_true rfl) dX9_feed_38 rfl (Nat.zero_le _) (Nat.zero_le _) ?_
    refine g_aload_n (pc' := 42) (j := 0) hC dX9_feed_41 rfl rfl rfl ?_
    refine g_iload (pc' := 44) (j := 5) hC dX9_feed_42 rfl rfl ?_
    refine f_Vv (pc' := 47) (k := 0) (st := []) hC (c_putBytes x.2.1 g z0 (cpu (cpu (cpu (cpu σ a) b) c) d) e (h4.1)) k_X9_putBytes wM_X9_34 (by decide) (by decide) (ct_0 g (cpu (cpu (cpu (cpu σ a) b) c) d)) rfl rfl rfl rfl (Nat.le_of_ble_eq_true rfl) dX9_feed_44 rfl (Nat.zero_le _) (Nat.zero_le _) ?_
    refine g_aload_n (pc' := 48) (j := 0) hC dX9_feed_47 rfl rfl rfl ?_
    refine gf_X9_2 (pc' := 51) hC wF_X9_23 dX9_feed_48 rfl ?_
    refine gx_ret hC (by decide) (by decide) dX9_feed_51 rfl ?_
    exact ⟨cI_t c7, rfl, (cI_t c7).symm⟩
  · skip
    exact gx_thS hC hY hT xe_exI (by decide : (29, "the buffer is full") ∈ exS) (by decide) (by decide) (by decide) (Nat.le_of_ble_eq_true rfl) dX9_feed_10 dX9_feed_13 dX9_feed_14 dX9_feed_16 dX9_feed_19 (⟨cI_f (Nat.not_le.mpr c7), (cI_f (Nat.not_le.mpr c7)).symm⟩)
