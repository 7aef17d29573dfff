set_option maxHeartbeats 4000000 in
set_option maxRecDepth 20000 in
theorem c_doExchange (l : Launch) (g : Lay) (z0 : Nat) (σ : St) (ua : Int32) (ub : Int32) (hG : GX g) (hI : CI σ)  : CTi l yX6_doExchange cX6_doExchange 6 (some .int) 3 g z0 [.ref (g.2.1 8), .int ua, .int ub] σ (FI ((cxc σ ua ub).1) ((cxc σ ua ub).2)) := by
  refine CTi.of (by decide) (Nat.le_of_ble_eq_true rfl) ?_
  intro x hxl hxa hC
  have hC : Cx x RX6 cX6_doExchange 6 (some .int) 3 g z0 := hC
  show GG x g z0 6 0 0 (Qi x g z0 (FI ((cxc σ ua ub).1) ((cxc σ ua ub).2))) σ 0 [(0, .ref (g.2.1 8)), (1, .int ua), (2, .int ub)] []
  refine g_aload_n (pc' := 1) (j := 0) hC dX6_doExchange_0 rfl rfl rfl ?_
  refine g_iload_n (pc' := 2) (j := 1) hC dX6_doExchange_1 rfl rfl rfl ?_
  refine f_Vi (pc' := 5) (k := 8) (st := []) hC (c_hasClient x.2.1 g z0 σ ua (hI.nc)) k_X6_hasClient wM_X6_62 (by decide) (by decide) (ct_8 g σ) rfl rfl rfl rfl (Nat.le_of_ble_eq_true rfl) dX6_doExchange_2 rfl (Nat.zero_le _) (Nat.zero_le _) ?_
  refine b_if_eq (pc' := 8) (tgt := 21) hC dX6_doExchange_5 (by decide) rfl (fun c5 => ?_) (fun c5 => ?_)
  · skip
    refine g_iconst (pc' := 22) (v := (-1)) hC dX6_doExchange_21 rfl rfl ?_
    refine g_ret hC dX6_doExchange_22 rfl ?_
    exact ⟨by unfold cxc; rw [cI_f (fun z => c5 z.1)], by unfold cxc; rw [cI_f (fun z => c5 z.1)]⟩
  · skip
    refine g_aload_n (pc' := 9) (j := 0) hC dX6_doExchange_8 rfl rfl rfl ?_
    refine g_iload_n (pc' := 10) (j := 2) hC dX6_doExchange_9 rfl rfl rfl ?_
    refine f_Vi (pc' := 13) (k := 8) (st := []) hC (c_hasClient x.2.1 g z0 σ ub (hI.nc)) k_X6_hasClient wM_X6_62 (by decide) (by decide) (ct_8 g σ) rfl rfl rfl rfl (Nat.le_of_ble_eq_true rfl) dX6_doExchange_10 rfl (Nat.zero_le _) (Nat.zero_le _) ?_
    refine b_if_eq (pc' := 16) (tgt := 21) hC dX6_doExchange_13 (by decide) rfl (fun c13 => ?_) (fun c13 => ?_)
    · skip
      refine g_iconst (pc' := 22) (v := (-1)) hC dX6_doExchange_21 rfl rfl ?_
      refine g_ret hC dX6_doExchange_22 rfl ?_
      exact ⟨by unfold cxc; rw [cI_f (fun z => c13 z.2.1)], by unfold cxc; rw [cI_f (fun z => c13 z.2.1)]⟩
    · skip
      refine g_iload_n (pc' := 17) (j := 1) hC dX6_doExchange_16 rfl rfl rfl ?_
      refine g_iload_n (pc' := 18) (j := 2) hC dX6_doExchange_17 rfl rfl rfl ?_
      refine g_icmp_ne (pc' := 21) (tgt := 23) hC dX6_doExchange_18 (by decide) rfl (fun c18 => ?_) (fun c18 => ?_)
      · skip
        obtain ⟨hcN, hcL⟩ := vl2_n (by have := hI.nc.2; omega) c5
        have hcM := hI.nc.2
        obtain ⟨hdN, hdL⟩ := vl2_n (by have := hI.nc.2; omega) c13
        have hdM := hI.nc.2
        have hpa := hI.po (c := cn ua) (by omega)
        have hpb := hI.po (c := cn ub) (by omega)
        have hpa2 := hpa.2
        have hpb2 := hpb.2
        have hfd := (fdf_ok (σ.1 (90 + 3 * (cn ua) + 1)) (σ.1 (90 + 3 * (cn ub) + 1)) (min (rd σ (90 + 3 * (cn ua)) 2) (rd σ (90 + 3 * (cn ub)) 2))).1
        refine gg_lve (lv' := [(0, .ref (g.2.1 8)), (1, .int (nI (cn ua))), (2, .int ub)]) (by rw [← hcN]) ?_
        refine gg_lve (lv' := [(0, .ref (g.2.1 8)), (1, .int (nI (cn ua))), (2, .int (nI (cn ub)))]) (by rw [← hdN]) ?_
        refine g_aload_n (pc' := 24) (j := 0) hC dX6_doExchange_23 rfl rfl rfl ?_
        refine gf_X6_1 (pc' := 27) hC wF_X6_19 dX6_doExchange_24 rfl ?_
        refine g_iload_n (pc' := 28) (j := 1) hC dX6_doExchange_27 rfl rfl rfl ?_
        refine a_ldr (pc' := 29) (k := 10) (t := 6) (i := cn ua) hC (by decide) (ct_10 g σ) rfl (by omega) (by decide) dX6_doExchange_28 rfl ?_
        refine g_astore_n (pc' := 30) (lv' := [(3, .ref (g.2.1 (90 + 3 * (cn ua)))), (0, .ref (g.2.1 8)), (1, .int (nI (cn ua))), (2, .int (nI (cn ub)))]) hC dX6_doExchange_29 rfl rfl (by decide) rfl ?_
        refine g_aload_n (pc' := 31) (j := 1) hC dX6_doExchange_30 rfl rfl rfl ?_
        refine gf_X6_1 (pc' := 34) hC wF_X6_19 dX6_doExchange_31 rfl ?_
        refine g_iload_n (pc' := 35) (j := 3) hC dX6_doExchange_34 rfl rfl rfl ?_
        refine a_ldr (pc' := 36) (k := 10) (t := 6) (i := cn ub) hC (by decide) (ct_10 g σ) rfl (by omega) (by decide) dX6_doExchange_35 rfl ?_
        refine g_astore (pc' := 38) (lv' := [(4, .ref (g.2.1 (90 + 3 * (cn ub)))), (3, .ref (g.2.1 (90 + 3 * (cn ua)))), (0, .ref (g.2.1 8)), (1, .int (nI (cn ua))), (2, .int (nI (cn ub)))]) hC dX6_doExchange_36 rfl (by decide) rfl ?_
        refine g_aload_n (pc' := 39) (j := 1) hC dX6_doExchange_38 rfl rfl rfl ?_
        refine g_aload (pc' := 41) (j := 0) hC dX6_doExchange_39 rfl rfl ?_
        refine f_Vi (pc' := 44) (k := 90 + 3 * (cn ua)) (st := []) hC (c_isForkedFrom x.2.1 g z0 σ ((cn ua)) ((cn ub)) (by omega) (hpa) (by omega) (hpb)) k_X2_isForkedFrom wM_X6_169 (by decide) (by have := (by omega : (cn ua) < 6); show _ < 228; omega) (ct_cl g σ (by omega : (cn ua) < 6)) rfl rfl rfl rfl (Nat.le_of_ble_eq_true rfl) dX6_doExchange_41 rfl (Nat.zero_le _) (Nat.zero_le _) ?_
        refine b_if_eq (pc' := 47) (tgt := 99) hC dX6_doExchange_44 (by decide) rfl (fun c44 => ?_) (fun c44 => ?_)
        · skip
          refine g_aload_n (pc' := 100) (j := 1) hC dX6_doExchange_99 rfl rfl rfl ?_
          refine gf_X2_2 (pc' := 103) (b := cn ua) hC (by omega : (cn ua) < 6) wF_X6_74 dX6_doExchange_100 rfl ?_
          refine gg_topi (b := nI (rd σ (90 + 3 * cn ua) 2)) (hpa.1) ?_
          refine g_aload (pc' := 105) (j := 0) hC dX6_doExchange_103 rfl rfl ?_
          refine gf_X2_2 (pc' := 108) (b := cn ub) hC (by omega : (cn ub) < 6) wF_X6_74 dX6_doExchange_105 rfl ?_
          refine gg_topi (b := nI (rd σ (90 + 3 * cn ub) 2)) (hpb.1) ?_
          refine n_icmp_ne (pc' := 111) (tgt := 113) hC dX6_doExchange_108 (by decide) rfl (by omega) (by omega) (fun c108 => ?_) (fun c108 => ?_)
          · skip
            refine g_aload_n (pc' := 114) (j := 1) hC dX6_doExchange_113 rfl rfl rfl ?_
            refine gf_X2_2 (pc' := 117) (b := cn ua) hC (by omega : (cn ua) < 6) wF_X6_74 dX6_doExchange_114 rfl ?_
            refine gg_topi (b := nI (rd σ (90 + 3 * cn ua) 2)) (hpa.1) ?_
            refine g_aload (pc' := 119) (j := 0) hC dX6_doExchange_117 rfl rfl ?_
            refine gf_X2_2 (pc' := 122) (b := cn ub) hC (by omega : (cn ub) < 6) wF_X6_74 dX6_doExchange_119 rfl ?_
            refine gg_topi (b := nI (rd σ (90 + 3 * cn ub) 2)) (hpb.1) ?_
            refine n_icmp_ge (pc' := 125) (tgt := 129) hC dX6_doExchange_122 (by decide) rfl (by omega) (by omega) (fun c122 => ?_) (fun c122 => ?_)
            · skip
              refine g_iconst (pc' := 130) (v := nI 2) hC dX6_doExchange_129 rfl rfl ?_
              refine g_ret hC dX6_doExchange_130 rfl ?_
              exact ⟨by unfold cxc; rw [cI_t (⟨c5, c13, c18⟩), cI_f (c44), cI_f (c108), cI_f (Nat.not_lt.mpr c122)], by unfold cxc; rw [cI_t (⟨c5, c13, c18⟩), cI_f (c44), cI_f (c108), cI_f (Nat.not_lt.mpr c122)]⟩
            · skip
              refine g_iconst (pc' := 126) (v := nI 1) hC dX6_doExchange_125 rfl rfl ?_
              refine g_goto (tgt := 130) hC dX6_doExchange_126 (by decide) ?_
              refine g_ret hC dX6_doExchange_130 rfl ?_
              exact ⟨by unfold cxc; rw [cI_t (⟨c5, c13, c18⟩), cI_f (c44), cI_f (c108), cI_t (c122)], by unfold cxc; rw [cI_t (⟨c5, c13, c18⟩), cI_f (c44), cI_f (c108), cI_t (c122)]⟩
          · skip
            refine g_iconst (pc' := 112) (v := nI 0) hC dX6_doExchange_111 rfl rfl ?_
            refine g_ret hC dX6_doExchange_112 rfl ?_
            exact ⟨by unfold cxc; rw [cI_t (⟨c5, c13, c18⟩), cI_f (c44), cI_t (c108)], by unfold cxc; rw [cI_t (⟨c5, c13, c18⟩), cI_f (c44), cI_t (c108)]⟩
        · skip
          have hlt : cxa σ (cn ua) (cn ub) ≤ rd σ (90 + 3 * cn ub) 2 := cxa_le c44
          refine g_aload_n (pc' := 48) (j := 1) hC dX6_doExchange_47 rfl rfl rfl ?_
          refine g_aload (pc' := 50) (j := 0) hC dX6_doExchange_48 rfl rfl ?_
          refine f_Vi (pc' := 53) (k := 90 + 3 * (cn ua)) (st := []) hC (c_firstDifferenceTo x.2.1 g z0 σ ((cn ua)) ((cn ub)) (hG) (by omega) (hpa) (by omega) (hpb)) k_X2_firstDifferenceTo wM_X6_173 (by decide) (by have := (by omega : (cn ua) < 6); show _ < 228; omega) (ct_cl g σ (by omega : (cn ua) < 6)) rfl rfl rfl rfl (Nat.le_of_ble_eq_true rfl) dX6_doExchange_50 rfl (Nat.zero_le _) (Nat.zero_le _) ?_
          refine g_aload_n (pc' := 54) (j := 1) hC dX6_doExchange_53 rfl rfl rfl ?_
          refine gf_X2_2 (pc' := 57) (b := cn ua) hC (by omega : (cn ua) < 6) wF_X6_74 dX6_doExchange_54 rfl ?_
          refine gg_topi (b := nI (rd σ (90 + 3 * cn ua) 2)) (hpa.1) ?_
          refine n_min (pc' := 60) (st := []) hC wM_X6_146 (by decide) (by omega) (by omega) (Nat.le_of_ble_eq_true rfl) dX6_doExchange_57 rfl (Nat.zero_le _) (Nat.zero_le _) ?_
          refine g_istore (pc' := 62) (lv' := [(5, .int (nI (min (fdf (σ.1 (90 + 3 * (cn ua) + 1)) (σ.1 (90 + 3 * (cn ub) + 1)) (min (rd σ (90 + 3 * (cn ua)) 2) (rd σ (90 + 3 * (cn ub)) 2))) (rd σ (90 + 3 * cn ua) 2)))), (4, .ref (g.2.1 (90 + 3 * (cn ub)))), (3, .ref (g.2.1 (90 + 3 * (cn ua)))), (0, .ref (g.2.1 8)), (1, .int (nI (cn ua))), (2, .int (nI (cn ub)))]) hC dX6_doExchange_60 rfl (by decide) rfl ?_
          refine g_aload_n (pc' := 63) (j := 3) hC dX6_doExchange_62 rfl rfl rfl ?_
          refine g_iconst (pc' := 64) (v := nI 2) hC dX6_doExchange_63 rfl rfl ?_
          refine g_iload_n (pc' := 65) (j := 4) hC dX6_doExchange_64 rfl rfl rfl ?_
          refine g_iload_n (pc' := 66) (j := 5) hC dX6_doExchange_65 rfl rfl rfl ?_
          refine g_iload (pc' := 68) (j := 0) hC dX6_doExchange_66 rfl rfl ?_
          refine g_aload_n (pc' := 69) (j := 2) hC dX6_doExchange_68 rfl rfl rfl ?_
          refine gf_X2_0 (pc' := 72) (b := cn ua) hC (by omega : (cn ua) < 6) wF_X6_141 dX6_doExchange_69 rfl ?_
          refine g_iload (pc' := 74) (j := 0) hC dX6_doExchange_72 rfl rfl ?_
          refine a_ld (pc' := 75) (k := 90 + 3 * (cn ua) + 1) (i := min (fdf (σ.1 (90 + 3 * (cn ua) + 1)) (σ.1 (90 + 3 * (cn ub) + 1)) (min (rd σ (90 + 3 * (cn ua)) 2) (rd σ (90 + 3 * (cn ub)) 2))) (rd σ (90 + 3 * cn ua) 2)) hC (by have := (by omega : (cn ua) < 6); show _ < 228; omega) (ct_ch g σ (by omega : (cn ua) < 6)) (by omega) (by decide) dX6_doExchange_74 rfl ?_
          refine g_aload (pc' := 77) (j := 1) hC dX6_doExchange_75 rfl rfl ?_
          refine gf_X2_0 (pc' := 80) (b := cn ub) hC (by omega : (cn ub) < 6) wF_X6_141 dX6_doExchange_77 rfl ?_
          refine g_iload (pc' := 82) (j := 0) hC dX6_doExchange_80 rfl rfl ?_
          refine a_ld (pc' := 83) (k := 90 + 3 * (cn ub) + 1) (i := min (fdf (σ.1 (90 + 3 * (cn ua) + 1)) (σ.1 (90 + 3 * (cn ub) + 1)) (min (rd σ (90 + 3 * (cn ua)) 2) (rd σ (90 + 3 * (cn ub)) 2))) (rd σ (90 + 3 * cn ua) 2)) hC (by have := (by omega : (cn ub) < 6); show _ < 228; omega) (ct_ch g σ (by omega : (cn ub) < 6)) (by have h9 := hlt; unfold cxa at h9; omega) (by decide) dX6_doExchange_82 rfl ?_
          refine f_Vv (pc' := 86) (k := 8) (st := []) hC (c_addBlame x.2.1 g z0 σ ((nI 2)) ((nI (cn ua))) ((nI (cn ub))) ((nI (min (fdf (σ.1 (90 + 3 * (cn ua) + 1)) (σ.1 (90 + 3 * (cn ub) + 1)) (min (rd σ (90 + 3 * (cn ua)) 2) (rd σ (90 + 3 * (cn ub)) 2))) (rd σ (90 + 3 * cn ua) 2)))) ((σ.1 (90 + 3 * (cn ua) + 1) (min (fdf (σ.1 (90 + 3 * (cn ua) + 1)) (σ.1 (90 + 3 * (cn ub) + 1)) (min (rd σ (90 + 3 * (cn ua)) 2) (rd σ (90 + 3 * (cn ub)) 2))) (rd σ (90 + 3 * cn ua) 2)))) ((σ.1 (90 + 3 * (cn ub) + 1) (min (fdf (σ.1 (90 + 3 * (cn ua) + 1)) (σ.1 (90 + 3 * (cn ub) + 1)) (min (rd σ (90 + 3 * (cn ua)) 2) (rd σ (90 + 3 * (cn ub)) 2))) (rd σ (90 + 3 * cn ua) 2)))) (hI.ra)) k_X6_addBlame wM_X6_137 (by decide) (by decide) (ct_8 g σ) rfl rfl rfl rfl (Nat.le_of_ble_eq_true rfl) dX6_doExchange_83 rfl (Nat.zero_le _) (Nat.zero_le _) ?_
          refine g_aload_n (pc' := 87) (j := 2) hC dX6_doExchange_86 rfl rfl rfl ?_
          refine g_iconst (pc' := 88) (v := nI 1) hC dX6_doExchange_87 rfl rfl ?_
          refine pf_X2_5 (pc' := 91) (b := cn ua) hC (by omega : (cn ua) < 6) rfl rfl wF_X6_84 dX6_doExchange_88 rfl ?_
          refine g_aload (pc' := 93) (j := 1) hC dX6_doExchange_91 rfl rfl ?_
          refine g_iconst (pc' := 94) (v := nI 1) hC dX6_doExchange_93 rfl rfl ?_
          refine pf_X2_5 (pc' := 97) (b := cn ub) hC (by omega : (cn ub) < 6) rfl rfl wF_X6_84 dX6_doExchange_94 rfl ?_
          refine g_iconst (pc' := 98) (v := nI 3) hC dX6_doExchange_97 rfl rfl ?_
          refine g_ret hC dX6_doExchange_98 rfl ?_
          exact ⟨by unfold cxc; rw [cI_t (⟨c5, c13, c18⟩), cI_t (c44)], by unfold cxc; rw [cI_t (⟨c5, c13, c18⟩), cI_t (c44)]; simp only [← hcN, ← hdN]; rfl⟩
      · skip
        refine g_iconst (pc' := 22) (v := (-1)) hC dX6_doExchange_21 rfl rfl ?_
        refine g_ret hC dX6_doExchange_22 rfl ?_
        exact ⟨by unfold cxc; rw [cI_f (fun z => z.2.2 c18)], by unfold cxc; rw [cI_f (fun z => z.2.2 c18)]⟩
set_option maxHeartbeats 4000000 in
set_option maxRecDepth 20000 in
theorem c_doPost (l : Launch) (g : Lay) (z0 : Nat) (σ : St) (c : Int32) (hI : CI σ)  : CTi l yX6_doPost cX6_doPost 2 (some .int) 3 g z0 [.ref (g.2.1 8), .int c] σ (FI ((cpo σ c).1) ((cpo σ c).2)) := by
  refine CTi.of (by decide) (Nat.le_of_ble_eq_true rfl) ?_
  intro x hxl hxa hC
  have hC : Cx x RX6 cX6_doPost 2 (some .int) 3 g z0 := hC
  show GG x g z0 2 0 0 (Qi x g z0 (FI ((cpo σ c).1) ((cpo σ c).2))) σ 0 [(0, .ref (g.2.1 8)), (1, .int c)] []
  refine g_aload_n (pc' := 1) (j := 0) hC dX6_doPost_0 rfl rfl rfl ?_
  refine g_iload_n (pc' := 2) (j := 1) hC dX6_doPost_1 rfl rfl rfl ?_
  refine f_Vi (pc' := 5) (k := 8) (st := []) hC (c_hasClient x.2.1 g z0 σ c (hI.nc)) k_X6_hasClient wM_X6_62 (by decide) (by decide) (ct_8 g σ) rfl rfl rfl rfl (Nat.le_of_ble_eq_true rfl) dX6_doPost_2 rfl (Nat.zero_le _) (Nat.zero_le _) ?_
  refine b_if_ne (pc' := 8) (tgt := 10) hC dX6_doPost_5 (by decide) rfl (fun c5 => ?_) (fun c5 => ?_)
  · skip
    obtain ⟨hcN, hcNL⟩ := vl2_n (by have := hI.nc.2; omega) c5
    have hcNM := hI.nc.2
    refine gg_lve (lv' := [(0, .ref (g.2.1 8)), (1, .int (nI (cn c)))]) (by rw [← hcN]) ?_
    refine g_aload_n (pc' := 11) (j := 0) hC dX6_doPost_10 rfl rfl rfl ?_
    refine g_iload_n (pc' := 12) (j := 1) hC dX6_doPost_11 rfl rfl rfl ?_
    refine f_Vv (pc' := 15) (k := 8) (st := []) hC (c_addPost x.2.1 g z0 σ ((cn c)) (by omega) (hI.po (by omega)) (hI.rb)) k_X6_addPost wM_X6_109 (by decide) (by decide) (ct_8 g σ) rfl rfl rfl rfl (Nat.le_of_ble_eq_true rfl) dX6_doPost_12 rfl (Nat.zero_le _) (Nat.zero_le _) ?_
    refine g_aload_n (pc' := 16) (j := 0) hC dX6_doPost_15 rfl rfl rfl ?_
    refine gf_X6_3 (pc' := 19) hC wF_X6_32 dX6_doPost_16 rfl ?_
    refine gf_X4b_3 (pc' := 22) hC wF_X6_59 dX6_doPost_19 rfl ?_
    refine g_ret hC dX6_doPost_22 rfl ?_
    exact ⟨by unfold cpo; rw [cI_t (c5)], by unfold cpo; rw [cI_t (c5)]⟩
  · skip
    refine g_iconst (pc' := 9) (v := (-1)) hC dX6_doPost_8 rfl rfl ?_
    refine g_ret hC dX6_doPost_9 rfl ?_
    exact ⟨by unfold cpo; rw [cI_f (c5)], by unfold cpo; rw [cI_f (c5)]⟩
set_option maxHeartbeats 4000000 in
set_option maxRecDepth 20000 in
theorem c_doMove (l : Launch) (g : Lay) (z0 : Nat) (σ : St) (c : Int32) (b : Int32) (hI : CI σ)  : CTi l yX6_doMove cX6_doMove 4 (some .int) 1 g z0 [.ref (g.2.1 8), .int c, .int b] σ (FI ((cmv σ c b).1) ((cmv σ c b).2)) := by
  refine CTi.of (by decide) (Nat.le_of_ble_eq_true rfl) ?_
  intro x hxl hxa hC
  have hC : Cx x RX6 cX6_doMove 4 (some .int) 1 g z0 := hC
  show GG x g z0 4 0 0 (Qi x g z0 (FI ((cmv σ c b).1) ((cmv σ c b).2))) σ 0 [(0, .ref (g.2.1 8)), (1, .int c), (2, .int b)] []
  refine g_aload_n (pc' := 1) (j := 0) hC dX6_doMove_0 rfl rfl rfl ?_
  refine g_iload_n (pc' := 2) (j := 1) hC dX6_doMove_1 rfl rfl rfl ?_
  refine f_Vi (pc' := 5) (k := 8) (st := []) hC (c_hasClient x.2.1 g z0 σ c (hI.nc)) k_X6_hasClient wM_X6_62 (by decide) (by decide) (ct_8 g σ) rfl rfl rfl rfl (Nat.le_of_ble_eq_true rfl) dX6_doMove_2 rfl (Nat.zero_le _) (Nat.zero_le _) ?_
  refine b_if_eq (pc' := 8) (tgt := 16) hC dX6_doMove_5 (by decide) rfl (fun c5 => ?_) (fun c5 => ?_)
  · skip
    refine g_iconst (pc' := 17) (v := (-1)) hC dX6_doMove_16 rfl rfl ?_
    refine g_ret hC dX6_doMove_17 rfl ?_
    exact ⟨by unfold cmv; rw [cI_f (fun z => c5 z.1)], by unfold cmv; rw [cI_f (fun z => c5 z.1)]⟩
  · skip
    refine g_aload_n (pc' := 9) (j := 0) hC dX6_doMove_8 rfl rfl rfl ?_
    refine g_iload_n (pc' := 10) (j := 2) hC dX6_doMove_9 rfl rfl rfl ?_
    refine f_Vi (pc' := 13) (k := 8) (st := []) hC (c_hasBranch x.2.1 g z0 σ b (hI.nr)) k_X6_hasBranch wM_X6_183 (by decide) (by decide) (ct_8 g σ) rfl rfl rfl rfl (Nat.le_of_ble_eq_true rfl) dX6_doMove_10 rfl (Nat.zero_le _) (Nat.zero_le _) ?_
    refine b_if_ne (pc' := 16) (tgt := 18) hC dX6_doMove_13 (by decide) rfl (fun c13 => ?_) (fun c13 => ?_)
    · skip
      obtain ⟨hcN, hcNL⟩ := vl2_n (by have := hI.nc.2; omega) c5
      have hcNM := hI.nc.2
      refine gg_lve (lv' := [(0, .ref (g.2.1 8)), (1, .int (nI (cn c))), (2, .int b)]) (by rw [← hcN]) ?_
      refine g_aload_n (pc' := 19) (j := 0) hC dX6_doMove_18 rfl rfl rfl ?_
      refine gf_X6_1 (pc' := 22) hC wF_X6_19 dX6_doMove_19 rfl ?_
      refine g_iload_n (pc' := 23) (j := 1) hC dX6_doMove_22 rfl rfl rfl ?_
      refine a_ldr (pc' := 24) (k := 10) (t := 6) (i := cn c) hC (by decide) (ct_10 g σ) rfl (by omega) (by decide) dX6_doMove_23 rfl ?_
      refine gf_X2_3 (pc' := 27) (b := cn c) hC (by omega : (cn c) < 6) wF_X6_77 dX6_doMove_24 rfl ?_
      refine g_istore_n (pc' := 28) (lv' := [(3, .int (σ.1 (90 + 3 * (cn c)) 3)), (0, .ref (g.2.1 8)), (1, .int (nI (cn c))), (2, .int b)]) hC dX6_doMove_27 rfl rfl (by decide) rfl ?_
      refine g_aload_n (pc' := 29) (j := 1) hC dX6_doMove_28 rfl rfl rfl ?_
      refine gf_X6_1 (pc' := 32) hC wF_X6_19 dX6_doMove_29 rfl ?_
      refine g_iload_n (pc' := 33) (j := 2) hC dX6_doMove_32 rfl rfl rfl ?_
      refine a_ldr (pc' := 34) (k := 10) (t := 6) (i := cn c) hC (by decide) (ct_10 g σ) rfl (by omega) (by decide) dX6_doMove_33 rfl ?_
      refine g_iload_n (pc' := 35) (j := 3) hC dX6_doMove_34 rfl rfl rfl ?_
      refine pf_X2_3 (pc' := 38) (b := cn c) hC (by omega : (cn c) < 6) wF_X6_77 dX6_doMove_35 rfl ?_
      refine g_iload_n (pc' := 39) (j := 0) hC dX6_doMove_38 rfl rfl rfl ?_
      refine g_ret hC dX6_doMove_39 rfl ?_
      exact ⟨by unfold cmv; rw [cI_t (⟨c5, c13⟩)], by unfold cmv; rw [cI_t (⟨c5, c13⟩)]⟩
    · skip
      refine g_iconst (pc' := 17) (v := (-1)) hC dX6_doMove_16 rfl rfl ?_
      refine g_ret hC dX6_doMove_17 rfl ?_
      exact ⟨by unfold cmv; rw [cI_f (fun z => c13 z.2)], by unfold cmv; rw [cI_f (fun z => c13 z.2)]⟩
set_option maxHeartbeats 4000000 in
set_option maxRecDepth 20000 in
theorem c_doRewind (l : Launch) (g : Lay) (z0 : Nat) (σ : St) (b : Int32) (n : Int32) (hI : CI σ)  : CTi l yX6_doRewind cX6_doRewind 3 (some .int) 1 g z0 [.ref (g.2.1 8), .int b, .int n] σ (FI ((crw σ b n).1) ((crw σ b n).2)) := by
  refine CTi.of (by decide) (Nat.le_of_ble_eq_true rfl) ?_
  intro x hxl hxa hC
  have hC : Cx x RX6 cX6_doRewind 3 (some .int) 1 g z0 := hC
  show GG x g z0 3 0 0 (Qi x g z0 (FI ((crw σ b n).1) ((crw σ b n).2))) σ 0 [(0, .ref (g.2.1 8)), (1, .int b), (2, .int n)] []
  refine g_aload_n (pc' := 1) (j := 0) hC dX6_doRewind_0 rfl rfl rfl ?_
  refine g_iload_n (pc' := 2) (j := 1) hC dX6_doRewind_1 rfl rfl rfl ?_
  refine f_Vi (pc' := 5) (k := 8) (st := []) hC (c_hasBranch x.2.1 g z0 σ b (hI.nr)) k_X6_hasBranch wM_X6_183 (by decide) (by decide) (ct_8 g σ) rfl rfl rfl rfl (Nat.le_of_ble_eq_true rfl) dX6_doRewind_2 rfl (Nat.zero_le _) (Nat.zero_le _) ?_
  refine b_if_ne (pc' := 8) (tgt := 10) hC dX6_doRewind_5 (by decide) rfl (fun c5 => ?_) (fun c5 => ?_)
  · skip
    obtain ⟨hcN, hcNL⟩ := vl2_n (by have := hI.nr.2; omega) c5
    have hcNM := hI.nr.2
    refine gg_lve (lv' := [(0, .ref (g.2.1 8)), (1, .int (nI (cn b))), (2, .int n)]) (by rw [← hcN]) ?_
    refine g_iload_n (pc' := 11) (j := 2) hC dX6_doRewind_10 rfl rfl rfl ?_
    refine g_iconst (pc' := 12) (v := nI 1) hC dX6_doRewind_11 rfl rfl ?_
    refine g_icmp_lt (pc' := 15) (tgt := 28) hC dX6_doRewind_12 (by decide) rfl (fun c12 => ?_) (fun c12 => ?_)
    · skip
      refine g_bipush (pc' := 30) (v := (-2)) hC dX6_doRewind_28 rfl rfl ?_
      refine g_ret hC dX6_doRewind_30 rfl ?_
      exact ⟨by unfold crw; rw [cI_t (c5), cI_f (fun z => z.1 c12)], by unfold crw; rw [cI_t (c5), cI_f (fun z => z.1 c12)]⟩
    · skip
      refine g_iload_n (pc' := 16) (j := 2) hC dX6_doRewind_15 rfl rfl rfl ?_
      refine g_aload_n (pc' := 17) (j := 0) hC dX6_doRewind_16 rfl rfl rfl ?_
      refine gf_X6_0 (pc' := 20) hC wF_X6_11 dX6_doRewind_17 rfl ?_
      refine g_iload_n (pc' := 21) (j := 1) hC dX6_doRewind_20 rfl rfl rfl ?_
      refine a_ldr (pc' := 22) (k := 9) (t := 5) (i := cn b) hC (by decide) (ct_9 g σ) rfl (by omega) (by decide) dX6_doRewind_21 rfl ?_
      refine gf_X1_6 (pc' := 25) (b := cn b) hC (by omega : (cn b) < 8) wF_X6_53 dX6_doRewind_22 rfl ?_
      refine g_icmp_le (pc' := 28) (tgt := 31) hC dX6_doRewind_25 (by decide) rfl (fun c25 => ?_) (fun c25 => ?_)
      · skip
        refine g_aload_n (pc' := 32) (j := 0) hC dX6_doRewind_31 rfl rfl rfl ?_
        refine gf_X6_0 (pc' := 35) hC wF_X6_11 dX6_doRewind_32 rfl ?_
        refine g_iload_n (pc' := 36) (j := 1) hC dX6_doRewind_35 rfl rfl rfl ?_
        refine a_ldr (pc' := 37) (k := 9) (t := 5) (i := cn b) hC (by decide) (ct_9 g σ) rfl (by omega) (by decide) dX6_doRewind_36 rfl ?_
        refine g_dup (pc' := 38) hC dX6_doRewind_37 rfl rfl ?_
        refine gf_X1_6 (pc' := 41) (b := cn b) hC (by omega : (cn b) < 8) wF_X6_53 dX6_doRewind_38 rfl ?_
        refine g_iload_n (pc' := 42) (j := 2) hC dX6_doRewind_41 rfl rfl rfl ?_
        refine g_isub (pc' := 43) hC dX6_doRewind_42 rfl ?_
        refine pf_X1_6 (pc' := 46) (b := cn b) hC (by omega : (cn b) < 8) wF_X6_53 dX6_doRewind_43 rfl ?_
        refine g_aload_n (pc' := 47) (j := 0) hC dX6_doRewind_46 rfl rfl rfl ?_
        refine gf_X6_0 (pc' := 50) hC wF_X6_11 dX6_doRewind_47 rfl ?_
        refine g_iload_n (pc' := 51) (j := 1) hC dX6_doRewind_50 rfl rfl rfl ?_
        refine a_ldr (pc' := 52) (k := 9) (t := 5) (i := cn b) hC (by decide) (ct_9 g (uv σ (34 + 7 * (cn b)) 6 ((σ.1 (34 + 7 * (cn b)) 6) - n))) rfl (by omega) (by decide) dX6_doRewind_51 rfl ?_
        refine gf_X1_6 (pc' := 55) (b := cn b) hC (by omega : (cn b) < 8) wF_X6_53 dX6_doRewind_52 rfl ?_
        refine gg_topi (b := (σ.1 (34 + 7 * (cn b)) 6) - n) (uv_same _ _ _ _) ?_
        refine g_ret hC dX6_doRewind_55 rfl ?_
        exact ⟨by unfold crw; rw [cI_t (c5), cI_t (⟨c12, c25⟩)], by unfold crw; rw [cI_t (c5), cI_t (⟨c12, c25⟩)]⟩
      · skip
        refine g_bipush (pc' := 30) (v := (-2)) hC dX6_doRewind_28 rfl rfl ?_
        refine g_ret hC dX6_doRewind_30 rfl ?_
        exact ⟨by unfold crw; rw [cI_t (c5), cI_f (fun z => c25 z.2)], by unfold crw; rw [cI_t (c5), cI_f (fun z => c25 z.2)]⟩
  · skip
    refine g_iconst (pc' := 9) (v := (-1)) hC dX6_doRewind_8 rfl rfl ?_
    refine g_ret hC dX6_doRewind_9 rfl ?_
    exact ⟨by unfold crw; rw [cI_f (c5)], by unfold crw; rw [cI_f (c5)]⟩
set_option maxHeartbeats 4000000 in
set_option maxRecDepth 20000 in
theorem c_doCorrupt (l : Launch) (g : Lay) (z0 : Nat) (σ : St) (b : Int32) (n : Int32) (v : Int32) (hI : CI σ)  : CTi l yX6_doCorrupt cX6_doCorrupt 6 (some .int) 1 g z0 [.ref (g.2.1 8), .int b, .int n, .int v] σ (FI ((cco σ b n v).1) ((cco σ b n v).2)) := by
  refine CTi.of (by decide) (Nat.le_of_ble_eq_true rfl) ?_
  intro x hxl hxa hC
  have hC : Cx x RX6 cX6_doCorrupt 6 (some .int) 1 g z0 := hC
  show GG x g z0 6 0 0 (Qi x g z0 (FI ((cco σ b n v).1) ((cco σ b n v).2))) σ 0 [(0, .ref (g.2.1 8)), (1, .int b), (2, .int n), (3, .int v)] []
  refine g_aload_n (pc' := 1) (j := 0) hC dX6_doCorrupt_0 rfl rfl rfl ?_
  refine g_iload_n (pc' := 2) (j := 1) hC dX6_doCorrupt_1 rfl rfl rfl ?_
  refine f_Vi (pc' := 5) (k := 8) (st := []) hC (c_hasBranch x.2.1 g z0 σ b (hI.nr)) k_X6_hasBranch wM_X6_183 (by decide) (by decide) (ct_8 g σ) rfl rfl rfl rfl (Nat.le_of_ble_eq_true rfl) dX6_doCorrupt_2 rfl (Nat.zero_le _) (Nat.zero_le _) ?_
  refine b_if_eq (pc' := 8) (tgt := 21) hC dX6_doCorrupt_5 (by decide) rfl (fun c5 => ?_) (fun c5 => ?_)
  · skip
    refine g_iconst (pc' := 22) (v := (-1)) hC dX6_doCorrupt_21 rfl rfl ?_
    refine g_ret hC dX6_doCorrupt_22 rfl ?_
    exact ⟨by unfold cco; rw [cI_f (fun z => c5 z.1)], by unfold cco; rw [cI_f (fun z => c5 z.1)]⟩
  · skip
    obtain ⟨hcN, hcNL⟩ := vl2_n (by have := hI.nr.2; omega) c5
    have hcNM := hI.nr.2
    refine gg_lve (lv' := [(0, .ref (g.2.1 8)), (1, .int (nI (cn b))), (2, .int n), (3, .int v)]) (by rw [← hcN]) ?_
    refine g_aload_n (pc' := 9) (j := 0) hC dX6_doCorrupt_8 rfl rfl rfl ?_
    refine gf_X6_0 (pc' := 12) hC wF_X6_11 dX6_doCorrupt_9 rfl ?_
    refine g_iload_n (pc' := 13) (j := 1) hC dX6_doCorrupt_12 rfl rfl rfl ?_
    refine a_ldr (pc' := 14) (k := 9) (t := 5) (i := cn b) hC (by decide) (ct_9 g σ) rfl (by omega) (by decide) dX6_doCorrupt_13 rfl ?_
    refine g_iload_n (pc' := 15) (j := 2) hC dX6_doCorrupt_14 rfl rfl rfl ?_
    refine f_Vi (pc' := 18) (k := 34 + 7 * (cn b)) (st := []) hC (c_hasEntry x.2.1 g z0 σ ((cn b)) n (by omega) (hI.sz (by omega))) k_X1_hasEntry wM_X6_186 (by decide) (by have := (by omega : (cn b) < 8); show _ < 228; omega) (ct_br g σ (by omega : (cn b) < 8)) rfl rfl rfl rfl (Nat.le_of_ble_eq_true rfl) dX6_doCorrupt_15 rfl (Nat.zero_le _) (Nat.zero_le _) ?_
    refine b_if_ne (pc' := 21) (tgt := 23) hC dX6_doCorrupt_18 (by decide) rfl (fun c18 => ?_) (fun c18 => ?_)
    · skip
      refine g_iload_n (pc' := 24) (j := 3) hC dX6_doCorrupt_23 rfl rfl rfl ?_
      refine g_if_lt (pc' := 27) (tgt := 33) hC dX6_doCorrupt_24 (by decide) rfl (fun c24 => ?_) (fun c24 => ?_)
      · skip
        refine g_bipush (pc' := 35) (v := (-2)) hC dX6_doCorrupt_33 rfl rfl ?_
        refine g_ret hC dX6_doCorrupt_35 rfl ?_
        exact ⟨by unfold cco; rw [cI_t (⟨c5, c18⟩), cI_f (fun z => z.1 c24)], by unfold cco; rw [cI_t (⟨c5, c18⟩), cI_f (fun z => z.1 c24)]⟩
      · skip
        refine g_iload_n (pc' := 28) (j := 3) hC dX6_doCorrupt_27 rfl rfl rfl ?_
        refine g_ldc (pc' := 30) (v := 999999) hC wC_X6_69 dX6_doCorrupt_28 rfl ?_
        refine gg_topi (b := nI 999999) rfl ?_
        refine g_icmp_le (pc' := 33) (tgt := 36) hC dX6_doCorrupt_30 (by decide) rfl (fun c30 => ?_) (fun c30 => ?_)
        · skip
          have hL2 := (hI.sz (b := cn b) (by omega)).2
          obtain ⟨heN, he1, he2⟩ := cen_n hL2 c18
          refine gg_lve (lv' := [(0, .ref (g.2.1 8)), (1, .int (nI (cn b))), (2, .int (nI (cn n))), (3, .int v)]) (by rw [← heN]) ?_
          refine g_aload_n (pc' := 37) (j := 0) hC dX6_doCorrupt_36 rfl rfl rfl ?_
          refine gf_X6_0 (pc' := 40) hC wF_X6_11 dX6_doCorrupt_37 rfl ?_
          refine g_iload_n (pc' := 41) (j := 1) hC dX6_doCorrupt_40 rfl rfl rfl ?_
          refine a_ldr (pc' := 42) (k := 9) (t := 5) (i := cn b) hC (by decide) (ct_9 g σ) rfl (by omega) (by decide) dX6_doCorrupt_41 rfl ?_
          refine g_astore (pc' := 44) (lv' := [(4, .ref (g.2.1 (34 + 7 * (cn b)))), (0, .ref (g.2.1 8)), (1, .int (nI (cn b))), (2, .int (nI (cn n))), (3, .int v)]) hC dX6_doCorrupt_42 rfl (by decide) rfl ?_
          refine g_aload (pc' := 46) (j := 0) hC dX6_doCorrupt_44 rfl rfl ?_
          refine gf_X1_0 (pc' := 49) (b := cn b) hC (by omega : (cn b) < 8) wF_X6_189 dX6_doCorrupt_46 rfl ?_
          refine g_iload_n (pc' := 50) (j := 3) hC dX6_doCorrupt_49 rfl rfl rfl ?_
          refine a_ld (pc' := 51) (k := 34 + 7 * (cn b) + 1) (i := cn n) hC (by have := (by omega : (cn b) < 8); show _ < 228; omega) (ct_ba g σ (by omega : (cn b) < 8) (by decide) (by decide)) (by omega) (by decide) dX6_doCorrupt_50 rfl ?_
          refine g_iconst (pc' := 52) (v := nI 1) hC dX6_doCorrupt_51 rfl rfl ?_
          refine g_icmp_eq (pc' := 55) (tgt := 58) hC dX6_doCorrupt_52 (by decide) rfl (fun c52 => ?_) (fun c52 => ?_)
          · skip
            refine g_aload (pc' := 60) (j := 0) hC dX6_doCorrupt_58 rfl rfl ?_
            refine gf_X1_3 (pc' := 63) (b := cn b) hC (by omega : (cn b) < 8) wF_X6_192 dX6_doCorrupt_60 rfl ?_
            refine g_iload_n (pc' := 64) (j := 3) hC dX6_doCorrupt_63 rfl rfl rfl ?_
            refine a_ld (pc' := 65) (k := 34 + 7 * (cn b) + 4) (i := cn n) hC (by have := (by omega : (cn b) < 8); show _ < 228; omega) (ct_ba g σ (by omega : (cn b) < 8) (by decide) (by decide)) (by omega) (by decide) dX6_doCorrupt_64 rfl ?_
            refine g_istore (pc' := 67) (lv' := [(5, .int (σ.1 (34 + 7 * (cn b) + 4) (cn n))), (4, .ref (g.2.1 (34 + 7 * (cn b)))), (0, .ref (g.2.1 8)), (1, .int (nI (cn b))), (2, .int (nI (cn n))), (3, .int v)]) hC dX6_doCorrupt_65 rfl (by decide) rfl ?_
            refine g_aload (pc' := 69) (j := 1) hC dX6_doCorrupt_67 rfl rfl ?_
            refine gf_X1_3 (pc' := 72) (b := cn b) hC (by omega : (cn b) < 8) wF_X6_192 dX6_doCorrupt_69 rfl ?_
            refine g_iload_n (pc' := 73) (j := 4) hC dX6_doCorrupt_72 rfl rfl rfl ?_
            refine g_iload_n (pc' := 74) (j := 5) hC dX6_doCorrupt_73 rfl rfl rfl ?_
            refine a_st (pc' := 75) (k := 34 + 7 * (cn b) + 4) (i := cn n) hC (by have := (by omega : (cn b) < 8); show _ < 228; omega) (fun σ9 => (ct_ba g σ9 (by omega : (cn b) < 8) (by decide) (by decide))) (by omega) (by decide) dX6_doCorrupt_74 rfl ?_
            refine g_iload (pc' := 77) (j := 0) hC dX6_doCorrupt_75 rfl rfl ?_
            refine g_ret hC dX6_doCorrupt_77 rfl ?_
            exact ⟨by unfold cco; rw [cI_t (⟨c5, c18⟩), cI_t (⟨c24, c30⟩), cI_t (c52)], by unfold cco; rw [cI_t (⟨c5, c18⟩), cI_t (⟨c24, c30⟩), cI_t (c52)]⟩
          · skip
            refine g_bipush (pc' := 57) (v := (-3)) hC dX6_doCorrupt_55 rfl rfl ?_
            refine g_ret hC dX6_doCorrupt_57 rfl ?_
            exact ⟨by unfold cco; rw [cI_t (⟨c5, c18⟩), cI_t (⟨c24, c30⟩), cI_f (c52)], by unfold cco; rw [cI_t (⟨c5, c18⟩), cI_t (⟨c24, c30⟩), cI_f (c52)]⟩
        · skip
          refine g_bipush (pc' := 35) (v := (-2)) hC dX6_doCorrupt_33 rfl rfl ?_
          refine g_ret hC dX6_doCorrupt_35 rfl ?_
          exact ⟨by unfold cco; rw [cI_t (⟨c5, c18⟩), cI_f (fun z => c30 z.2)], by unfold cco; rw [cI_t (⟨c5, c18⟩), cI_f (fun z => c30 z.2)]⟩
    · skip
      refine g_iconst (pc' := 22) (v := (-1)) hC dX6_doCorrupt_21 rfl rfl ?_
      refine g_ret hC dX6_doCorrupt_22 rfl ?_
      exact ⟨by unfold cco; rw [cI_f (fun z => c18 z.2)], by unfold cco; rw [cI_f (fun z => c18 z.2)]⟩
set_option maxHeartbeats 4000000 in
set_option maxRecDepth 20000 in
theorem c_branchSeenBy (l : Launch) (g : Lay) (z0 : Nat) (σ : St) (set : Int32) (hI : CI σ)  : CTi l yX6_branchSeenBy cX6_branchSeenBy 4 (some .int) 0 g z0 [.ref (g.2.1 8), .int set] σ (FI (csF σ set) σ) := by
  refine CTi.of (by decide) (Nat.le_of_ble_eq_true rfl) ?_
  intro x hxl hxa hC
  have hC : Cx x RX6 cX6_branchSeenBy 4 (some .int) 0 g z0 := hC
  have hN := hI.nc.2
  show GG x g z0 4 0 0 (Qi x g z0 (FI (csF σ set) σ)) σ 0 [(0, .ref (g.2.1 8)), (1, .int set)] []
  refine g_iconst (pc' := 1) (v := (-1)) hC dX6_branchSeenBy_0 rfl rfl ?_
  refine g_istore_n (pc' := 2) (lv' := [(2, .int ((-1))), (0, .ref (g.2.1 8)), (1, .int set)]) hC dX6_branchSeenBy_1 rfl rfl (by decide) rfl ?_
  refine g_iconst (pc' := 3) (v := nI 0) hC dX6_branchSeenBy_2 rfl rfl ?_
  refine g_istore_n (pc' := 4) (lv' := [(3, .int (nI 0)), (2, .int ((-1))), (0, .ref (g.2.1 8)), (1, .int set)]) hC dX6_branchSeenBy_3 rfl rfl (by decide) rfl ?_
  have L4 : ∀ (fu : Nat) (i : Nat) (fd : Int32), (i ≤ rd σ 8 4) → (csF σ set = csa (fun c => σ.1 (90 + 3 * c) 3) set (rd σ 8 4 - i) i fd) → (rd σ 8 4 - i) < fu → GG x g z0 4 0 0 (Qi x g z0 (FI (csF σ set) σ)) σ 4 [(3, .int (nI i)), (2, .int fd), (0, .ref (g.2.1 8)), (1, .int set)] [] := by
    intro fu
    induction fu with
    | zero => intro i fd hi he hz; exact absurd hz (Nat.not_lt_zero _)
    | succ fu ih4 =>
      intro i fd hi he hf
      refine g_iload_n (pc' := 5) (j := 0) hC dX6_branchSeenBy_4 rfl rfl rfl ?_
      refine g_aload_n (pc' := 6) (j := 2) hC dX6_branchSeenBy_5 rfl rfl rfl ?_
      refine gf_X6_4 (pc' := 9) hC wF_X6_44 dX6_branchSeenBy_6 rfl ?_
      refine gg_topi (b := nI (rd σ 8 4)) (hI.nc.1) ?_
      refine n_icmp_ge (pc' := 12) (tgt := 55) hC dX6_branchSeenBy_9 (by decide) rfl (by omega) (by omega) (fun c9 => ?_) (fun c9 => ?_)
      · skip
        refine g_iload_n (pc' := 56) (j := 1) hC dX6_branchSeenBy_55 rfl rfl rfl ?_
        refine g_ret hC dX6_branchSeenBy_56 rfl ?_
        exact ⟨by rw [he, show rd σ 8 4 - i = 0 by omega]; rfl, rfl⟩
      · skip
        refine g_iload_n (pc' := 13) (j := 3) hC dX6_branchSeenBy_12 rfl rfl rfl ?_
        refine g_iload_n (pc' := 14) (j := 0) hC dX6_branchSeenBy_13 rfl rfl rfl ?_
        refine g_ishr (pc' := 15) hC dX6_branchSeenBy_14 rfl ?_
        refine g_iconst (pc' := 16) (v := nI 1) hC dX6_branchSeenBy_15 rfl rfl ?_
        refine g_iand (pc' := 17) hC dX6_branchSeenBy_16 rfl ?_
        refine g_if_eq (pc' := 20) (tgt := 49) hC dX6_branchSeenBy_17 (by decide) rfl (fun c17 => ?_) (fun c17 => ?_)
        · skip
          have hst : csa (fun c => σ.1 (90 + 3 * c) 3) set (rd σ 8 4 - i) i fd = csa (fun c => σ.1 (90 + 3 * c) 3) set (rd σ 8 4 - (i + 1)) (i + 1) fd := by rw [csa_s _ _ c9, cI_f (show ¬ chb set i from fun z => z c17)]
          refine g_iinc (pc' := 52) (j := 0) (u := nI (i + 1)) (lv' := [(3, .int (nI (i + 1))), (2, .int fd), (0, .ref (g.2.1 8)), (1, .int set)]) hC dX6_branchSeenBy_49 rfl rfl (nI_add i 1) (by decide) rfl ?_
          refine g_goto (tgt := 4) hC dX6_branchSeenBy_52 (by decide) ?_
          refine gg_lv (lv' := [(3, .int (nI (i + 1))), (2, .int fd), (0, .ref (g.2.1 8)), (1, .int set)]) ?_ [0, 1, 2, 3] rfl
          exact ih4 ((i + 1)) fd (by omega) (he.trans hst) (by omega)
        · skip
          refine g_iload_n (pc' := 21) (j := 1) hC dX6_branchSeenBy_20 rfl rfl rfl ?_
          refine g_if_lt (pc' := 24) (tgt := 39) hC dX6_branchSeenBy_21 (by decide) rfl (fun c21 => ?_) (fun c21 => ?_)
          · skip
            have hst : csa (fun c => σ.1 (90 + 3 * c) 3) set (rd σ 8 4 - i) i fd = csa (fun c => σ.1 (90 + 3 * c) 3) set (rd σ 8 4 - (i + 1)) (i + 1) (σ.1 (90 + 3 * i) 3) := by rw [csa_s _ _ c9, cI_t (show chb set i from c17), cI_f (fun z => z.1 c21)]
            refine g_aload_n (pc' := 40) (j := 2) hC dX6_branchSeenBy_39 rfl rfl rfl ?_
            refine gf_X6_1 (pc' := 43) hC wF_X6_19 dX6_branchSeenBy_40 rfl ?_
            refine g_iload_n (pc' := 44) (j := 0) hC dX6_branchSeenBy_43 rfl rfl rfl ?_
            refine a_ldr (pc' := 45) (k := 10) (t := 6) (i := i) hC (by decide) (ct_10 g σ) rfl (by omega) (by decide) dX6_branchSeenBy_44 rfl ?_
            refine gf_X2_3 (pc' := 48) (b := i) hC (by omega : i < 6) wF_X6_77 dX6_branchSeenBy_45 rfl ?_
            refine g_istore_n (pc' := 49) (lv' := [(2, .int (σ.1 (90 + 3 * i) 3)), (3, .int (nI i)), (0, .ref (g.2.1 8)), (1, .int set)]) hC dX6_branchSeenBy_48 rfl rfl (by decide) rfl ?_
            refine g_iinc (pc' := 52) (j := 1) (u := nI (i + 1)) (lv' := [(3, .int (nI (i + 1))), (2, .int (σ.1 (90 + 3 * i) 3)), (0, .ref (g.2.1 8)), (1, .int set)]) hC dX6_branchSeenBy_49 rfl rfl (nI_add i 1) (by decide) rfl ?_
            refine g_goto (tgt := 4) hC dX6_branchSeenBy_52 (by decide) ?_
            refine gg_lv (lv' := [(3, .int (nI (i + 1))), (2, .int (σ.1 (90 + 3 * i) 3)), (0, .ref (g.2.1 8)), (1, .int set)]) ?_ [0, 1, 2, 3] rfl
            exact ih4 ((i + 1)) (σ.1 (90 + 3 * i) 3) (by omega) (he.trans hst) (by omega)
          · skip
            refine g_iload_n (pc' := 25) (j := 1) hC dX6_branchSeenBy_24 rfl rfl rfl ?_
            refine g_aload_n (pc' := 26) (j := 2) hC dX6_branchSeenBy_25 rfl rfl rfl ?_
            refine gf_X6_1 (pc' := 29) hC wF_X6_19 dX6_branchSeenBy_26 rfl ?_
            refine g_iload_n (pc' := 30) (j := 0) hC dX6_branchSeenBy_29 rfl rfl rfl ?_
            refine a_ldr (pc' := 31) (k := 10) (t := 6) (i := i) hC (by decide) (ct_10 g σ) rfl (by omega) (by decide) dX6_branchSeenBy_30 rfl ?_
            refine gf_X2_3 (pc' := 34) (b := i) hC (by omega : i < 6) wF_X6_77 dX6_branchSeenBy_31 rfl ?_
            refine g_icmp_eq (pc' := 37) (tgt := 39) hC dX6_branchSeenBy_34 (by decide) rfl (fun c34 => ?_) (fun c34 => ?_)
            · skip
              have hst : csa (fun c => σ.1 (90 + 3 * c) 3) set (rd σ 8 4 - i) i fd = csa (fun c => σ.1 (90 + 3 * c) 3) set (rd σ 8 4 - (i + 1)) (i + 1) (σ.1 (90 + 3 * i) 3) := by rw [csa_s _ _ c9, cI_t (show chb set i from c17), cI_f (fun z => z.2 c34)]
              refine g_aload_n (pc' := 40) (j := 2) hC dX6_branchSeenBy_39 rfl rfl rfl ?_
              refine gf_X6_1 (pc' := 43) hC wF_X6_19 dX6_branchSeenBy_40 rfl ?_
              refine g_iload_n (pc' := 44) (j := 0) hC dX6_branchSeenBy_43 rfl rfl rfl ?_
              refine a_ldr (pc' := 45) (k := 10) (t := 6) (i := i) hC (by decide) (ct_10 g σ) rfl (by omega) (by decide) dX6_branchSeenBy_44 rfl ?_
              refine gf_X2_3 (pc' := 48) (b := i) hC (by omega : i < 6) wF_X6_77 dX6_branchSeenBy_45 rfl ?_
              refine g_istore_n (pc' := 49) (lv' := [(2, .int (σ.1 (90 + 3 * i) 3)), (3, .int (nI i)), (0, .ref (g.2.1 8)), (1, .int set)]) hC dX6_branchSeenBy_48 rfl rfl (by decide) rfl ?_
              refine g_iinc (pc' := 52) (j := 1) (u := nI (i + 1)) (lv' := [(3, .int (nI (i + 1))), (2, .int (σ.1 (90 + 3 * i) 3)), (0, .ref (g.2.1 8)), (1, .int set)]) hC dX6_branchSeenBy_49 rfl rfl (nI_add i 1) (by decide) rfl ?_
              refine g_goto (tgt := 4) hC dX6_branchSeenBy_52 (by decide) ?_
              refine gg_lv (lv' := [(3, .int (nI (i + 1))), (2, .int (σ.1 (90 + 3 * i) 3)), (0, .ref (g.2.1 8)), (1, .int set)]) ?_ [0, 1, 2, 3] rfl
              exact ih4 ((i + 1)) (σ.1 (90 + 3 * i) 3) (by omega) (he.trans hst) (by omega)
            · skip
              refine g_iconst (pc' := 38) (v := (-1)) hC dX6_branchSeenBy_37 rfl rfl ?_
              refine g_ret hC dX6_branchSeenBy_38 rfl ?_
              exact ⟨by rw [he, csa_s _ _ (by omega), cI_t (show chb set i from c17), cI_t ⟨c21, c34⟩], rfl⟩
  refine gg_lv (lv' := [(3, .int (nI 0)), (2, .int ((-1))), (0, .ref (g.2.1 8)), (1, .int set)]) ?_ [0, 1, 2, 3] rfl
  exact L4 (rd σ 8 4 - 0 + 1) 0 ((-1)) (by omega) (rfl) (by omega)
