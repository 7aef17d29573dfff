set_option maxHeartbeats 4000000 in
set_option maxRecDepth 20000 in
theorem c_caseFor (l : Launch) (g : Lay) (z0 : Nat) (σ : St) (c : Nat) (hc : c < 6) (hI : CI σ)  : CTi l yX6_caseFor cX6_caseFor 4 (some .int) 2 g z0 [.ref (g.2.1 8), .int (nI c)] σ (FI (nI (cfc σ c)) σ) := by
  refine CTi.of (by decide) (Nat.le_of_ble_eq_true rfl) ?_
  intro x hxl hxa hC
  have hC : Cx x RX6 cX6_caseFor 4 (some .int) 2 g z0 := hC
  have hS : rd σ (90 + 3 * c) 3 < 8 := by have := (hI.se hc).2; omega
  have hsz2 := (hI.sz hS).2
  have hpo2 := (hI.po hc).2
  have hrb2 := hI.rb.2
  have hcf := (cfr_ok σ (rd σ (90 + 3 * c) 3)).1
  show GG x g z0 4 0 0 (Qi x g z0 (FI (nI (cfc σ c)) σ)) σ 0 [(0, .ref (g.2.1 8)), (1, .int (nI c))] []
  refine g_aload_n (pc' := 1) (j := 0) hC dX6_caseFor_0 rfl rfl rfl ?_
  refine gf_X6_1 (pc' := 4) hC wF_X6_19 dX6_caseFor_1 rfl ?_
  refine g_iload_n (pc' := 5) (j := 1) hC dX6_caseFor_4 rfl rfl rfl ?_
  refine a_ldr (pc' := 6) (k := 10) (t := 6) (i := c) hC (by decide) (ct_10 g σ) rfl (by omega) (by decide) dX6_caseFor_5 rfl ?_
  refine g_astore_n (pc' := 7) (lv' := [(2, .ref (g.2.1 (90 + 3 * c))), (0, .ref (g.2.1 8)), (1, .int (nI c))]) hC dX6_caseFor_6 rfl rfl (by decide) rfl ?_
  refine g_aload_n (pc' := 8) (j := 1) hC dX6_caseFor_7 rfl rfl rfl ?_
  refine gf_X6_0 (pc' := 11) hC wF_X6_11 dX6_caseFor_8 rfl ?_
  refine g_aload_n (pc' := 12) (j := 0) hC dX6_caseFor_11 rfl rfl rfl ?_
  refine gf_X2_3 (pc' := 15) (b := c) hC (by omega : c < 6) wF_X6_77 dX6_caseFor_12 rfl ?_
  refine gg_topi (b := nI (rd σ (90 + 3 * c) 3)) ((hI.se hc).1) ?_
  refine a_ldr (pc' := 16) (k := 9) (t := 5) (i := rd σ (90 + 3 * c) 3) hC (by decide) (ct_9 g σ) rfl (by omega) (by decide) dX6_caseFor_15 rfl ?_
  refine g_astore_n (pc' := 17) (lv' := [(3, .ref (g.2.1 (34 + 7 * (rd σ (90 + 3 * c) 3)))), (2, .ref (g.2.1 (90 + 3 * c))), (0, .ref (g.2.1 8)), (1, .int (nI c))]) hC dX6_caseFor_16 rfl rfl (by decide) rfl ?_
  refine g_aload_n (pc' := 18) (j := 0) hC dX6_caseFor_17 rfl rfl rfl ?_
  refine gf_X1_6 (pc' := 21) (b := rd σ (90 + 3 * c) 3) hC (by omega : (rd σ (90 + 3 * c) 3) < 8) wF_X6_53 dX6_caseFor_18 rfl ?_
  refine gg_topi (b := nI (rd σ (34 + 7 * (rd σ (90 + 3 * c) 3)) 6)) ((hI.sz hS).1) ?_
  refine g_aload_n (pc' := 22) (j := 1) hC dX6_caseFor_21 rfl rfl rfl ?_
  refine gf_X2_2 (pc' := 25) (b := c) hC (by omega : c < 6) wF_X6_74 dX6_caseFor_22 rfl ?_
  refine gg_topi (b := nI (rd σ (90 + 3 * c) 2)) ((hI.po hc).1) ?_
  refine n_icmp_ge (pc' := 28) (tgt := 30) hC dX6_caseFor_25 (by decide) rfl (by omega) (by omega) (fun c25 => ?_) (fun c25 => ?_)
  · skip
    have hcu := (cun_ok σ (rd σ (90 + 3 * c) 3) (rd σ (90 + 3 * c) 2) c25).2.1
    refine g_aload_n (pc' := 31) (j := 1) hC dX6_caseFor_30 rfl rfl rfl ?_
    refine g_aload_n (pc' := 32) (j := 0) hC dX6_caseFor_31 rfl rfl rfl ?_
    refine f_Vi (pc' := 35) (k := 90 + 3 * c) (st := []) hC (c_fits x.2.1 g z0 σ c ((rd σ (90 + 3 * c) 3)) (by omega) (hI.po hc) (by omega) (hI.sz hS)) k_X2_fits wM_X6_113 (by decide) (by have := (by omega : c < 6); show _ < 228; omega) (ct_cl g σ (by omega : c < 6)) rfl rfl rfl rfl (Nat.le_of_ble_eq_true rfl) dX6_caseFor_32 rfl (Nat.zero_le _) (Nat.zero_le _) ?_
    refine b_if_ne (pc' := 38) (tgt := 40) hC dX6_caseFor_35 (by decide) rfl (fun c35 => ?_) (fun c35 => ?_)
    · skip
      refine g_aload_n (pc' := 41) (j := 0) hC dX6_caseFor_40 rfl rfl rfl ?_
      refine g_aload_n (pc' := 42) (j := 1) hC dX6_caseFor_41 rfl rfl rfl ?_
      refine gf_X2_2 (pc' := 45) (b := c) hC (by omega : c < 6) wF_X6_74 dX6_caseFor_42 rfl ?_
      refine gg_topi (b := nI (rd σ (90 + 3 * c) 2)) ((hI.po hc).1) ?_
      refine f_Vi (pc' := 48) (k := 34 + 7 * (rd σ (90 + 3 * c) 3)) (st := []) hC (c_firstUnsound x.2.1 g z0 σ ((rd σ (90 + 3 * c) 3)) ((rd σ (90 + 3 * c) 2)) (by omega) (hI.sz hS) (c25)) k_X1_firstUnsound wM_X6_117 (by decide) (by have := (by omega : (rd σ (90 + 3 * c) 3) < 8); show _ < 228; omega) (ct_br g σ (by omega : (rd σ (90 + 3 * c) 3) < 8)) rfl rfl rfl rfl (Nat.le_of_ble_eq_true rfl) dX6_caseFor_45 rfl (Nat.zero_le _) (Nat.zero_le _) ?_
      refine g_aload_n (pc' := 49) (j := 0) hC dX6_caseFor_48 rfl rfl rfl ?_
      refine gf_X1_6 (pc' := 52) (b := rd σ (90 + 3 * c) 3) hC (by omega : (rd σ (90 + 3 * c) 3) < 8) wF_X6_53 dX6_caseFor_49 rfl ?_
      refine gg_topi (b := nI (rd σ (34 + 7 * (rd σ (90 + 3 * c) 3)) 6)) ((hI.sz hS).1) ?_
      refine n_icmp_gt (pc' := 55) (tgt := 57) hC dX6_caseFor_52 (by decide) rfl (by omega) (by omega) (fun c52 => ?_) (fun c52 => ?_)
      · skip
        refine g_aload_n (pc' := 58) (j := 2) hC dX6_caseFor_57 rfl rfl rfl ?_
        refine g_aload_n (pc' := 59) (j := 0) hC dX6_caseFor_58 rfl rfl rfl ?_
        refine f_Vi (pc' := 62) (k := 8) (st := []) hC (c_firstRefutedBy x.2.1 g z0 σ ((rd σ (90 + 3 * c) 3)) (by omega) (hI.sz hS) (hI.rb) (fun k hk => hI.pp hk)) k_X6_firstRefutedBy wM_X6_120 (by decide) (by decide) (ct_8 g σ) rfl rfl rfl rfl (Nat.le_of_ble_eq_true rfl) dX6_caseFor_59 rfl (Nat.zero_le _) (Nat.zero_le _) ?_
        refine g_aload_n (pc' := 63) (j := 2) hC dX6_caseFor_62 rfl rfl rfl ?_
        refine gf_X6_3 (pc' := 66) hC wF_X6_32 dX6_caseFor_63 rfl ?_
        refine gf_X4b_3 (pc' := 69) hC wF_X6_59 dX6_caseFor_66 rfl ?_
        refine gg_topi (b := nI (rd σ 13 3)) (hI.rb.1) ?_
        refine n_icmp_ge (pc' := 72) (tgt := 76) hC dX6_caseFor_69 (by decide) rfl (by omega) (by omega) (fun c69 => ?_) (fun c69 => ?_)
        · skip
          refine g_iconst (pc' := 77) (v := nI 0) hC dX6_caseFor_76 rfl rfl ?_
          refine g_ret hC dX6_caseFor_77 rfl ?_
          exact ⟨congrArg nI (cfc_0 c25 c35 c52 c69).symm, rfl⟩
        · skip
          refine g_iconst (pc' := 73) (v := nI 4) hC dX6_caseFor_72 rfl rfl ?_
          refine g_goto (tgt := 77) hC dX6_caseFor_73 (by decide) ?_
          refine g_ret hC dX6_caseFor_77 rfl ?_
          exact ⟨congrArg nI (cfc_4 c25 c35 c52 c69).symm, rfl⟩
      · skip
        refine g_iconst (pc' := 56) (v := nI 3) hC dX6_caseFor_55 rfl rfl ?_
        refine g_ret hC dX6_caseFor_56 rfl ?_
        exact ⟨congrArg nI (cfc_3 c25 c35 c52).symm, rfl⟩
    · skip
      refine g_iconst (pc' := 39) (v := nI 2) hC dX6_caseFor_38 rfl rfl ?_
      refine g_ret hC dX6_caseFor_39 rfl ?_
      exact ⟨congrArg nI (cfc_2 c25 c35).symm, rfl⟩
  · skip
    refine g_iconst (pc' := 29) (v := nI 1) hC dX6_caseFor_28 rfl rfl ?_
    refine g_ret hC dX6_caseFor_29 rfl ?_
    exact ⟨congrArg nI (cfc_1 c25).symm, rfl⟩
set_option maxHeartbeats 4000000 in
set_option maxRecDepth 20000 in
theorem c_blameService (l : Launch) (g : Lay) (z0 : Nat) (σ : St) (c : Nat) (found : Nat) (hG : GX g) (hc : c < 6) (hI : CI σ) (hf : found = cfc σ c) (hf0 : found ≠ 0)  : CTv l yX6_blameService cX6_blameService 8 3 g z0 [.ref (g.2.1 8), .int (nI c), .int (nI found)] σ (FV (cbv σ c)) := by
  refine CTv.of (by decide) (Nat.le_of_ble_eq_true rfl) ?_
  intro x hxl hxa hC
  have hC : Cx x RX6 cX6_blameService 8 none 3 g z0 := hC
  have hS : rd σ (90 + 3 * c) 3 < 8 := by have := (hI.se hc).2; omega
  have hsz2 := (hI.sz hS).2
  have hpo2 := (hI.po hc).2
  have hrb2 := hI.rb.2
  have hcf := (cfr_ok σ (rd σ (90 + 3 * c) 3)).1
  have hf5 : cfc σ c ≤ 4 := caseF_le
  show GG x g z0 8 0 0 (Qv x g z0 (FV (cbv σ c))) σ 0 [(0, .ref (g.2.1 8)), (1, .int (nI c)), (2, .int (nI found))] []
  refine g_aload_n (pc' := 1) (j := 0) hC dX6_blameService_0 rfl rfl rfl ?_
  refine gf_X6_1 (pc' := 4) hC wF_X6_19 dX6_blameService_1 rfl ?_
  refine g_iload_n (pc' := 5) (j := 1) hC dX6_blameService_4 rfl rfl rfl ?_
  refine a_ldr (pc' := 6) (k := 10) (t := 6) (i := c) hC (by decide) (ct_10 g σ) rfl (by omega) (by decide) dX6_blameService_5 rfl ?_
  refine g_astore_n (pc' := 7) (lv' := [(3, .ref (g.2.1 (90 + 3 * c))), (0, .ref (g.2.1 8)), (1, .int (nI c)), (2, .int (nI found))]) hC dX6_blameService_6 rfl rfl (by decide) rfl ?_
  refine g_aload_n (pc' := 8) (j := 1) hC dX6_blameService_7 rfl rfl rfl ?_
  refine gf_X6_0 (pc' := 11) hC wF_X6_11 dX6_blameService_8 rfl ?_
  refine g_aload_n (pc' := 12) (j := 0) hC dX6_blameService_11 rfl rfl rfl ?_
  refine gf_X2_3 (pc' := 15) (b := c) hC (by omega : c < 6) wF_X6_77 dX6_blameService_12 rfl ?_
  refine gg_topi (b := nI (rd σ (90 + 3 * c) 3)) ((hI.se hc).1) ?_
  refine a_ldr (pc' := 16) (k := 9) (t := 5) (i := rd σ (90 + 3 * c) 3) hC (by decide) (ct_9 g σ) rfl (by omega) (by decide) dX6_blameService_15 rfl ?_
  refine g_astore (pc' := 18) (lv' := [(4, .ref (g.2.1 (34 + 7 * (rd σ (90 + 3 * c) 3)))), (3, .ref (g.2.1 (90 + 3 * c))), (0, .ref (g.2.1 8)), (1, .int (nI c)), (2, .int (nI found))]) hC dX6_blameService_16 rfl (by decide) rfl ?_
  refine g_iload_n (pc' := 19) (j := 4) hC dX6_blameService_18 rfl rfl rfl ?_
  refine g_iconst (pc' := 20) (v := nI 1) hC dX6_blameService_19 rfl rfl ?_
  refine n_icmp_ne (pc' := 23) (tgt := 46) hC dX6_blameService_20 (by decide) rfl (by omega) (by omega) (fun c20 => ?_) (fun c20 => ?_)
  · skip
    refine g_iload_n (pc' := 47) (j := 4) hC dX6_blameService_46 rfl rfl rfl ?_
    refine g_iconst (pc' := 48) (v := nI 2) hC dX6_blameService_47 rfl rfl ?_
    refine n_icmp_ne (pc' := 51) (tgt := 103) hC dX6_blameService_48 (by decide) rfl (by omega) (by omega) (fun c48 => ?_) (fun c48 => ?_)
    · skip
      refine g_iload_n (pc' := 104) (j := 4) hC dX6_blameService_103 rfl rfl rfl ?_
      refine g_iconst (pc' := 105) (v := nI 3) hC dX6_blameService_104 rfl rfl ?_
      refine n_icmp_ne (pc' := 108) (tgt := 154) hC dX6_blameService_105 (by decide) rfl (by omega) (by omega) (fun c105 => ?_) (fun c105 => ?_)
      · skip
        have h4 := cfc_i4 (σ := σ) (c := c) (by omega) (by omega) (by omega) (by omega)
        have hpp4 := (hI.pp (k := cfr σ (rd σ (90 + 3 * c) 3)) (by omega)).2
        refine g_aload_n (pc' := 155) (j := 2) hC dX6_blameService_154 rfl rfl rfl ?_
        refine g_aload (pc' := 157) (j := 0) hC dX6_blameService_155 rfl rfl ?_
        refine f_Vi (pc' := 160) (k := 8) (st := []) hC (c_firstRefutedBy x.2.1 g z0 σ ((rd σ (90 + 3 * c) 3)) (by omega) (hI.sz hS) (hI.rb) (fun k hk => hI.pp hk)) k_X6_firstRefutedBy wM_X6_120 (by decide) (by decide) (ct_8 g σ) rfl rfl rfl rfl (Nat.le_of_ble_eq_true rfl) dX6_blameService_157 rfl (Nat.zero_le _) (Nat.zero_le _) ?_
        refine g_istore (pc' := 162) (lv' := [(5, .int (nI (cfr σ (rd σ (90 + 3 * c) 3)))), (4, .ref (g.2.1 (34 + 7 * (rd σ (90 + 3 * c) 3)))), (3, .ref (g.2.1 (90 + 3 * c))), (0, .ref (g.2.1 8)), (1, .int (nI c)), (2, .int (nI found))]) hC dX6_blameService_160 rfl (by decide) rfl ?_
        refine g_aload_n (pc' := 163) (j := 3) hC dX6_blameService_162 rfl rfl rfl ?_
        refine gf_X6_3 (pc' := 166) hC wF_X6_32 dX6_blameService_163 rfl ?_
        refine g_iload (pc' := 168) (j := 0) hC dX6_blameService_166 rfl rfl ?_
        refine g_iconst (pc' := 169) (v := nI 1) hC dX6_blameService_168 rfl rfl ?_
        refine f_Vi (pc' := 172) (k := 13) (st := []) hC (c_partOfb x.2.1 g z0 σ ((cfr σ (rd σ (90 + 3 * c) 3))) 1 (by omega) (by omega)) k_X4_partOf wM_X6_124 (by decide) (by decide) (ct_13 g σ) rfl rfl rfl rfl (Nat.le_of_ble_eq_true rfl) dX6_blameService_169 rfl (Nat.zero_le _) (Nat.zero_le _) ?_
        refine gg_topi (b := nI (rd σ 14 ((cfr σ (rd σ (90 + 3 * c) 3)) * 4 + 1))) ((hI.pp (by omega)).1) ?_
        refine g_aload (pc' := 174) (j := 1) hC dX6_blameService_172 rfl rfl ?_
        refine gf_X1_6 (pc' := 177) (b := rd σ (90 + 3 * c) 3) hC (by omega : (rd σ (90 + 3 * c) 3) < 8) wF_X6_53 dX6_blameService_174 rfl ?_
        refine gg_topi (b := nI (rd σ (34 + 7 * (rd σ (90 + 3 * c) 3)) 6)) ((hI.sz hS).1) ?_
        refine n_min (pc' := 180) (st := []) hC wM_X6_146 (by decide) (by omega) (by omega) (Nat.le_of_ble_eq_true rfl) dX6_blameService_177 rfl (Nat.zero_le _) (Nat.zero_le _) ?_
        refine g_istore (pc' := 182) (lv' := [(6, .int (nI (min (rd σ 14 ((cfr σ (rd σ (90 + 3 * c) 3)) * 4 + 1)) (rd σ (34 + 7 * (rd σ (90 + 3 * c) 3)) 6)))), (5, .int (nI (cfr σ (rd σ (90 + 3 * c) 3)))), (4, .ref (g.2.1 (34 + 7 * (rd σ (90 + 3 * c) 3)))), (3, .ref (g.2.1 (90 + 3 * c))), (0, .ref (g.2.1 8)), (1, .int (nI c)), (2, .int (nI found))]) hC dX6_blameService_180 rfl (by decide) rfl ?_
        refine g_aload_n (pc' := 183) (j := 4) hC dX6_blameService_182 rfl rfl rfl ?_
        refine gf_X6_3 (pc' := 186) hC wF_X6_32 dX6_blameService_183 rfl ?_
        refine g_iload (pc' := 188) (j := 1) hC dX6_blameService_186 rfl rfl ?_
        refine g_iconst (pc' := 189) (v := nI 0) hC dX6_blameService_188 rfl rfl ?_
        refine f_Vi (pc' := 192) (k := 13) (st := []) hC (c_partOfb x.2.1 g z0 σ ((cfr σ (rd σ (90 + 3 * c) 3))) 0 (by omega) (by omega)) k_X4_partOf wM_X6_124 (by decide) (by decide) (ct_13 g σ) rfl rfl rfl rfl (Nat.le_of_ble_eq_true rfl) dX6_blameService_189 rfl (Nat.zero_le _) (Nat.zero_le _) ?_
        refine g_istore (pc' := 194) (lv' := [(7, .int (σ.1 14 ((cfr σ (rd σ (90 + 3 * c) 3)) * 4 + 0))), (6, .int (nI (min (rd σ 14 ((cfr σ (rd σ (90 + 3 * c) 3)) * 4 + 1)) (rd σ (34 + 7 * (rd σ (90 + 3 * c) 3)) 6)))), (5, .int (nI (cfr σ (rd σ (90 + 3 * c) 3)))), (4, .ref (g.2.1 (34 + 7 * (rd σ (90 + 3 * c) 3)))), (3, .ref (g.2.1 (90 + 3 * c))), (0, .ref (g.2.1 8)), (1, .int (nI c)), (2, .int (nI found))]) hC dX6_blameService_192 rfl (by decide) rfl ?_
        refine g_aload_n (pc' := 195) (j := 5) hC dX6_blameService_194 rfl rfl rfl ?_
        refine g_iconst (pc' := 196) (v := nI 2) hC dX6_blameService_195 rfl rfl ?_
        refine g_iload_n (pc' := 197) (j := 6) hC dX6_blameService_196 rfl rfl rfl ?_
        refine g_iload (pc' := 199) (j := 0) hC dX6_blameService_197 rfl rfl ?_
        refine g_iload (pc' := 201) (j := 1) hC dX6_blameService_199 rfl rfl ?_
        refine g_aload (pc' := 203) (j := 3) hC dX6_blameService_201 rfl rfl ?_
        refine gf_X1_5 (pc' := 206) (b := rd σ (90 + 3 * c) 3) hC (by omega : (rd σ (90 + 3 * c) 3) < 8) wF_X6_128 dX6_blameService_203 rfl ?_
        refine g_iload (pc' := 208) (j := 1) hC dX6_blameService_206 rfl rfl ?_
        refine a_ld (pc' := 209) (k := 34 + 7 * (rd σ (90 + 3 * c) 3) + 6) (i := min (rd σ 14 ((cfr σ (rd σ (90 + 3 * c) 3)) * 4 + 1)) (rd σ (34 + 7 * (rd σ (90 + 3 * c) 3)) 6)) hC (by have := (by omega : (rd σ (90 + 3 * c) 3) < 8); show _ < 228; omega) (ct_ba g σ (by omega : (rd σ (90 + 3 * c) 3) < 8) (by decide) (by decide)) (by omega) (by decide) dX6_blameService_208 rfl ?_
        refine g_aload_n (pc' := 210) (j := 5) hC dX6_blameService_209 rfl rfl rfl ?_
        refine gf_X6_3 (pc' := 213) hC wF_X6_32 dX6_blameService_210 rfl ?_
        refine g_iload (pc' := 215) (j := 2) hC dX6_blameService_213 rfl rfl ?_
        refine g_iconst (pc' := 216) (v := nI 2) hC dX6_blameService_215 rfl rfl ?_
        refine f_Vi (pc' := 219) (k := 13) (st := [.int (σ.1 (34 + 7 * (rd σ (90 + 3 * c) 3) + 6) (min (rd σ 14 ((cfr σ (rd σ (90 + 3 * c) 3)) * 4 + 1)) (rd σ (34 + 7 * (rd σ (90 + 3 * c) 3)) 6))), .int (nI (min (rd σ 14 ((cfr σ (rd σ (90 + 3 * c) 3)) * 4 + 1)) (rd σ (34 + 7 * (rd σ (90 + 3 * c) 3)) 6))), .int (σ.1 14 ((cfr σ (rd σ (90 + 3 * c) 3)) * 4 + 0)), .int (nI c), .int (nI 2), .ref (g.2.1 8)]) hC (c_partOfb x.2.1 g z0 σ ((cfr σ (rd σ (90 + 3 * c) 3))) 2 (by omega) (by omega)) k_X4_partOf wM_X6_124 (by decide) (by decide) (ct_13 g σ) rfl rfl rfl rfl (Nat.le_of_ble_eq_true rfl) dX6_blameService_216 rfl (Nat.zero_le _) (Nat.zero_le _) ?_
        refine f_Vv (pc' := 222) (k := 8) (st := []) hC (c_addBlame x.2.1 g z0 σ ((nI 2)) ((nI c)) ((σ.1 14 ((cfr σ (rd σ (90 + 3 * c) 3)) * 4 + 0))) ((nI (min (rd σ 14 ((cfr σ (rd σ (90 + 3 * c) 3)) * 4 + 1)) (rd σ (34 + 7 * (rd σ (90 + 3 * c) 3)) 6)))) ((σ.1 (34 + 7 * (rd σ (90 + 3 * c) 3) + 6) (min (rd σ 14 ((cfr σ (rd σ (90 + 3 * c) 3)) * 4 + 1)) (rd σ (34 + 7 * (rd σ (90 + 3 * c) 3)) 6)))) ((σ.1 14 ((cfr σ (rd σ (90 + 3 * c) 3)) * 4 + 2))) (hI.ra)) k_X6_addBlame wM_X6_137 (by decide) (by decide) (ct_8 g σ) rfl rfl rfl rfl (Nat.le_of_ble_eq_true rfl) dX6_blameService_219 rfl (Nat.zero_le _) (Nat.zero_le _) ?_
        refine g_retv hC dX6_blameService_222 ?_
        exact by unfold cbv; rw [if_neg (fun z => c20 (hf.trans z)), if_neg (fun z => c48 (hf.trans z)), if_neg (fun z => c105 (hf.trans z))]; exact rfl
      · skip
        have h3 := cfc_i3 (hf.symm.trans c105)
        have h1 := cfc_i1 (σ := σ) (c := c) (by omega)
        have hcu := cun_ok σ (rd σ (90 + 3 * c) 3) (rd σ (90 + 3 * c) 2) h1
        have hcu1 := hcu.1
        refine g_aload (pc' := 110) (j := 0) hC dX6_blameService_108 rfl rfl ?_
        refine g_aload_n (pc' := 111) (j := 1) hC dX6_blameService_110 rfl rfl rfl ?_
        refine gf_X2_2 (pc' := 114) (b := c) hC (by omega : c < 6) wF_X6_74 dX6_blameService_111 rfl ?_
        refine gg_topi (b := nI (rd σ (90 + 3 * c) 2)) ((hI.po hc).1) ?_
        refine f_Vi (pc' := 117) (k := 34 + 7 * (rd σ (90 + 3 * c) 3)) (st := []) hC (c_firstUnsound x.2.1 g z0 σ ((rd σ (90 + 3 * c) 3)) ((rd σ (90 + 3 * c) 2)) (by omega) (hI.sz hS) (h1)) k_X1_firstUnsound wM_X6_117 (by decide) (by have := (by omega : (rd σ (90 + 3 * c) 3) < 8); show _ < 228; omega) (ct_br g σ (by omega : (rd σ (90 + 3 * c) 3) < 8)) rfl rfl rfl rfl (Nat.le_of_ble_eq_true rfl) dX6_blameService_114 rfl (Nat.zero_le _) (Nat.zero_le _) ?_
        refine g_aload (pc' := 119) (j := 0) hC dX6_blameService_117 rfl rfl ?_
        refine gf_X1_6 (pc' := 122) (b := rd σ (90 + 3 * c) 3) hC (by omega : (rd σ (90 + 3 * c) 3) < 8) wF_X6_53 dX6_blameService_119 rfl ?_
        refine gg_topi (b := nI (rd σ (34 + 7 * (rd σ (90 + 3 * c) 3)) 6)) ((hI.sz hS).1) ?_
        refine n_min (pc' := 125) (st := []) hC wM_X6_146 (by decide) (by omega) (by omega) (Nat.le_of_ble_eq_true rfl) dX6_blameService_122 rfl (Nat.zero_le _) (Nat.zero_le _) ?_
        refine g_istore (pc' := 127) (lv' := [(5, .int (nI (min (cun σ (rd σ (90 + 3 * c) 3) (rd σ (90 + 3 * c) 2)) (rd σ (34 + 7 * (rd σ (90 + 3 * c) 3)) 6)))), (4, .ref (g.2.1 (34 + 7 * (rd σ (90 + 3 * c) 3)))), (3, .ref (g.2.1 (90 + 3 * c))), (0, .ref (g.2.1 8)), (1, .int (nI c)), (2, .int (nI found))]) hC dX6_blameService_125 rfl (by decide) rfl ?_
        refine g_aload_n (pc' := 128) (j := 3) hC dX6_blameService_127 rfl rfl rfl ?_
        refine g_iconst (pc' := 129) (v := nI 3) hC dX6_blameService_128 rfl rfl ?_
        refine g_iload_n (pc' := 130) (j := 4) hC dX6_blameService_129 rfl rfl rfl ?_
        refine g_iconst (pc' := 131) (v := (-1)) hC dX6_blameService_130 rfl rfl ?_
        refine g_iload (pc' := 133) (j := 0) hC dX6_blameService_131 rfl rfl ?_
        refine g_aload (pc' := 135) (j := 1) hC dX6_blameService_133 rfl rfl ?_
        refine g_iload (pc' := 137) (j := 0) hC dX6_blameService_135 rfl rfl ?_
        refine f_Vi (pc' := 140) (k := 34 + 7 * (rd σ (90 + 3 * c) 3)) (st := [.int (nI (min (cun σ (rd σ (90 + 3 * c) 3) (rd σ (90 + 3 * c) 2)) (rd σ (34 + 7 * (rd σ (90 + 3 * c) 3)) 6))), .int ((-1)), .int (nI c), .int (nI 3), .ref (g.2.1 8)]) hC (c_computedHash x.2.1 g z0 σ ((rd σ (90 + 3 * c) 3)) ((min (cun σ (rd σ (90 + 3 * c) 3) (rd σ (90 + 3 * c) 2)) (rd σ (34 + 7 * (rd σ (90 + 3 * c) 3)) 6))) (by omega) (hI.sz hS) (by omega) (by omega)) k_X1_computedHash wM_X6_151 (by decide) (by have := (by omega : (rd σ (90 + 3 * c) 3) < 8); show _ < 228; omega) (ct_br g σ (by omega : (rd σ (90 + 3 * c) 3) < 8)) rfl rfl rfl rfl (Nat.le_of_ble_eq_true rfl) dX6_blameService_137 rfl (Nat.zero_le _) (Nat.zero_le _) ?_
        refine g_aload (pc' := 142) (j := 1) hC dX6_blameService_140 rfl rfl ?_
        refine gf_X1_5 (pc' := 145) (b := rd σ (90 + 3 * c) 3) hC (by omega : (rd σ (90 + 3 * c) 3) < 8) wF_X6_128 dX6_blameService_142 rfl ?_
        refine g_iload (pc' := 147) (j := 0) hC dX6_blameService_145 rfl rfl ?_
        refine a_ld (pc' := 148) (k := 34 + 7 * (rd σ (90 + 3 * c) 3) + 6) (i := min (cun σ (rd σ (90 + 3 * c) 3) (rd σ (90 + 3 * c) 2)) (rd σ (34 + 7 * (rd σ (90 + 3 * c) 3)) 6)) hC (by have := (by omega : (rd σ (90 + 3 * c) 3) < 8); show _ < 228; omega) (ct_ba g σ (by omega : (rd σ (90 + 3 * c) 3) < 8) (by decide) (by decide)) (by omega) (by decide) dX6_blameService_147 rfl ?_
        refine f_Vv (pc' := 151) (k := 8) (st := []) hC (c_addBlame x.2.1 g z0 σ ((nI 3)) ((nI c)) (((-1))) ((nI (min (cun σ (rd σ (90 + 3 * c) 3) (rd σ (90 + 3 * c) 2)) (rd σ (34 + 7 * (rd σ (90 + 3 * c) 3)) 6)))) ((ccm σ (rd σ (90 + 3 * c) 3) (min (cun σ (rd σ (90 + 3 * c) 3) (rd σ (90 + 3 * c) 2)) (rd σ (34 + 7 * (rd σ (90 + 3 * c) 3)) 6)))) ((σ.1 (34 + 7 * (rd σ (90 + 3 * c) 3) + 6) (min (cun σ (rd σ (90 + 3 * c) 3) (rd σ (90 + 3 * c) 2)) (rd σ (34 + 7 * (rd σ (90 + 3 * c) 3)) 6)))) (hI.ra)) k_X6_addBlame wM_X6_137 (by decide) (by decide) (ct_8 g σ) rfl rfl rfl rfl (Nat.le_of_ble_eq_true rfl) dX6_blameService_148 rfl (Nat.zero_le _) (Nat.zero_le _) ?_
        refine g_goto (tgt := 222) hC dX6_blameService_151 (by decide) ?_
        refine g_retv hC dX6_blameService_222 ?_
        exact by unfold cbv; rw [if_neg (fun z => c20 (hf.trans z)), if_neg (fun z => c48 (hf.trans z)), if_pos (hf.symm.trans c105)]; exact rfl
    · skip
      have hfd := (fdf_ok (σ.1 (90 + 3 * c + 1)) (σ.1 (34 + 7 * (rd σ (90 + 3 * c) 3) + 6)) (rd σ (90 + 3 * c) 2)).1
      refine g_aload_n (pc' := 52) (j := 1) hC dX6_blameService_51 rfl rfl rfl ?_
      refine gf_X2_0 (pc' := 55) (b := c) hC (by omega : c < 6) wF_X6_141 dX6_blameService_52 rfl ?_
      refine g_aload (pc' := 57) (j := 0) hC dX6_blameService_55 rfl rfl ?_
      refine gf_X1_5 (pc' := 60) (b := rd σ (90 + 3 * c) 3) hC (by omega : (rd σ (90 + 3 * c) 3) < 8) wF_X6_128 dX6_blameService_57 rfl ?_
      refine g_aload_n (pc' := 61) (j := 1) hC dX6_blameService_60 rfl rfl rfl ?_
      refine gf_X2_2 (pc' := 64) (b := c) hC (by omega : c < 6) wF_X6_74 dX6_blameService_61 rfl ?_
      refine gg_topi (b := nI (rd σ (90 + 3 * c) 2)) ((hI.po hc).1) ?_
      refine f_Ni (pc' := 67) (st := []) hC (c_firstDifference x.2.1 g z0 σ ((90 + 3 * c + 1)) ((34 + 7 * (rd σ (90 + 3 * c) 3) + 6)) ((rd σ (90 + 3 * c) 2)) (A2_ch g (by omega : c < 6)) (A2_ba g (by omega : (rd σ (90 + 3 * c) 3) < 8) (by decide) (by decide)) (by omega)) k_X9_firstDifference (wN_X6_142 hG hC) (by decide) rfl rfl (Nat.le_of_ble_eq_true rfl) dX6_blameService_64 rfl (Nat.zero_le _) (Nat.zero_le _) ?_
      refine g_aload_n (pc' := 68) (j := 1) hC dX6_blameService_67 rfl rfl rfl ?_
      refine gf_X2_2 (pc' := 71) (b := c) hC (by omega : c < 6) wF_X6_74 dX6_blameService_68 rfl ?_
      refine gg_topi (b := nI (rd σ (90 + 3 * c) 2)) ((hI.po hc).1) ?_
      refine n_min (pc' := 74) (st := []) hC wM_X6_146 (by decide) (by omega) (by omega) (Nat.le_of_ble_eq_true rfl) dX6_blameService_71 rfl (Nat.zero_le _) (Nat.zero_le _) ?_
      refine g_istore (pc' := 76) (lv' := [(5, .int (nI (min (fdf (σ.1 (90 + 3 * c + 1)) (σ.1 (34 + 7 * (rd σ (90 + 3 * c) 3) + 6)) (rd σ (90 + 3 * c) 2)) (rd σ (90 + 3 * c) 2)))), (4, .ref (g.2.1 (34 + 7 * (rd σ (90 + 3 * c) 3)))), (3, .ref (g.2.1 (90 + 3 * c))), (0, .ref (g.2.1 8)), (1, .int (nI c)), (2, .int (nI found))]) hC dX6_blameService_74 rfl (by decide) rfl ?_
      refine g_aload_n (pc' := 77) (j := 3) hC dX6_blameService_76 rfl rfl rfl ?_
      refine g_iconst (pc' := 78) (v := nI 2) hC dX6_blameService_77 rfl rfl ?_
      refine g_iload_n (pc' := 79) (j := 4) hC dX6_blameService_78 rfl rfl rfl ?_
      refine g_iconst (pc' := 80) (v := (-1)) hC dX6_blameService_79 rfl rfl ?_
      refine g_iload (pc' := 82) (j := 0) hC dX6_blameService_80 rfl rfl ?_
      refine g_aload_n (pc' := 83) (j := 2) hC dX6_blameService_82 rfl rfl rfl ?_
      refine gf_X2_0 (pc' := 86) (b := c) hC (by omega : c < 6) wF_X6_141 dX6_blameService_83 rfl ?_
      refine g_iload (pc' := 88) (j := 0) hC dX6_blameService_86 rfl rfl ?_
      refine a_ld (pc' := 89) (k := 90 + 3 * c + 1) (i := min (fdf (σ.1 (90 + 3 * c + 1)) (σ.1 (34 + 7 * (rd σ (90 + 3 * c) 3) + 6)) (rd σ (90 + 3 * c) 2)) (rd σ (90 + 3 * c) 2)) hC (by have := (by omega : c < 6); show _ < 228; omega) (ct_ch g σ (by omega : c < 6)) (by omega) (by decide) dX6_blameService_88 rfl ?_
      refine g_aload (pc' := 91) (j := 1) hC dX6_blameService_89 rfl rfl ?_
      refine gf_X1_5 (pc' := 94) (b := rd σ (90 + 3 * c) 3) hC (by omega : (rd σ (90 + 3 * c) 3) < 8) wF_X6_128 dX6_blameService_91 rfl ?_
      refine g_iload (pc' := 96) (j := 0) hC dX6_blameService_94 rfl rfl ?_
      refine a_ld (pc' := 97) (k := 34 + 7 * (rd σ (90 + 3 * c) 3) + 6) (i := min (fdf (σ.1 (90 + 3 * c + 1)) (σ.1 (34 + 7 * (rd σ (90 + 3 * c) 3) + 6)) (rd σ (90 + 3 * c) 2)) (rd σ (90 + 3 * c) 2)) hC (by have := (by omega : (rd σ (90 + 3 * c) 3) < 8); show _ < 228; omega) (ct_ba g σ (by omega : (rd σ (90 + 3 * c) 3) < 8) (by decide) (by decide)) (by omega) (by decide) dX6_blameService_96 rfl ?_
      refine f_Vv (pc' := 100) (k := 8) (st := []) hC (c_addBlame x.2.1 g z0 σ ((nI 2)) ((nI c)) (((-1))) ((nI (min (fdf (σ.1 (90 + 3 * c + 1)) (σ.1 (34 + 7 * (rd σ (90 + 3 * c) 3) + 6)) (rd σ (90 + 3 * c) 2)) (rd σ (90 + 3 * c) 2)))) ((σ.1 (90 + 3 * c + 1) (min (fdf (σ.1 (90 + 3 * c + 1)) (σ.1 (34 + 7 * (rd σ (90 + 3 * c) 3) + 6)) (rd σ (90 + 3 * c) 2)) (rd σ (90 + 3 * c) 2)))) ((σ.1 (34 + 7 * (rd σ (90 + 3 * c) 3) + 6) (min (fdf (σ.1 (90 + 3 * c + 1)) (σ.1 (34 + 7 * (rd σ (90 + 3 * c) 3) + 6)) (rd σ (90 + 3 * c) 2)) (rd σ (90 + 3 * c) 2)))) (hI.ra)) k_X6_addBlame wM_X6_137 (by decide) (by decide) (ct_8 g σ) rfl rfl rfl rfl (Nat.le_of_ble_eq_true rfl) dX6_blameService_97 rfl (Nat.zero_le _) (Nat.zero_le _) ?_
      refine g_goto (tgt := 222) hC dX6_blameService_100 (by decide) ?_
      refine g_retv hC dX6_blameService_222 ?_
      exact by unfold cbv; rw [if_neg (fun z => c20 (hf.trans z)), if_pos (hf.symm.trans c48)]; exact rfl
  · skip
    refine g_aload_n (pc' := 24) (j := 2) hC dX6_blameService_23 rfl rfl rfl ?_
    refine g_iconst (pc' := 25) (v := nI 1) hC dX6_blameService_24 rfl rfl ?_
    refine g_iload_n (pc' := 26) (j := 3) hC dX6_blameService_25 rfl rfl rfl ?_
    refine g_iconst (pc' := 27) (v := (-1)) hC dX6_blameService_26 rfl rfl ?_
    refine g_aload_n (pc' := 28) (j := 1) hC dX6_blameService_27 rfl rfl rfl ?_
    refine gf_X2_2 (pc' := 31) (b := c) hC (by omega : c < 6) wF_X6_74 dX6_blameService_28 rfl ?_
    refine gg_topi (b := nI (rd σ (90 + 3 * c) 2)) ((hI.po hc).1) ?_
    refine g_aload_n (pc' := 32) (j := 1) hC dX6_blameService_31 rfl rfl rfl ?_
    refine f_Vi (pc' := 35) (k := 90 + 3 * c) (st := [.int (nI (rd σ (90 + 3 * c) 2)), .int ((-1)), .int (nI c), .int (nI 1), .ref (g.2.1 8)]) hC (c_lastHashC x.2.1 g z0 σ c (by omega) (hI.po hc)) k_X2_lastHash wM_X6_132 (by decide) (by have := (by omega : c < 6); show _ < 228; omega) (ct_cl g σ (by omega : c < 6)) rfl rfl rfl rfl (Nat.le_of_ble_eq_true rfl) dX6_blameService_32 rfl (Nat.zero_le _) (Nat.zero_le _) ?_
    refine g_aload (pc' := 37) (j := 0) hC dX6_blameService_35 rfl rfl ?_
    refine f_Vi (pc' := 40) (k := 34 + 7 * (rd σ (90 + 3 * c) 3)) (st := [.int (σ.1 (90 + 3 * c + 1) (rd σ (90 + 3 * c) 2)), .int (nI (rd σ (90 + 3 * c) 2)), .int ((-1)), .int (nI c), .int (nI 1), .ref (g.2.1 8)]) hC (c_lastHashB x.2.1 g z0 σ ((rd σ (90 + 3 * c) 3)) (by omega) (hI.sz hS)) k_X1_lastHash wM_X6_136 (by decide) (by have := (by omega : (rd σ (90 + 3 * c) 3) < 8); show _ < 228; omega) (ct_br g σ (by omega : (rd σ (90 + 3 * c) 3) < 8)) rfl rfl rfl rfl (Nat.le_of_ble_eq_true rfl) dX6_blameService_37 rfl (Nat.zero_le _) (Nat.zero_le _) ?_
    refine f_Vv (pc' := 43) (k := 8) (st := []) hC (c_addBlame x.2.1 g z0 σ ((nI 1)) ((nI c)) (((-1))) ((nI (rd σ (90 + 3 * c) 2))) ((σ.1 (90 + 3 * c + 1) (rd σ (90 + 3 * c) 2))) ((σ.1 (34 + 7 * (rd σ (90 + 3 * c) 3) + 6) (rd σ (34 + 7 * (rd σ (90 + 3 * c) 3)) 6))) (hI.ra)) k_X6_addBlame wM_X6_137 (by decide) (by decide) (ct_8 g σ) rfl rfl rfl rfl (Nat.le_of_ble_eq_true rfl) dX6_blameService_40 rfl (Nat.zero_le _) (Nat.zero_le _) ?_
    refine g_goto (tgt := 222) hC dX6_blameService_43 (by decide) ?_
    refine g_retv hC dX6_blameService_222 ?_
    exact by unfold cbv; rw [if_pos (hf.symm.trans c20)]; exact rfl
set_option maxHeartbeats 4000000 in
set_option maxRecDepth 20000 in
theorem c_operate (l : Launch) (g : Lay) (z0 : Nat) (σ : St) (kd : Int32) (c : Nat) (w : Int32) (v : Int32) (hG : GX g) (hc : c < 6) (hI : CI σ)  : CTi l yX6_operate cX6_operate 8 (some .boolean) 4 g z0 [.ref (g.2.1 8), .int kd, .int (nI c), .int w, .int v] σ (FI (bI (cok σ c)) (coS σ c kd w v)) := by
  refine CTi.of (by decide) (Nat.le_of_ble_eq_true rfl) ?_
  intro x hxl hxa hC
  have hC : Cx x RX6 cX6_operate 8 (some .boolean) 4 g z0 := hC
  have hS : rd σ (90 + 3 * c) 3 < 8 := by have := (hI.se hc).2; omega
  have hsz2 := (hI.sz hS).2
  have hpo2 := (hI.po hc).2
  have hrb2 := hI.rb.2
  have hcf := (cfr_ok σ (rd σ (90 + 3 * c) 3)).1
  have hf5 : cfc σ c ≤ 4 := caseF_le
  show GG x g z0 8 0 0 (Qi x g z0 (FI (bI (cok σ c)) (coS σ c kd w v))) σ 0 [(0, .ref (g.2.1 8)), (1, .int kd), (2, .int (nI c)), (3, .int w), (4, .int v)] []
  refine g_aload_n (pc' := 1) (j := 0) hC dX6_operate_0 rfl rfl rfl ?_
  refine gf_X6_1 (pc' := 4) hC wF_X6_19 dX6_operate_1 rfl ?_
  refine g_iload_n (pc' := 5) (j := 2) hC dX6_operate_4 rfl rfl rfl ?_
  refine a_ldr (pc' := 6) (k := 10) (t := 6) (i := c) hC (by decide) (ct_10 g σ) rfl (by omega) (by decide) dX6_operate_5 rfl ?_
  refine g_astore (pc' := 8) (lv' := [(5, .ref (g.2.1 (90 + 3 * c))), (0, .ref (g.2.1 8)), (1, .int kd), (2, .int (nI c)), (3, .int w), (4, .int v)]) hC dX6_operate_6 rfl (by decide) rfl ?_
  refine g_aload (pc' := 10) (j := 0) hC dX6_operate_8 rfl rfl ?_
  refine gf_X2_5 (pc' := 13) (b := c) hC (by omega : c < 6) wF_X6_84 dX6_operate_10 rfl ?_
  refine g_if_eq (pc' := 16) (tgt := 18) hC dX6_operate_13 (by decide) rfl (fun c13 => ?_) (fun c13 => ?_)
  · skip
    refine g_aload_n (pc' := 19) (j := 1) hC dX6_operate_18 rfl rfl rfl ?_
    refine g_iload_n (pc' := 20) (j := 3) hC dX6_operate_19 rfl rfl rfl ?_
    refine f_Vi (pc' := 23) (k := 8) (st := []) hC (c_caseFor x.2.1 g z0 σ c (by omega) (by first | exact hI | (simp (disch := decide) only [nb, rd_uv, rd_ur, uv_cell, ur_cell]; exact hI) | omega)) k_X6_caseFor wM_X6_88 (by decide) (by decide) (ct_8 g σ) rfl rfl rfl rfl (Nat.le_of_ble_eq_true rfl) dX6_operate_20 rfl (Nat.zero_le _) (Nat.zero_le _) ?_
    refine g_istore (pc' := 25) (lv' := [(6, .int (nI (cfc σ c))), (5, .ref (g.2.1 (90 + 3 * c))), (0, .ref (g.2.1 8)), (1, .int kd), (2, .int (nI c)), (3, .int w), (4, .int v)]) hC dX6_operate_23 rfl (by decide) rfl ?_
    refine g_iload (pc' := 27) (j := 0) hC dX6_operate_25 rfl rfl ?_
    refine n_if_eq (pc' := 30) (tgt := 45) hC dX6_operate_27 (by decide) rfl (by omega) (fun c27 => ?_) (fun c27 => ?_)
    · skip
      refine g_aload_n (pc' := 46) (j := 2) hC dX6_operate_45 rfl rfl rfl ?_
      refine gf_X6_0 (pc' := 49) hC wF_X6_11 dX6_operate_46 rfl ?_
      refine g_aload (pc' := 51) (j := 1) hC dX6_operate_49 rfl rfl ?_
      refine gf_X2_3 (pc' := 54) (b := c) hC (by omega : c < 6) wF_X6_77 dX6_operate_51 rfl ?_
      refine gg_topi (b := nI (rd σ (90 + 3 * c) 3)) ((hI.se hc).1) ?_
      refine a_ldr (pc' := 55) (k := 9) (t := 5) (i := rd σ (90 + 3 * c) 3) hC (by decide) (ct_9 g σ) rfl (by omega) (by decide) dX6_operate_54 rfl ?_
      refine g_astore (pc' := 57) (lv' := [(7, .ref (g.2.1 (34 + 7 * (rd σ (90 + 3 * c) 3)))), (6, .int (nI (cfc σ c))), (5, .ref (g.2.1 (90 + 3 * c))), (0, .ref (g.2.1 8)), (1, .int kd), (2, .int (nI c)), (3, .int w), (4, .int v)]) hC dX6_operate_55 rfl (by decide) rfl ?_
      refine g_aload (pc' := 59) (j := 0) hC dX6_operate_57 rfl rfl ?_
      refine f_Vi (pc' := 62) (k := 34 + 7 * (rd σ (90 + 3 * c) 3)) (st := []) hC (c_isFull x.2.1 g z0 σ ((rd σ (90 + 3 * c) 3)) (by omega) (hI.sz hS)) k_X1_isFull wM_X6_94 (by decide) (by have := (by omega : (rd σ (90 + 3 * c) 3) < 8); show _ < 228; omega) (ct_br g σ (by omega : (rd σ (90 + 3 * c) 3) < 8)) rfl rfl rfl rfl (Nat.le_of_ble_eq_true rfl) dX6_operate_59 rfl (Nat.zero_le _) (Nat.zero_le _) ?_
      refine b_if_eq (pc' := 65) (tgt := 67) hC dX6_operate_62 (by decide) rfl (fun c62 => ?_) (fun c62 => ?_)
      · skip
        have hcs := cap_size σ (rd σ (90 + 3 * c) 3) kd (nI c) w v (nI 0) (by omega)
        refine g_aload (pc' := 69) (j := 0) hC dX6_operate_67 rfl rfl ?_
        refine g_iload_n (pc' := 70) (j := 4) hC dX6_operate_69 rfl rfl rfl ?_
        refine g_iload_n (pc' := 71) (j := 5) hC dX6_operate_70 rfl rfl rfl ?_
        refine g_iload_n (pc' := 72) (j := 6) hC dX6_operate_71 rfl rfl rfl ?_
        refine g_iload (pc' := 74) (j := 7) hC dX6_operate_72 rfl rfl ?_
        refine g_iconst (pc' := 75) (v := nI 0) hC dX6_operate_74 rfl rfl ?_
        refine f_Vv (pc' := 78) (k := 34 + 7 * (rd σ (90 + 3 * c) 3)) (st := []) hC (c_append x.2.1 g z0 σ ((rd σ (90 + 3 * c) 3)) kd ((nI c)) w v ((nI 0)) (by omega) (hI.sz hS) (by omega)) k_X1_append wM_X6_98 (by decide) (by have := (by omega : (rd σ (90 + 3 * c) 3) < 8); show _ < 228; omega) (ct_br g σ (by omega : (rd σ (90 + 3 * c) 3) < 8)) rfl rfl rfl rfl (Nat.le_of_ble_eq_true rfl) dX6_operate_75 rfl (Nat.zero_le _) (Nat.zero_le _) ?_
        refine g_aload (pc' := 80) (j := 2) hC dX6_operate_78 rfl rfl ?_
        refine g_aload (pc' := 82) (j := 0) hC dX6_operate_80 rfl rfl ?_
        refine f_Vv (pc' := 85) (k := 90 + 3 * c) (st := []) hC (c_takeHistory x.2.1 g z0 (cap σ (rd σ (90 + 3 * c) 3) kd (nI c) w v (nI 0)) c ((rd σ (90 + 3 * c) 3)) (by omega) (by omega) (hcs.1)) k_X2_takeHistory wM_X6_102 (by decide) (by have := (by omega : c < 6); show _ < 228; omega) (ct_cl g (cap σ (rd σ (90 + 3 * c) 3) kd (nI c) w v (nI 0)) (by omega : c < 6)) rfl rfl rfl rfl (Nat.le_of_ble_eq_true rfl) dX6_operate_82 rfl (Nat.zero_le _) (Nat.zero_le _) ?_
        refine g_aload (pc' := 87) (j := 2) hC dX6_operate_85 rfl rfl ?_
        refine g_dup (pc' := 88) hC dX6_operate_87 rfl rfl ?_
        refine gf_X2_4 (pc' := 91) (b := c) hC (by omega : c < 6) wF_X6_106 dX6_operate_88 rfl ?_
        refine g_iconst (pc' := 92) (v := nI 1) hC dX6_operate_91 rfl rfl ?_
        refine g_iadd (pc' := 93) hC dX6_operate_92 rfl ?_
        refine pf_X2_4 (pc' := 96) (b := c) hC (by omega : c < 6) wF_X6_106 dX6_operate_93 rfl ?_
        refine g_aload_n (pc' := 97) (j := 3) hC dX6_operate_96 rfl rfl rfl ?_
        refine gf_X6_7 (pc' := 100) hC wF_X6_35 dX6_operate_97 rfl ?_
        refine gg_topi (b := (cth (cap σ (rd σ (90 + 3 * c) 3) kd (nI c) w v (nI 0)) c (rd σ (90 + 3 * c) 3)).1 8 7) (uv_cell _ _ _ _ (by omega)) ?_
        refine g_if_le (pc' := 103) (tgt := 121) hC dX6_operate_100 (by decide) rfl (fun c100 => ?_) (fun c100 => ?_)
        · skip
          refine g_iconst (pc' := 122) (v := nI 1) hC dX6_operate_121 rfl rfl ?_
          refine g_ret hC dX6_operate_122 rfl ?_
          exact ⟨(bI_t ⟨c13, c27, c62⟩).symm, by unfold coS; rw [cI_t c13, cI_t c27, cI_f c62, cI_f (fun z => z.1 c100)]; rfl⟩
        · skip
          refine g_aload (pc' := 105) (j := 2) hC dX6_operate_103 rfl rfl ?_
          refine gf_X2_4 (pc' := 108) (b := c) hC (by omega : c < 6) wF_X6_106 dX6_operate_105 rfl ?_
          refine gg_topi (b := ((cth (cap σ (rd σ (90 + 3 * c) 3) kd (nI c) w v (nI 0)) c (rd σ (90 + 3 * c) 3)).1 (90 + 3 * c) 4) + (nI 1)) (uv_same _ _ _ _) ?_
          refine g_aload_n (pc' := 109) (j := 3) hC dX6_operate_108 rfl rfl rfl ?_
          refine gf_X6_7 (pc' := 112) hC wF_X6_35 dX6_operate_109 rfl ?_
          refine gg_topi (b := (cth (cap σ (rd σ (90 + 3 * c) 3) kd (nI c) w v (nI 0)) c (rd σ (90 + 3 * c) 3)).1 8 7) (uv_cell _ _ _ _ (by omega)) ?_
          refine g_irem (pc' := 113) hC dX6_operate_112 rfl (fun z => c100 (by rw [z]; decide)) ?_
          refine g_if_ne (pc' := 116) (tgt := 121) hC dX6_operate_113 (by decide) rfl (fun c113 => ?_) (fun c113 => ?_)
          · skip
            refine g_iconst (pc' := 122) (v := nI 1) hC dX6_operate_121 rfl rfl ?_
            refine g_ret hC dX6_operate_122 rfl ?_
            exact ⟨(bI_t ⟨c13, c27, c62⟩).symm, by unfold coS; rw [cI_t c13, cI_t c27, cI_f c62, cI_f (fun z => c113 z.2)]; rfl⟩
          · skip
            refine g_aload_n (pc' := 117) (j := 3) hC dX6_operate_116 rfl rfl rfl ?_
            refine g_iload_n (pc' := 118) (j := 5) hC dX6_operate_117 rfl rfl rfl ?_
            refine f_Vv (pc' := 121) (k := 8) (st := []) hC (c_addPost x.2.1 g z0 (uv (cth (cap σ (rd σ (90 + 3 * c) 3) kd (nI c) w v (nI 0)) c (rd σ (90 + 3 * c) 3)) (90 + 3 * c) 4 (((cth (cap σ (rd σ (90 + 3 * c) 3) kd (nI c) w v (nI 0)) c (rd σ (90 + 3 * c) 3)).1 (90 + 3 * c) 4) + (nI 1))) c (by omega) (cX_po hI hc kd w v c62) (nb_cg (cX_o hI hc kd w v 3 (by decide)) hI.rb hI.rb.2)) k_X6_addPost wM_X6_109 (by decide) (by decide) (ct_8 g (uv (cth (cap σ (rd σ (90 + 3 * c) 3) kd (nI c) w v (nI 0)) c (rd σ (90 + 3 * c) 3)) (90 + 3 * c) 4 (((cth (cap σ (rd σ (90 + 3 * c) 3) kd (nI c) w v (nI 0)) c (rd σ (90 + 3 * c) 3)).1 (90 + 3 * c) 4) + (nI 1)))) rfl rfl rfl rfl (Nat.le_of_ble_eq_true rfl) dX6_operate_118 rfl (Nat.zero_le _) (Nat.zero_le _) ?_
            refine g_iconst (pc' := 122) (v := nI 1) hC dX6_operate_121 rfl rfl ?_
            refine g_ret hC dX6_operate_122 rfl ?_
            exact ⟨(bI_t ⟨c13, c27, c62⟩).symm, by unfold coS; rw [cI_t c13, cI_t c27, cI_f c62, cI_t ⟨c100, c113⟩]; rfl⟩
      · skip
        refine g_iconst (pc' := 66) (v := nI 0) hC dX6_operate_65 rfl rfl ?_
        refine g_ret hC dX6_operate_66 rfl ?_
        exact ⟨(bI_f (fun z => z.2.2 c62)).symm, by unfold coS; rw [cI_t c13, cI_t c27, cI_t c62]⟩
    · skip
      refine g_aload_n (pc' := 31) (j := 2) hC dX6_operate_30 rfl rfl rfl ?_
      refine g_iload_n (pc' := 32) (j := 4) hC dX6_operate_31 rfl rfl rfl ?_
      refine g_iload (pc' := 34) (j := 0) hC dX6_operate_32 rfl rfl ?_
      refine f_Vv (pc' := 37) (k := 8) (st := []) hC (c_blameService x.2.1 g z0 σ c ((cfc σ c)) (hG) (by omega) (by first | exact hI | (simp (disch := decide) only [nb, rd_uv, rd_ur, uv_cell, ur_cell]; exact hI) | omega) (rfl) (c27)) k_X6_blameService wM_X6_91 (by decide) (by decide) (ct_8 g σ) rfl rfl rfl rfl (Nat.le_of_ble_eq_true rfl) dX6_operate_34 rfl (Nat.zero_le _) (Nat.zero_le _) ?_
      refine g_aload (pc' := 39) (j := 1) hC dX6_operate_37 rfl rfl ?_
      refine g_iconst (pc' := 40) (v := nI 1) hC dX6_operate_39 rfl rfl ?_
      refine pf_X2_5 (pc' := 43) (b := c) hC (by omega : c < 6) rfl rfl wF_X6_84 dX6_operate_40 rfl ?_
      refine g_iconst (pc' := 44) (v := nI 0) hC dX6_operate_43 rfl rfl ?_
      refine g_ret hC dX6_operate_44 rfl ?_
      exact ⟨(bI_f (fun z => c27 z.2.1)).symm, by unfold coS; rw [cI_t c13, cI_f c27]⟩
  · skip
    refine g_iconst (pc' := 17) (v := nI 0) hC dX6_operate_16 rfl rfl ?_
    refine g_ret hC dX6_operate_17 rfl ?_
    exact ⟨(bI_f (fun z => c13 z.1)).symm, by unfold coS; rw [cI_f c13]⟩
set_option maxHeartbeats 4000000 in
set_option maxRecDepth 20000 in
theorem c_doWrite (l : Launch) (g : Lay) (z0 : Nat) (σ : St) (c : Int32) (w : Int32) (v : Int32) (hG : GX g) (hI : CI σ)  : CTi l yX6_doWrite cX6_doWrite 4 (some .int) 5 g z0 [.ref (g.2.1 8), .int c, .int w, .int v] σ (FI ((cwr σ c w v).1) ((cwr σ c w v).2)) := by
  refine CTi.of (by decide) (Nat.le_of_ble_eq_true rfl) ?_
  intro x hxl hxa hC
  have hC : Cx x RX6 cX6_doWrite 4 (some .int) 5 g z0 := hC
  show GG x g z0 4 0 0 (Qi x g z0 (FI ((cwr σ c w v).1) ((cwr σ c w v).2))) σ 0 [(0, .ref (g.2.1 8)), (1, .int c), (2, .int w), (3, .int v)] []
  refine g_aload_n (pc' := 1) (j := 0) hC dX6_doWrite_0 rfl rfl rfl ?_
  refine g_iload_n (pc' := 2) (j := 1) hC dX6_doWrite_1 rfl rfl rfl ?_
  refine f_Vi (pc' := 5) (k := 8) (st := []) hC (c_hasClient x.2.1 g z0 σ c (hI.nc)) k_X6_hasClient wM_X6_62 (by decide) (by decide) (ct_8 g σ) rfl rfl rfl rfl (Nat.le_of_ble_eq_true rfl) dX6_doWrite_2 rfl (Nat.zero_le _) (Nat.zero_le _) ?_
  refine b_if_eq (pc' := 8) (tgt := 16) hC dX6_doWrite_5 (by decide) rfl (fun c5 => ?_) (fun c5 => ?_)
  · skip
    refine g_iconst (pc' := 17) (v := (-1)) hC dX6_doWrite_16 rfl rfl ?_
    refine g_ret hC dX6_doWrite_17 rfl ?_
    exact ⟨by unfold cwr; rw [cI_f (fun z => c5 z.1)], by unfold cwr; rw [cI_f (fun z => c5 z.1)]⟩
  · skip
    refine g_aload_n (pc' := 9) (j := 0) hC dX6_doWrite_8 rfl rfl rfl ?_
    refine g_iload_n (pc' := 10) (j := 2) hC dX6_doWrite_9 rfl rfl rfl ?_
    refine f_Vi (pc' := 13) (k := 8) (st := []) hC (c_hasBlock x.2.1 g z0 σ w (hI.nk)) k_X6_hasBlock wM_X6_66 (by decide) (by decide) (ct_8 g σ) rfl rfl rfl rfl (Nat.le_of_ble_eq_true rfl) dX6_doWrite_10 rfl (Nat.zero_le _) (Nat.zero_le _) ?_
    refine b_if_ne (pc' := 16) (tgt := 18) hC dX6_doWrite_13 (by decide) rfl (fun c13 => ?_) (fun c13 => ?_)
    · skip
      refine g_iload_n (pc' := 19) (j := 3) hC dX6_doWrite_18 rfl rfl rfl ?_
      refine g_if_lt (pc' := 22) (tgt := 28) hC dX6_doWrite_19 (by decide) rfl (fun c19 => ?_) (fun c19 => ?_)
      · skip
        refine g_bipush (pc' := 30) (v := (-2)) hC dX6_doWrite_28 rfl rfl ?_
        refine g_ret hC dX6_doWrite_30 rfl ?_
        exact ⟨by unfold cwr; rw [cI_t (⟨c5, c13⟩), cI_f (fun z => z.1 c19)], by unfold cwr; rw [cI_t (⟨c5, c13⟩), cI_f (fun z => z.1 c19)]⟩
      · skip
        refine g_iload_n (pc' := 23) (j := 3) hC dX6_doWrite_22 rfl rfl rfl ?_
        refine g_ldc (pc' := 25) (v := 999999) hC wC_X6_69 dX6_doWrite_23 rfl ?_
        refine gg_topi (b := nI 999999) rfl ?_
        refine g_icmp_le (pc' := 28) (tgt := 31) hC dX6_doWrite_25 (by decide) rfl (fun c25 => ?_) (fun c25 => ?_)
        · skip
          obtain ⟨hcN, hcNL⟩ := vl2_n (by have := hI.nc.2; omega) c5
          have hcNM := hI.nc.2
          refine gg_lve (lv' := [(0, .ref (g.2.1 8)), (1, .int (nI (cn c))), (2, .int w), (3, .int v)]) (by rw [← hcN]) ?_
          refine g_aload_n (pc' := 32) (j := 0) hC dX6_doWrite_31 rfl rfl rfl ?_
          refine g_iconst (pc' := 33) (v := nI 1) hC dX6_doWrite_32 rfl rfl ?_
          refine g_iload_n (pc' := 34) (j := 1) hC dX6_doWrite_33 rfl rfl rfl ?_
          refine g_iload_n (pc' := 35) (j := 2) hC dX6_doWrite_34 rfl rfl rfl ?_
          refine g_iload_n (pc' := 36) (j := 3) hC dX6_doWrite_35 rfl rfl rfl ?_
          refine f_Vi (pc' := 39) (k := 8) (st := []) hC (c_operate x.2.1 g z0 σ ((nI 1)) ((cn c)) w v (hG) (by omega) (by first | exact hI | (simp (disch := decide) only [nb, rd_uv, rd_ur, uv_cell, ur_cell]; exact hI) | omega)) k_X6_operate wM_X6_70 (by decide) (by decide) (ct_8 g σ) rfl rfl rfl rfl (Nat.le_of_ble_eq_true rfl) dX6_doWrite_36 rfl (Nat.zero_le _) (Nat.zero_le _) ?_
          refine b_if_eq (pc' := 42) (tgt := 54) hC dX6_doWrite_39 (by decide) rfl (fun c39 => ?_) (fun c39 => ?_)
          · skip
            refine g_bipush (pc' := 56) (v := (-3)) hC dX6_doWrite_54 rfl rfl ?_
            refine g_ret hC dX6_doWrite_56 rfl ?_
            exact ⟨by unfold cwr; rw [cI_t (⟨c5, c13⟩), cI_t (⟨c19, c25⟩), cI_f (c39)], by unfold cwr; rw [cI_t (⟨c5, c13⟩), cI_t (⟨c19, c25⟩), cI_f (c39)]⟩
          · skip
            refine g_aload_n (pc' := 43) (j := 0) hC dX6_doWrite_42 rfl rfl rfl ?_
            refine gf_X6_1 (pc' := 46) hC wF_X6_19 dX6_doWrite_43 rfl ?_
            refine g_iload_n (pc' := 47) (j := 1) hC dX6_doWrite_46 rfl rfl rfl ?_
            refine a_ldr (pc' := 48) (k := 10) (t := 6) (i := cn c) hC (by decide) (ct_10 g (coS σ (cn c) (nI 1) w v)) rfl (by omega) (by decide) dX6_doWrite_47 rfl ?_
            refine gf_X2_2 (pc' := 51) (b := cn c) hC (by omega : (cn c) < 6) wF_X6_74 dX6_doWrite_48 rfl ?_
            refine g_goto (tgt := 56) hC dX6_doWrite_51 (by decide) ?_
            refine g_ret hC dX6_doWrite_56 rfl ?_
            exact ⟨by unfold cwr; rw [cI_t (⟨c5, c13⟩), cI_t (⟨c19, c25⟩), cI_t (c39)], by unfold cwr; rw [cI_t (⟨c5, c13⟩), cI_t (⟨c19, c25⟩), cI_t (c39)]⟩
        · skip
          refine g_bipush (pc' := 30) (v := (-2)) hC dX6_doWrite_28 rfl rfl ?_
          refine g_ret hC dX6_doWrite_30 rfl ?_
          exact ⟨by unfold cwr; rw [cI_t (⟨c5, c13⟩), cI_f (fun z => c25 z.2)], by unfold cwr; rw [cI_t (⟨c5, c13⟩), cI_f (fun z => c25 z.2)]⟩
    · skip
      refine g_iconst (pc' := 17) (v := (-1)) hC dX6_doWrite_16 rfl rfl ?_
      refine g_ret hC dX6_doWrite_17 rfl ?_
      exact ⟨by unfold cwr; rw [cI_f (fun z => c13 z.2)], by unfold cwr; rw [cI_f (fun z => c13 z.2)]⟩
set_option maxHeartbeats 4000000 in
set_option maxRecDepth 20000 in
theorem c_doRead (l : Launch) (g : Lay) (z0 : Nat) (σ : St) (c : Int32) (w : Int32) (hG : GX g) (hI : CI σ)  : CTi l yX6_doRead cX6_doRead 3 (some .int) 5 g z0 [.ref (g.2.1 8), .int c, .int w] σ (FI ((crd σ c w).1) ((crd σ c w).2)) := by
  refine CTi.of (by decide) (Nat.le_of_ble_eq_true rfl) ?_
  intro x hxl hxa hC
  have hC : Cx x RX6 cX6_doRead 3 (some .int) 5 g z0 := hC
  show GG x g z0 3 0 0 (Qi x g z0 (FI ((crd σ c w).1) ((crd σ c w).2))) σ 0 [(0, .ref (g.2.1 8)), (1, .int c), (2, .int w)] []
  refine g_aload_n (pc' := 1) (j := 0) hC dX6_doRead_0 rfl rfl rfl ?_
  refine g_iload_n (pc' := 2) (j := 1) hC dX6_doRead_1 rfl rfl rfl ?_
  refine f_Vi (pc' := 5) (k := 8) (st := []) hC (c_hasClient x.2.1 g z0 σ c (hI.nc)) k_X6_hasClient wM_X6_62 (by decide) (by decide) (ct_8 g σ) rfl rfl rfl rfl (Nat.le_of_ble_eq_true rfl) dX6_doRead_2 rfl (Nat.zero_le _) (Nat.zero_le _) ?_
  refine b_if_eq (pc' := 8) (tgt := 16) hC dX6_doRead_5 (by decide) rfl (fun c5 => ?_) (fun c5 => ?_)
  · skip
    refine g_iconst (pc' := 17) (v := (-1)) hC dX6_doRead_16 rfl rfl ?_
    refine g_ret hC dX6_doRead_17 rfl ?_
    exact ⟨by unfold crd; rw [cI_f (fun z => c5 z.1)], by unfold crd; rw [cI_f (fun z => c5 z.1)]⟩
  · skip
    refine g_aload_n (pc' := 9) (j := 0) hC dX6_doRead_8 rfl rfl rfl ?_
    refine g_iload_n (pc' := 10) (j := 2) hC dX6_doRead_9 rfl rfl rfl ?_
    refine f_Vi (pc' := 13) (k := 8) (st := []) hC (c_hasBlock x.2.1 g z0 σ w (hI.nk)) k_X6_hasBlock wM_X6_66 (by decide) (by decide) (ct_8 g σ) rfl rfl rfl rfl (Nat.le_of_ble_eq_true rfl) dX6_doRead_10 rfl (Nat.zero_le _) (Nat.zero_le _) ?_
    refine b_if_ne (pc' := 16) (tgt := 18) hC dX6_doRead_13 (by decide) rfl (fun c13 => ?_) (fun c13 => ?_)
    · skip
      obtain ⟨hcN, hcNL⟩ := vl2_n (by have := hI.nc.2; omega) c5
      have hcNM := hI.nc.2
      refine gg_lve (lv' := [(0, .ref (g.2.1 8)), (1, .int (nI (cn c))), (2, .int w)]) (by rw [← hcN]) ?_
      refine g_aload_n (pc' := 19) (j := 0) hC dX6_doRead_18 rfl rfl rfl ?_
      refine g_iconst (pc' := 20) (v := nI 0) hC dX6_doRead_19 rfl rfl ?_
      refine g_iload_n (pc' := 21) (j := 1) hC dX6_doRead_20 rfl rfl rfl ?_
      refine g_iload_n (pc' := 22) (j := 2) hC dX6_doRead_21 rfl rfl rfl ?_
      refine g_iconst (pc' := 23) (v := nI 0) hC dX6_doRead_22 rfl rfl ?_
      refine f_Vi (pc' := 26) (k := 8) (st := []) hC (c_operate x.2.1 g z0 σ ((nI 0)) ((cn c)) w ((nI 0)) (hG) (by omega) (by first | exact hI | (simp (disch := decide) only [nb, rd_uv, rd_ur, uv_cell, ur_cell]; exact hI) | omega)) k_X6_operate wM_X6_70 (by decide) (by decide) (ct_8 g σ) rfl rfl rfl rfl (Nat.le_of_ble_eq_true rfl) dX6_doRead_23 rfl (Nat.zero_le _) (Nat.zero_le _) ?_
      refine b_if_eq (pc' := 29) (tgt := 50) hC dX6_doRead_26 (by decide) rfl (fun c26 => ?_) (fun c26 => ?_)
      · skip
        refine g_bipush (pc' := 52) (v := (-3)) hC dX6_doRead_50 rfl rfl ?_
        refine g_ret hC dX6_doRead_52 rfl ?_
        exact ⟨by unfold crd; rw [cI_t (⟨c5, c13⟩), cI_f (c26)], by unfold crd; rw [cI_t (⟨c5, c13⟩), cI_f (c26)]⟩
      · skip
        have hse : nb (coS σ (cn c) (nI 0) w (nI 0)) (90 + 3 * cn c) 3 7 := nb_cg (coS_se hI (by omega) _ _ _ _ (by omega)) (hI.se (by omega)) (hI.se (by omega)).2
        have hse2 := hse.2
        refine g_aload_n (pc' := 30) (j := 0) hC dX6_doRead_29 rfl rfl rfl ?_
        refine gf_X6_0 (pc' := 33) hC wF_X6_11 dX6_doRead_30 rfl ?_
        refine g_aload_n (pc' := 34) (j := 0) hC dX6_doRead_33 rfl rfl rfl ?_
        refine gf_X6_1 (pc' := 37) hC wF_X6_19 dX6_doRead_34 rfl ?_
        refine g_iload_n (pc' := 38) (j := 1) hC dX6_doRead_37 rfl rfl rfl ?_
        refine a_ldr (pc' := 39) (k := 10) (t := 6) (i := cn c) hC (by decide) (ct_10 g (coS σ (cn c) (nI 0) w (nI 0))) rfl (by omega) (by decide) dX6_doRead_38 rfl ?_
        refine gf_X2_3 (pc' := 42) (b := cn c) hC (by omega : (cn c) < 6) wF_X6_77 dX6_doRead_39 rfl ?_
        refine gg_topi (b := nI (rd (coS σ (cn c) (nI 0) w (nI 0)) (90 + 3 * cn c) 3)) (hse.1) ?_
        refine a_ldr (pc' := 43) (k := 9) (t := 5) (i := rd (coS σ (cn c) (nI 0) w (nI 0)) (90 + 3 * cn c) 3) hC (by decide) (ct_9 g (coS σ (cn c) (nI 0) w (nI 0))) rfl (by omega) (by decide) dX6_doRead_42 rfl ?_
        refine g_iload_n (pc' := 44) (j := 2) hC dX6_doRead_43 rfl rfl rfl ?_
        refine f_Vi (pc' := 47) (k := 34 + 7 * (rd (coS σ (cn c) (nI 0) w (nI 0)) (90 + 3 * cn c) 3)) (st := []) hC (c_lastValue x.2.1 g z0 (coS σ (cn c) (nI 0) w (nI 0)) ((rd (coS σ (cn c) (nI 0) w (nI 0)) (90 + 3 * cn c) 3)) w (by omega) (coS_sz hI (by omega) _ _ _ (by omega))) k_X1_lastValue wM_X6_80 (by decide) (by have := (by omega : (rd (coS σ (cn c) (nI 0) w (nI 0)) (90 + 3 * cn c) 3) < 8); show _ < 228; omega) (ct_br g (coS σ (cn c) (nI 0) w (nI 0)) (by omega : (rd (coS σ (cn c) (nI 0) w (nI 0)) (90 + 3 * cn c) 3) < 8)) rfl rfl rfl rfl (Nat.le_of_ble_eq_true rfl) dX6_doRead_44 rfl (Nat.zero_le _) (Nat.zero_le _) ?_
        refine g_goto (tgt := 52) hC dX6_doRead_47 (by decide) ?_
        refine g_ret hC dX6_doRead_52 rfl ?_
        exact ⟨by unfold crd; rw [cI_t (⟨c5, c13⟩), cI_t (c26)], by unfold crd; rw [cI_t (⟨c5, c13⟩), cI_t (c26)]⟩
    · skip
      refine g_iconst (pc' := 17) (v := (-1)) hC dX6_doRead_16 rfl rfl ?_
      refine g_ret hC dX6_doRead_17 rfl ?_
      exact ⟨by unfold crd; rw [cI_f (fun z => c13 z.2)], by unfold crd; rw [cI_f (fun z => c13 z.2)]⟩
