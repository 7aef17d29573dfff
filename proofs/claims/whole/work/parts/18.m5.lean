set_option maxHeartbeats 4000000 in
set_option maxRecDepth 20000 in
theorem m_suspects (l : Launch) (g : Lay) (z0 : Nat) (σ : St) (c : Nat) (w : Nat) (hc : c < 6) (hM : MI σ) (hw1 : 1 ≤ w) (hw4 : w ≤ 4) (hf : nb σ 15 24 200) (h3 : w = 3 → 1 ≤ rd σ 15 24) (h4 : w = 4 → rd σ 15 24 < 40)  : CTv l yX10_suspects cX10_suspects 5 3 g z0 [.ref (g.2.1 15), .int (nI c), .int (nI w)] σ (FV (msus σ c w)) := by
  refine CTv.of (by decide) (Nat.le_of_ble_eq_true rfl) ?_
  intro x hxl hxa hC
  have hC : Cx x RX10 cX10_suspects 5 none 3 g z0 := hC
  have hs := hM.see hc
  have hs2 := hs.2
  have hl := hM.len (b := rd σ 23 c) (by omega)
  have hl2 := hl.2
  have hf2 := hf.2
  have hB := hM.blms
  show GG x g z0 5 0 0 (Qv x g z0 (FV (msus σ c w))) σ 0 [(0, .ref (g.2.1 15)), (1, .int (nI c)), (2, .int (nI w))] []
  refine g_aload_n (pc' := 1) (j := 0) hC dX10_suspects_0 rfl rfl rfl ?_
  refine gf_X10_13 (pc' := 4) hC wF_X10_31 dX10_suspects_1 rfl ?_
  refine g_iload_n (pc' := 5) (j := 1) hC dX10_suspects_4 rfl rfl rfl ?_
  refine a_ld (pc' := 6) (k := 23) (i := c) hC (by decide) (ct_23 g σ) (by omega) (by decide) dX10_suspects_5 rfl ?_
  refine gg_topi (b := nI (rd σ 23 c)) (hs.1) ?_
  refine g_istore_n (pc' := 7) (lv' := [(3, .int (nI (rd σ 23 c))), (0, .ref (g.2.1 15)), (1, .int (nI c)), (2, .int (nI w))]) hC dX10_suspects_6 rfl rfl (by decide) rfl ?_
  refine g_aload_n (pc' := 8) (j := 1) hC dX10_suspects_7 rfl rfl rfl ?_
  refine gf_X10_24 (pc' := 11) hC wF_X10_143 dX10_suspects_8 rfl ?_
  refine gg_topi (b := nI (rd σ 15 24)) (hf.1) ?_
  refine g_istore (pc' := 13) (lv' := [(4, .int (nI (rd σ 15 24))), (3, .int (nI (rd σ 23 c))), (0, .ref (g.2.1 15)), (1, .int (nI c)), (2, .int (nI w))]) hC dX10_suspects_11 rfl (by decide) rfl ?_
  refine g_iload_n (pc' := 14) (j := 4) hC dX10_suspects_13 rfl rfl rfl ?_
  by_cases t14_1 : w = 1
  · skip
    refine n_tswIn (tgt := 40) hC dX10_suspects_14 t14_1 (by decide) (by decide) (by decide) rfl (by decide) ?_
    refine g_aload_n (pc' := 41) (j := 2) hC dX10_suspects_40 rfl rfl rfl ?_
    refine g_iconst (pc' := 42) (v := nI 1) hC dX10_suspects_41 rfl rfl ?_
    refine g_iload_n (pc' := 43) (j := 3) hC dX10_suspects_42 rfl rfl rfl ?_
    refine g_iconst (pc' := 44) (v := (-1)) hC dX10_suspects_43 rfl rfl ?_
    refine g_iload (pc' := 46) (j := 0) hC dX10_suspects_44 rfl rfl ?_
    refine g_aload_n (pc' := 47) (j := 2) hC dX10_suspects_46 rfl rfl rfl ?_
    refine g_iload_n (pc' := 48) (j := 3) hC dX10_suspects_47 rfl rfl rfl ?_
    refine g_iload (pc' := 50) (j := 0) hC dX10_suspects_48 rfl rfl ?_
    refine f_Vi (pc' := 53) (k := 15) (st := [.int (nI (rd σ 15 24)), .int ((-1)), .int (nI c), .int (nI 1), .ref (g.2.1 15)]) hC (m_hashIn x.2.1 g z0 σ c ((rd σ 15 24)) (by omega) (by omega)) k_X10_hashIn wM_X10_90 (by decide) (by decide) (ct_15 g σ) rfl rfl rfl rfl (Nat.le_of_ble_eq_true rfl) dX10_suspects_50 rfl (Nat.zero_le _) (Nat.zero_le _) ?_
    refine g_aload_n (pc' := 54) (j := 2) hC dX10_suspects_53 rfl rfl rfl ?_
    refine g_iload_n (pc' := 55) (j := 1) hC dX10_suspects_54 rfl rfl rfl ?_
    refine g_aload_n (pc' := 56) (j := 2) hC dX10_suspects_55 rfl rfl rfl ?_
    refine gf_X10_6 (pc' := 59) hC wF_X10_7 dX10_suspects_56 rfl ?_
    refine g_iload_n (pc' := 60) (j := 1) hC dX10_suspects_59 rfl rfl rfl ?_
    refine a_ld (pc' := 61) (k := 16) (i := rd σ 23 c) hC (by decide) (ct_16 g σ) (by omega) (by decide) dX10_suspects_60 rfl ?_
    refine gg_topi (b := nI (rd σ 16 (rd σ 23 c))) (hl.1) ?_
    refine f_Vi (pc' := 64) (k := 15) (st := [.int (σ.1 27 (201 * c + (rd σ 15 24))), .int (nI (rd σ 15 24)), .int ((-1)), .int (nI c), .int (nI 1), .ref (g.2.1 15)]) hC (m_hashOf x.2.1 g z0 σ ((rd σ 23 c)) ((rd σ 16 (rd σ 23 c))) (by omega) (by omega)) k_X10_hashOf wM_X10_95 (by decide) (by decide) (ct_15 g σ) rfl rfl rfl rfl (Nat.le_of_ble_eq_true rfl) dX10_suspects_61 rfl (Nat.zero_le _) (Nat.zero_le _) ?_
    refine f_Vv (pc' := 67) (k := 15) (st := []) hC (m_blames6 x.2.1 g z0 σ ((nI 1)) ((nI c)) (((-1))) ((nI (rd σ 15 24))) ((σ.1 27 (201 * c + (rd σ 15 24)))) ((mh σ (rd σ 23 c) (rd σ 16 (rd σ 23 c)))) (by first | exact hB | (simp (disch := decide) only [nb, rd_uv, rd_ur, uv_cell, ur_cell]; exact hB) | omega)) k_X10_blames wM_X10_146 (by decide) (by decide) (ct_15 g σ) rfl rfl rfl rfl (Nat.le_of_ble_eq_true rfl) dX10_suspects_64 rfl (Nat.zero_le _) (Nat.zero_le _) ?_
    refine g_goto (tgt := 175) hC dX10_suspects_67 (by decide) ?_
    refine g_aload_n (pc' := 176) (j := 2) hC dX10_suspects_175 rfl rfl rfl ?_
    refine gf_X10_18 (pc' := 179) hC wF_X10_46 dX10_suspects_176 rfl ?_
    refine g_iload_n (pc' := 180) (j := 3) hC dX10_suspects_179 rfl rfl rfl ?_
    refine g_iconst (pc' := 181) (v := nI 1) hC dX10_suspects_180 rfl rfl ?_
    refine a_stz (pc' := 182) (k := 28) (i := c) hC (by decide) (fun σ9 => (ct_28 g σ9)) (by omega) (by decide) rfl dX10_suspects_181 rfl ?_
    refine g_retv hC dX10_suspects_182 ?_
    show _ = msus σ c w; simp [msus, *]
  by_cases t14_2 : w = 2
  · skip
    refine n_tswIn (tgt := 70) hC dX10_suspects_14 t14_2 (by decide) (by decide) (by decide) rfl (by decide) ?_
    refine g_aload_n (pc' := 71) (j := 2) hC dX10_suspects_70 rfl rfl rfl ?_
    refine g_iconst (pc' := 72) (v := nI 2) hC dX10_suspects_71 rfl rfl ?_
    refine g_iload_n (pc' := 73) (j := 3) hC dX10_suspects_72 rfl rfl rfl ?_
    refine g_iconst (pc' := 74) (v := (-1)) hC dX10_suspects_73 rfl rfl ?_
    refine g_iload (pc' := 76) (j := 0) hC dX10_suspects_74 rfl rfl ?_
    refine g_aload_n (pc' := 77) (j := 2) hC dX10_suspects_76 rfl rfl rfl ?_
    refine g_iload_n (pc' := 78) (j := 3) hC dX10_suspects_77 rfl rfl rfl ?_
    refine g_iload (pc' := 80) (j := 0) hC dX10_suspects_78 rfl rfl ?_
    refine f_Vi (pc' := 83) (k := 15) (st := [.int (nI (rd σ 15 24)), .int ((-1)), .int (nI c), .int (nI 2), .ref (g.2.1 15)]) hC (m_hashIn x.2.1 g z0 σ c ((rd σ 15 24)) (by omega) (by omega)) k_X10_hashIn wM_X10_90 (by decide) (by decide) (ct_15 g σ) rfl rfl rfl rfl (Nat.le_of_ble_eq_true rfl) dX10_suspects_80 rfl (Nat.zero_le _) (Nat.zero_le _) ?_
    refine g_aload_n (pc' := 84) (j := 2) hC dX10_suspects_83 rfl rfl rfl ?_
    refine g_iload_n (pc' := 85) (j := 1) hC dX10_suspects_84 rfl rfl rfl ?_
    refine g_iload (pc' := 87) (j := 0) hC dX10_suspects_85 rfl rfl ?_
    refine f_Vi (pc' := 90) (k := 15) (st := [.int (σ.1 27 (201 * c + (rd σ 15 24))), .int (nI (rd σ 15 24)), .int ((-1)), .int (nI c), .int (nI 2), .ref (g.2.1 15)]) hC (m_hashOf x.2.1 g z0 σ ((rd σ 23 c)) ((rd σ 15 24)) (by omega) (by omega)) k_X10_hashOf wM_X10_95 (by decide) (by decide) (ct_15 g σ) rfl rfl rfl rfl (Nat.le_of_ble_eq_true rfl) dX10_suspects_87 rfl (Nat.zero_le _) (Nat.zero_le _) ?_
    refine f_Vv (pc' := 93) (k := 15) (st := []) hC (m_blames6 x.2.1 g z0 σ ((nI 2)) ((nI c)) (((-1))) ((nI (rd σ 15 24))) ((σ.1 27 (201 * c + (rd σ 15 24)))) ((mh σ (rd σ 23 c) (rd σ 15 24))) (by first | exact hB | (simp (disch := decide) only [nb, rd_uv, rd_ur, uv_cell, ur_cell]; exact hB) | omega)) k_X10_blames wM_X10_146 (by decide) (by decide) (ct_15 g σ) rfl rfl rfl rfl (Nat.le_of_ble_eq_true rfl) dX10_suspects_90 rfl (Nat.zero_le _) (Nat.zero_le _) ?_
    refine g_goto (tgt := 175) hC dX10_suspects_93 (by decide) ?_
    refine g_aload_n (pc' := 176) (j := 2) hC dX10_suspects_175 rfl rfl rfl ?_
    refine gf_X10_18 (pc' := 179) hC wF_X10_46 dX10_suspects_176 rfl ?_
    refine g_iload_n (pc' := 180) (j := 3) hC dX10_suspects_179 rfl rfl rfl ?_
    refine g_iconst (pc' := 181) (v := nI 1) hC dX10_suspects_180 rfl rfl ?_
    refine a_stz (pc' := 182) (k := 28) (i := c) hC (by decide) (fun σ9 => (ct_28 g σ9)) (by omega) (by decide) rfl dX10_suspects_181 rfl ?_
    refine g_retv hC dX10_suspects_182 ?_
    show _ = msus σ c w; simp [msus, *]
  by_cases t14_3 : w = 3
  · skip
    refine n_tswIn (tgt := 96) hC dX10_suspects_14 t14_3 (by decide) (by decide) (by decide) rfl (by decide) ?_
    have h3a := h3 t14_3
    refine g_aload_n (pc' := 97) (j := 2) hC dX10_suspects_96 rfl rfl rfl ?_
    refine g_iconst (pc' := 98) (v := nI 3) hC dX10_suspects_97 rfl rfl ?_
    refine g_iload_n (pc' := 99) (j := 3) hC dX10_suspects_98 rfl rfl rfl ?_
    refine g_iconst (pc' := 100) (v := (-1)) hC dX10_suspects_99 rfl rfl ?_
    refine g_iload (pc' := 102) (j := 0) hC dX10_suspects_100 rfl rfl ?_
    refine g_aload_n (pc' := 103) (j := 2) hC dX10_suspects_102 rfl rfl rfl ?_
    refine g_iload_n (pc' := 104) (j := 1) hC dX10_suspects_103 rfl rfl rfl ?_
    refine g_iload (pc' := 106) (j := 0) hC dX10_suspects_104 rfl rfl ?_
    refine f_Vi (pc' := 109) (k := 15) (st := [.int (nI (rd σ 15 24)), .int ((-1)), .int (nI c), .int (nI 3), .ref (g.2.1 15)]) hC (m_computed x.2.1 g z0 σ ((rd σ 23 c)) ((rd σ 15 24)) (by omega) (by omega) (by omega)) k_X10_computed wM_X10_120 (by decide) (by decide) (ct_15 g σ) rfl rfl rfl rfl (Nat.le_of_ble_eq_true rfl) dX10_suspects_106 rfl (Nat.zero_le _) (Nat.zero_le _) ?_
    refine g_aload_n (pc' := 110) (j := 2) hC dX10_suspects_109 rfl rfl rfl ?_
    refine g_iload_n (pc' := 111) (j := 1) hC dX10_suspects_110 rfl rfl rfl ?_
    refine g_iload (pc' := 113) (j := 0) hC dX10_suspects_111 rfl rfl ?_
    refine f_Vi (pc' := 116) (k := 15) (st := [.int (mcomp σ (rd σ 23 c) (rd σ 15 24)), .int (nI (rd σ 15 24)), .int ((-1)), .int (nI c), .int (nI 3), .ref (g.2.1 15)]) hC (m_hashOf x.2.1 g z0 σ ((rd σ 23 c)) ((rd σ 15 24)) (by omega) (by omega)) k_X10_hashOf wM_X10_95 (by decide) (by decide) (ct_15 g σ) rfl rfl rfl rfl (Nat.le_of_ble_eq_true rfl) dX10_suspects_113 rfl (Nat.zero_le _) (Nat.zero_le _) ?_
    refine f_Vv (pc' := 119) (k := 15) (st := []) hC (m_blames6 x.2.1 g z0 σ ((nI 3)) ((nI c)) (((-1))) ((nI (rd σ 15 24))) ((mcomp σ (rd σ 23 c) (rd σ 15 24))) ((mh σ (rd σ 23 c) (rd σ 15 24))) (by first | exact hB | (simp (disch := decide) only [nb, rd_uv, rd_ur, uv_cell, ur_cell]; exact hB) | omega)) k_X10_blames wM_X10_146 (by decide) (by decide) (ct_15 g σ) rfl rfl rfl rfl (Nat.le_of_ble_eq_true rfl) dX10_suspects_116 rfl (Nat.zero_le _) (Nat.zero_le _) ?_
    refine g_goto (tgt := 175) hC dX10_suspects_119 (by decide) ?_
    refine g_aload_n (pc' := 176) (j := 2) hC dX10_suspects_175 rfl rfl rfl ?_
    refine gf_X10_18 (pc' := 179) hC wF_X10_46 dX10_suspects_176 rfl ?_
    refine g_iload_n (pc' := 180) (j := 3) hC dX10_suspects_179 rfl rfl rfl ?_
    refine g_iconst (pc' := 181) (v := nI 1) hC dX10_suspects_180 rfl rfl ?_
    refine a_stz (pc' := 182) (k := 28) (i := c) hC (by decide) (fun σ9 => (ct_28 g σ9)) (by omega) (by decide) rfl dX10_suspects_181 rfl ?_
    refine g_retv hC dX10_suspects_182 ?_
    show _ = msus σ c w; simp [msus, *]
  refine n_tswOut (tgt := 122) hC dX10_suspects_14 (by omega) (by omega) (by decide) ?_
  have h4a := h4 (by omega)
  have hpp2 := (hM.pps (h4 (by omega))).2
  refine g_aload_n (pc' := 123) (j := 2) hC dX10_suspects_122 rfl rfl rfl ?_
  refine g_iconst (pc' := 124) (v := nI 2) hC dX10_suspects_123 rfl rfl ?_
  refine g_iload_n (pc' := 125) (j := 3) hC dX10_suspects_124 rfl rfl rfl ?_
  refine g_aload_n (pc' := 126) (j := 2) hC dX10_suspects_125 rfl rfl rfl ?_
  refine gf_X10_19 (pc' := 129) hC wF_X10_50 dX10_suspects_126 rfl ?_
  refine g_iconst (pc' := 130) (v := nI 4) hC dX10_suspects_129 rfl rfl ?_
  refine g_iload (pc' := 132) (j := 0) hC dX10_suspects_130 rfl rfl ?_
  refine n_imul (pc' := 133) hC dX10_suspects_132 rfl ?_
  refine a_ld (pc' := 134) (k := 29) (i := 4 * (rd σ 15 24)) hC (by decide) (ct_29 g σ) (by omega) (by decide) dX10_suspects_133 rfl ?_
  refine g_aload_n (pc' := 135) (j := 2) hC dX10_suspects_134 rfl rfl rfl ?_
  refine gf_X10_19 (pc' := 138) hC wF_X10_50 dX10_suspects_135 rfl ?_
  refine g_iconst (pc' := 139) (v := nI 4) hC dX10_suspects_138 rfl rfl ?_
  refine g_iload (pc' := 141) (j := 0) hC dX10_suspects_139 rfl rfl ?_
  refine n_imul (pc' := 142) hC dX10_suspects_141 rfl ?_
  refine g_iconst (pc' := 143) (v := nI 1) hC dX10_suspects_142 rfl rfl ?_
  refine n_iadd (pc' := 144) hC dX10_suspects_143 rfl ?_
  refine a_ld (pc' := 145) (k := 29) (i := (4 * (rd σ 15 24)) + 1) hC (by decide) (ct_29 g σ) (by omega) (by decide) dX10_suspects_144 rfl ?_
  refine gg_topi (b := nI (rd σ 29 (4 * rd σ 15 24 + 1))) ((hM.pps (h4 (by omega))).1) ?_
  refine g_aload_n (pc' := 146) (j := 2) hC dX10_suspects_145 rfl rfl rfl ?_
  refine g_iload_n (pc' := 147) (j := 1) hC dX10_suspects_146 rfl rfl rfl ?_
  refine g_aload_n (pc' := 148) (j := 2) hC dX10_suspects_147 rfl rfl rfl ?_
  refine gf_X10_19 (pc' := 151) hC wF_X10_50 dX10_suspects_148 rfl ?_
  refine g_iconst (pc' := 152) (v := nI 4) hC dX10_suspects_151 rfl rfl ?_
  refine g_iload (pc' := 154) (j := 0) hC dX10_suspects_152 rfl rfl ?_
  refine n_imul (pc' := 155) hC dX10_suspects_154 rfl ?_
  refine g_iconst (pc' := 156) (v := nI 1) hC dX10_suspects_155 rfl rfl ?_
  refine n_iadd (pc' := 157) hC dX10_suspects_156 rfl ?_
  refine a_ld (pc' := 158) (k := 29) (i := (4 * (rd σ 15 24)) + 1) hC (by decide) (ct_29 g σ) (by omega) (by decide) dX10_suspects_157 rfl ?_
  refine gg_topi (b := nI (rd σ 29 (4 * rd σ 15 24 + 1))) ((hM.pps (h4 (by omega))).1) ?_
  refine f_Vi (pc' := 161) (k := 15) (st := [.int (nI (rd σ 29 (4 * rd σ 15 24 + 1))), .int (σ.1 29 (4 * (rd σ 15 24))), .int (nI c), .int (nI 2), .ref (g.2.1 15)]) hC (m_hashOf x.2.1 g z0 σ ((rd σ 23 c)) ((rd σ 29 (4 * rd σ 15 24 + 1))) (by omega) (by omega)) k_X10_hashOf wM_X10_95 (by decide) (by decide) (ct_15 g σ) rfl rfl rfl rfl (Nat.le_of_ble_eq_true rfl) dX10_suspects_158 rfl (Nat.zero_le _) (Nat.zero_le _) ?_
  refine g_aload_n (pc' := 162) (j := 2) hC dX10_suspects_161 rfl rfl rfl ?_
  refine gf_X10_19 (pc' := 165) hC wF_X10_50 dX10_suspects_162 rfl ?_
  refine g_iconst (pc' := 166) (v := nI 4) hC dX10_suspects_165 rfl rfl ?_
  refine g_iload (pc' := 168) (j := 0) hC dX10_suspects_166 rfl rfl ?_
  refine n_imul (pc' := 169) hC dX10_suspects_168 rfl ?_
  refine g_iconst (pc' := 170) (v := nI 2) hC dX10_suspects_169 rfl rfl ?_
  refine n_iadd (pc' := 171) hC dX10_suspects_170 rfl ?_
  refine a_ld (pc' := 172) (k := 29) (i := (4 * (rd σ 15 24)) + 2) hC (by decide) (ct_29 g σ) (by omega) (by decide) dX10_suspects_171 rfl ?_
  refine f_Vv (pc' := 175) (k := 15) (st := []) hC (m_blames6 x.2.1 g z0 σ ((nI 2)) ((nI c)) ((σ.1 29 (4 * (rd σ 15 24)))) ((nI (rd σ 29 (4 * rd σ 15 24 + 1)))) ((mh σ (rd σ 23 c) (rd σ 29 (4 * rd σ 15 24 + 1)))) ((σ.1 29 ((4 * (rd σ 15 24)) + 2))) (by first | exact hB | (simp (disch := decide) only [nb, rd_uv, rd_ur, uv_cell, ur_cell]; exact hB) | omega)) k_X10_blames wM_X10_146 (by decide) (by decide) (ct_15 g σ) rfl rfl rfl rfl (Nat.le_of_ble_eq_true rfl) dX10_suspects_172 rfl (Nat.zero_le _) (Nat.zero_le _) ?_
  refine g_aload_n (pc' := 176) (j := 2) hC dX10_suspects_175 rfl rfl rfl ?_
  refine gf_X10_18 (pc' := 179) hC wF_X10_46 dX10_suspects_176 rfl ?_
  refine g_iload_n (pc' := 180) (j := 3) hC dX10_suspects_179 rfl rfl rfl ?_
  refine g_iconst (pc' := 181) (v := nI 1) hC dX10_suspects_180 rfl rfl ?_
  refine a_stz (pc' := 182) (k := 28) (i := c) hC (by decide) (fun σ9 => (ct_28 g σ9)) (by omega) (by decide) rfl dX10_suspects_181 rfl ?_
  refine g_retv hC dX10_suspects_182 ?_
  show _ = msus σ c w; simp [msus, *]
set_option maxHeartbeats 4000000 in
set_option maxRecDepth 20000 in
theorem m_operates (l : Launch) (g : Lay) (z0 : Nat) (σ : St) (c : Nat) (kd : Int32) (w : Int32) (v : Int32) (hc : c < 6) (hM : MI σ) (hI : ¬ σ.1 15 3 = 0)  : CTi l yX10_operates cX10_operates 7 (some .boolean) 4 g z0 [.ref (g.2.1 15), .int (nI c), .int kd, .int w, .int v] σ (FI (bI (mokP σ c)) (moS σ c kd w v)) := by
  refine CTi.of (by decide) (Nat.le_of_ble_eq_true rfl) ?_
  intro x hxl hxa hC
  have hC : Cx x RX10 cX10_operates 7 (some .boolean) 4 g z0 := hC
  have hs := hM.see hc
  have hs2 := hs.2
  have hl := hM.len (b := rd σ 23 c) (by omega)
  have hl2 := hl.2
  have hmf : mfc σ c ≤ 4 := mfc_le
  have hM1 := MI_mo1 hM c
  show GG x g z0 7 0 0 (Qi x g z0 (FI (bI (mokP σ c)) (moS σ c kd w v))) σ 0 [(0, .ref (g.2.1 15)), (1, .int (nI c)), (2, .int kd), (3, .int w), (4, .int v)] []
  refine g_aload_n (pc' := 1) (j := 0) hC dX10_operates_0 rfl rfl rfl ?_
  refine gf_X10_18 (pc' := 4) hC wF_X10_46 dX10_operates_1 rfl ?_
  refine g_iload_n (pc' := 5) (j := 1) hC dX10_operates_4 rfl rfl rfl ?_
  refine a_ldz (pc' := 6) (k := 28) (i := c) hC (by decide) (ct_28 g σ) (by omega) (by decide) dX10_operates_5 rfl ?_
  refine g_if_eq (pc' := 9) (tgt := 11) hC dX10_operates_6 (by decide) rfl (fun c6 => ?_) (fun c6 => ?_)
  · skip
    refine g_aload_n (pc' := 12) (j := 0) hC dX10_operates_11 rfl rfl rfl ?_
    refine g_iload_n (pc' := 13) (j := 1) hC dX10_operates_12 rfl rfl rfl ?_
    refine f_Vi (pc' := 16) (k := 15) (st := []) hC (m_finds x.2.1 g z0 σ c (by omega) (by first | exact hM | (simp (disch := decide) only [nb, rd_uv, rd_ur, uv_cell, ur_cell]; exact hM) | omega)) k_X10_finds wM_X10_149 (by decide) (by decide) (ct_15 g σ) rfl rfl rfl rfl (Nat.le_of_ble_eq_true rfl) dX10_operates_13 rfl (Nat.zero_le _) (Nat.zero_le _) ?_
    refine g_istore (pc' := 18) (lv' := [(5, .int (nI (mfc σ c))), (0, .ref (g.2.1 15)), (1, .int (nI c)), (2, .int kd), (3, .int w), (4, .int v)]) hC dX10_operates_16 rfl (by decide) rfl ?_
    refine g_iload (pc' := 20) (j := 0) hC dX10_operates_18 rfl rfl ?_
    refine n_if_le (pc' := 23) (tgt := 32) hC dX10_operates_20 (by decide) rfl (by omega) (fun c20 => ?_) (fun c20 => ?_)
    · skip
      refine g_aload_n (pc' := 33) (j := 1) hC dX10_operates_32 rfl rfl rfl ?_
      refine gf_X10_13 (pc' := 36) hC wF_X10_31 dX10_operates_33 rfl ?_
      refine g_iload_n (pc' := 37) (j := 2) hC dX10_operates_36 rfl rfl rfl ?_
      refine a_ld (pc' := 38) (k := 23) (i := c) hC (by decide) (ct_23 g (mo1 σ c)) (by omega) (by decide) dX10_operates_37 rfl ?_
      refine gg_topi (b := nI (rd σ 23 c)) ((uv_cell _ _ _ _ (by decide)).trans hs.1) ?_
      refine g_istore (pc' := 40) (lv' := [(6, .int (nI (rd σ 23 c))), (5, .int (nI (mfc σ c))), (0, .ref (g.2.1 15)), (1, .int (nI c)), (2, .int kd), (3, .int w), (4, .int v)]) hC dX10_operates_38 rfl (by decide) rfl ?_
      refine g_aload_n (pc' := 41) (j := 2) hC dX10_operates_40 rfl rfl rfl ?_
      refine gf_X10_6 (pc' := 44) hC wF_X10_7 dX10_operates_41 rfl ?_
      refine g_iload (pc' := 46) (j := 0) hC dX10_operates_44 rfl rfl ?_
      refine a_ld (pc' := 47) (k := 16) (i := rd σ 23 c) hC (by decide) (ct_16 g (mo1 σ c)) (by omega) (by decide) dX10_operates_46 rfl ?_
      refine gg_topi (b := nI (rd σ 16 (rd σ 23 c))) ((uv_cell _ _ _ _ (by decide)).trans hl.1) ?_
      refine g_sipush (pc' := 50) (v := nI 200) hC dX10_operates_47 rfl rfl ?_
      refine n_icmp_ne (pc' := 53) (tgt := 55) hC dX10_operates_50 (by decide) rfl (by omega) (by omega) (fun c50 => ?_) (fun c50 => ?_)
      · skip
        have hM2 := MI_mapp hM1 (b := rd σ 23 c) kd (nI c) w v (nI 0) (by rw [show rd (mo1 σ c) 16 (rd σ 23 c) = rd σ 16 (rd σ 23 c) from rd_uv (by decide) _ _ _ _]; omega) (Or.inr (vb_nI (by omega) (by decide)))
        have hM3 : MI (mo3 σ c kd w v) := MI_uv (MI_mtk hM2 (by omega)) _ (by omega)
        refine g_aload_n (pc' := 56) (j := 2) hC dX10_operates_55 rfl rfl rfl ?_
        refine g_iload (pc' := 58) (j := 0) hC dX10_operates_56 rfl rfl ?_
        refine g_iload_n (pc' := 59) (j := 4) hC dX10_operates_58 rfl rfl rfl ?_
        refine g_iload_n (pc' := 60) (j := 3) hC dX10_operates_59 rfl rfl rfl ?_
        refine g_iload_n (pc' := 61) (j := 5) hC dX10_operates_60 rfl rfl rfl ?_
        refine g_iload (pc' := 63) (j := 6) hC dX10_operates_61 rfl rfl ?_
        refine g_iconst (pc' := 64) (v := nI 0) hC dX10_operates_63 rfl rfl ?_
        refine f_Vv (pc' := 67) (k := 15) (st := []) hC (m_append x.2.1 g z0 (mo1 σ c) ((rd σ 23 c)) kd ((nI c)) w v ((nI 0)) (by omega) (nb_cg (uv_cell _ _ _ _ (by decide)) hl (by omega))) k_X10_append wM_X10_155 (by decide) (by decide) (ct_15 g (mo1 σ c)) rfl rfl rfl rfl (Nat.le_of_ble_eq_true rfl) dX10_operates_64 rfl (Nat.zero_le _) (Nat.zero_le _) ?_
        refine g_aload_n (pc' := 68) (j := 2) hC dX10_operates_67 rfl rfl rfl ?_
        refine g_iload_n (pc' := 69) (j := 3) hC dX10_operates_68 rfl rfl rfl ?_
        refine g_iload (pc' := 71) (j := 0) hC dX10_operates_69 rfl rfl ?_
        refine f_Vv (pc' := 74) (k := 15) (st := []) hC (m_takes x.2.1 g z0 (mapp (mo1 σ c) (rd σ 23 c) kd (nI c) w v (nI 0)) c ((rd σ 23 c)) (by omega) (by omega) (hM2.len (by omega)) (fun i hi => hM2.aut hi)) k_X10_takes wM_X10_135 (by decide) (by decide) (ct_15 g (mapp (mo1 σ c) (rd σ 23 c) kd (nI c) w v (nI 0))) rfl rfl rfl rfl (Nat.le_of_ble_eq_true rfl) dX10_operates_71 rfl (Nat.zero_le _) (Nat.zero_le _) ?_
        refine g_aload_n (pc' := 75) (j := 2) hC dX10_operates_74 rfl rfl rfl ?_
        refine gf_X10_15 (pc' := 78) hC wF_X10_37 dX10_operates_75 rfl ?_
        refine g_iload_n (pc' := 79) (j := 3) hC dX10_operates_78 rfl rfl rfl ?_
        refine g_aload_n (pc' := 80) (j := 2) hC dX10_operates_79 rfl rfl rfl ?_
        refine gf_X10_15 (pc' := 83) hC wF_X10_37 dX10_operates_80 rfl ?_
        refine g_iload_n (pc' := 84) (j := 3) hC dX10_operates_83 rfl rfl rfl ?_
        refine a_ld (pc' := 85) (k := 25) (i := c) hC (by decide) (ct_25 g (mtk (mapp (mo1 σ c) (rd σ 23 c) kd (nI c) w v (nI 0)) c (rd σ 23 c))) (by omega) (by decide) dX10_operates_84 rfl ?_
        refine gg_topi (b := σ.1 25 c) ((mtk_o _ _ _ _ (by decide)).trans ((mapp_o _ _ _ _ _ _ _ _ (by decide)).trans (uv_cell _ _ _ _ (by decide)))) ?_
        refine g_iconst (pc' := 86) (v := nI 1) hC dX10_operates_85 rfl rfl ?_
        refine g_iadd (pc' := 87) hC dX10_operates_86 rfl ?_
        refine a_st (pc' := 88) (k := 25) (i := c) hC (by decide) (fun σ9 => (ct_25 g σ9)) (by omega) (by decide) dX10_operates_87 rfl ?_
        refine g_aload_n (pc' := 89) (j := 2) hC dX10_operates_88 rfl rfl rfl ?_
        refine gf_X10_15 (pc' := 92) hC wF_X10_37 dX10_operates_89 rfl ?_
        refine g_iload_n (pc' := 93) (j := 3) hC dX10_operates_92 rfl rfl rfl ?_
        refine a_ld (pc' := 94) (k := 25) (i := c) hC (by decide) (ct_25 g (uv (mtk (mapp (mo1 σ c) (rd σ 23 c) kd (nI c) w v (nI 0)) c (rd σ 23 c)) 25 c ((σ.1 25 c) + (nI 1)))) (by omega) (by decide) dX10_operates_93 rfl ?_
        refine gg_topi (b := (σ.1 25 c) + (nI 1)) (uv_same _ _ _ _) ?_
        refine g_aload_n (pc' := 95) (j := 2) hC dX10_operates_94 rfl rfl rfl ?_
        refine gf_X10_3 (pc' := 98) hC wF_X10_158 dX10_operates_95 rfl ?_
        refine gg_topi (b := σ.1 15 3) ((uv_cell _ _ _ _ (by decide)).trans ((mtk_o _ _ _ _ (by decide)).trans ((mapp_o _ _ _ _ _ _ _ _ (by decide)).trans (uv_idx _ _ _ _ (by decide))))) ?_
        refine g_irem (pc' := 99) hC dX10_operates_98 rfl (hI) ?_
        refine g_if_ne (pc' := 102) (tgt := 107) hC dX10_operates_99 (by decide) rfl (fun c99 => ?_) (fun c99 => ?_)
        · skip
          refine g_iconst (pc' := 108) (v := nI 1) hC dX10_operates_107 rfl rfl ?_
          refine g_ret hC dX10_operates_108 rfl ?_
          refine ⟨(bI_t ⟨c6.trans nI_0.symm, c20, c50⟩).symm, ?_⟩; unfold moS; rw [cI_t (c6.trans nI_0.symm), cI_t c20, cI_f c50]; first | (rw [cI_t c99]; rfl) | (rw [cI_f c99]; rfl)
        · skip
          refine g_aload_n (pc' := 103) (j := 2) hC dX10_operates_102 rfl rfl rfl ?_
          refine g_iload_n (pc' := 104) (j := 3) hC dX10_operates_103 rfl rfl rfl ?_
          refine f_Vv (pc' := 107) (k := 15) (st := []) hC (m_putsPost x.2.1 g z0 (uv (mtk (mapp (mo1 σ c) (rd σ 23 c) kd (nI c) w v (nI 0)) c (rd σ 23 c)) 25 c ((σ.1 25 c) + (nI 1))) c (by omega) (hM3.pos hc) (hM3.posts)) k_X10_putsPost wM_X10_161 (by decide) (by decide) (ct_15 g (uv (mtk (mapp (mo1 σ c) (rd σ 23 c) kd (nI c) w v (nI 0)) c (rd σ 23 c)) 25 c ((σ.1 25 c) + (nI 1)))) rfl rfl rfl rfl (Nat.le_of_ble_eq_true rfl) dX10_operates_104 rfl (Nat.zero_le _) (Nat.zero_le _) ?_
          refine g_iconst (pc' := 108) (v := nI 1) hC dX10_operates_107 rfl rfl ?_
          refine g_ret hC dX10_operates_108 rfl ?_
          refine ⟨(bI_t ⟨c6.trans nI_0.symm, c20, c50⟩).symm, ?_⟩; unfold moS; rw [cI_t (c6.trans nI_0.symm), cI_t c20, cI_f c50]; first | (rw [cI_t c99]; rfl) | (rw [cI_f c99]; rfl)
      · skip
        refine g_iconst (pc' := 54) (v := nI 0) hC dX10_operates_53 rfl rfl ?_
        refine g_ret hC dX10_operates_54 rfl ?_
        exact ⟨(bI_f (fun z => z.2.2 c50)).symm, by unfold moS; rw [cI_t (c6.trans nI_0.symm), cI_t c20, cI_t c50]⟩
    · skip
      refine g_aload_n (pc' := 24) (j := 1) hC dX10_operates_23 rfl rfl rfl ?_
      refine g_iload_n (pc' := 25) (j := 2) hC dX10_operates_24 rfl rfl rfl ?_
      refine g_iload (pc' := 27) (j := 0) hC dX10_operates_25 rfl rfl ?_
      refine f_Vv (pc' := 30) (k := 15) (st := []) hC (m_suspects x.2.1 g z0 (mo1 σ c) c ((mfc σ c)) (by omega) (hM1) (by omega) (by omega) ((mo1_f hM hc).1) (fun e => mo1_3 hM hc e) (fun e => mo1_4 hM hc e)) k_X10_suspects wM_X10_152 (by decide) (by decide) (ct_15 g (mo1 σ c)) rfl rfl rfl rfl (Nat.le_of_ble_eq_true rfl) dX10_operates_27 rfl (Nat.zero_le _) (Nat.zero_le _) ?_
      refine g_iconst (pc' := 31) (v := nI 0) hC dX10_operates_30 rfl rfl ?_
      refine g_ret hC dX10_operates_31 rfl ?_
      exact ⟨(bI_f (fun z => c20 z.2.1)).symm, by unfold moS; rw [cI_t (c6.trans nI_0.symm), cI_f c20]⟩
  · skip
    refine g_iconst (pc' := 10) (v := nI 0) hC dX10_operates_9 rfl rfl ?_
    refine g_ret hC dX10_operates_10 rfl ?_
    exact ⟨(bI_f (fun z => c6 (z.1.trans nI_0))).symm, by unfold moS; rw [cI_f (fun z => c6 (z.trans nI_0))]⟩
