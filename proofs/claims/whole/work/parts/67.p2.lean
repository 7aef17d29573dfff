set_option maxHeartbeats 4000000 in
set_option maxRecDepth 20000 in
theorem c_doStep (l : Launch) (g : Lay) (z0 : Nat) {KA : KAd} (σ : St) (p : Nat) (hK : GK g z0 KA) (hG : GX g) (hI : CI σ) (hS : CS σ) (hp : p < 60) (hq : skO σ p)  : CTi l yX9_doStep cX9_doStep 5 (some .int) 6 g z0 [.ref (g.2.1 0), .ref (g.2.1 (108 + 2 * p))] σ (FI ((cDo σ p).1) ((cDo σ p).2)) := by
  refine CTi.of (by decide) (Nat.le_of_ble_eq_true rfl) ?_
  intro x hxl hxa hC
  have hC : Cx x RX9 cX9_doStep 5 (some .int) 6 g z0 := hC
  show GG x g z0 5 0 0 (Qi x g z0 (FI ((cDo σ p).1) ((cDo σ p).2))) σ 0 [(0, .ref (g.2.1 0)), (1, .ref (g.2.1 (108 + 2 * p)))] []
  refine g_aload_n (pc' := 1) (j := 1) hC dX9_doStep_0 rfl rfl rfl ?_
  refine gf_X7_0 (pc' := 4) (b := p) hC (by omega : p < 60) wF_X9_101 dX9_doStep_1 rfl ?_
  refine g_iconst (pc' := 5) (v := nI 0) hC dX9_doStep_4 rfl rfl ?_
  refine a_ld (pc' := 6) (k := 108 + 2 * p + 1) (i := 0) hC (by have := (by omega : p < 60); show _ < 228; omega) (ct_sn g σ (by omega : p < 60)) (by omega) (by decide) dX9_doStep_5 rfl ?_
  refine g_istore_n (pc' := 7) (lv' := [(2, .int (σ.1 (108 + 2 * p + 1) 0)), (0, .ref (g.2.1 0)), (1, .ref (g.2.1 (108 + 2 * p)))]) hC dX9_doStep_6 rfl rfl (by decide) rfl ?_
  refine g_aload_n (pc' := 8) (j := 2) hC dX9_doStep_7 rfl rfl rfl ?_
  refine gf_X7_0 (pc' := 11) (b := p) hC (by omega : p < 60) wF_X9_101 dX9_doStep_8 rfl ?_
  refine g_iconst (pc' := 12) (v := nI 1) hC dX9_doStep_11 rfl rfl ?_
  refine a_ld (pc' := 13) (k := 108 + 2 * p + 1) (i := 1) hC (by have := (by omega : p < 60); show _ < 228; omega) (ct_sn g σ (by omega : p < 60)) (by omega) (by decide) dX9_doStep_12 rfl ?_
  refine g_istore_n (pc' := 14) (lv' := [(3, .int (σ.1 (108 + 2 * p + 1) 1)), (2, .int (σ.1 (108 + 2 * p + 1) 0)), (0, .ref (g.2.1 0)), (1, .ref (g.2.1 (108 + 2 * p)))]) hC dX9_doStep_13 rfl rfl (by decide) rfl ?_
  refine g_aload_n (pc' := 15) (j := 3) hC dX9_doStep_14 rfl rfl rfl ?_
  refine gf_X7_0 (pc' := 18) (b := p) hC (by omega : p < 60) wF_X9_101 dX9_doStep_15 rfl ?_
  refine g_iconst (pc' := 19) (v := nI 2) hC dX9_doStep_18 rfl rfl ?_
  refine a_ld (pc' := 20) (k := 108 + 2 * p + 1) (i := 2) hC (by have := (by omega : p < 60); show _ < 228; omega) (ct_sn g σ (by omega : p < 60)) (by omega) (by decide) dX9_doStep_19 rfl ?_
  refine g_istore (pc' := 22) (lv' := [(4, .int (σ.1 (108 + 2 * p + 1) 2)), (3, .int (σ.1 (108 + 2 * p + 1) 1)), (2, .int (σ.1 (108 + 2 * p + 1) 0)), (0, .ref (g.2.1 0)), (1, .ref (g.2.1 (108 + 2 * p)))]) hC dX9_doStep_20 rfl (by decide) rfl ?_
  refine g_gs (pc' := 25) (v := .ref KA.2.2.2) hC (hK.at hC).2.2.2.2.2.1.1 wF_X9_107 dX9_doStep_22 rfl ?_
  refine g_aload_n (pc' := 26) (j := 4) hC dX9_doStep_25 rfl rfl rfl ?_
  refine gf_X7_1 (pc' := 29) (b := p) hC (by omega : p < 60) wF_X9_112 dX9_doStep_26 rfl ?_
  refine gg_top (b := .ref (g.2.2.1 (skd σ p))) (by rw [hq.1]; rfl) ?_
  refine f_Oi (pc' := 32) (i := skd σ p) (st := [.ref KA.2.2.2]) hC hK hq.2 (c_ordinal x.2.1 g z0 σ (skd σ p) hK hq.2) (by decide) (Nat.le_of_ble_eq_true rfl) dX9_doStep_29 rfl (Nat.zero_le _) (Nat.zero_le _) ?_
  refine g_tsm (pc' := 33) (i := skd σ p) hC hK hq.2 dX9_doStep_32 rfl ?_
  by_cases t33_1 : kSm.getD (skd σ p) 0 = nI 1
  · skip
    refine gg_topi t33_1 ?_
    refine n_tswIn (tgt := 84) hC dX9_doStep_33 rfl (by decide) (by decide) (by decide) rfl (by decide) ?_
    refine g_aload_n (pc' := 85) (j := 3) hC dX9_doStep_84 rfl rfl rfl ?_
    refine gf_X9_1 (pc' := 88) hC wF_X9_19 dX9_doStep_85 rfl ?_
    refine g_iload_n (pc' := 89) (j := 2) hC dX9_doStep_88 rfl rfl rfl ?_
    refine g_iload_n (pc' := 90) (j := 1) hC dX9_doStep_89 rfl rfl rfl ?_
    refine g_iload (pc' := 92) (j := 0) hC dX9_doStep_90 rfl rfl ?_
    refine f_Vi (pc' := 95) (k := 8) (st := []) hC (c_doWrite x.2.1 g z0 σ ((σ.1 (108 + 2 * p + 1) 0)) ((σ.1 (108 + 2 * p + 1) 1)) ((σ.1 (108 + 2 * p + 1) 2)) (hG) (by first | exact hI | (simp (disch := decide) only [nb, rd_uv, rd_ur, uv_cell, ur_cell]; exact hI) | omega)) k_X6_doWrite wM_X9_122 (by decide) (by decide) (ct_8 g σ) rfl rfl rfl rfl (Nat.le_of_ble_eq_true rfl) dX9_doStep_92 rfl (Nat.zero_le _) (Nat.zero_le _) ?_
    refine g_ret hC dX9_doStep_95 rfl ?_
    exact ⟨by unfold cDo; rw [cI_t t33_1], by unfold cDo; rw [cI_t t33_1]⟩
  by_cases t33_2 : kSm.getD (skd σ p) 0 = nI 2
  · skip
    refine gg_topi t33_2 ?_
    refine n_tswIn (tgt := 96) hC dX9_doStep_33 rfl (by decide) (by decide) (by decide) rfl (by decide) ?_
    refine g_aload_n (pc' := 97) (j := 3) hC dX9_doStep_96 rfl rfl rfl ?_
    refine gf_X9_1 (pc' := 100) hC wF_X9_19 dX9_doStep_97 rfl ?_
    refine g_iload_n (pc' := 101) (j := 2) hC dX9_doStep_100 rfl rfl rfl ?_
    refine g_iload_n (pc' := 102) (j := 1) hC dX9_doStep_101 rfl rfl rfl ?_
    refine f_Vi (pc' := 105) (k := 8) (st := []) hC (c_doRead x.2.1 g z0 σ ((σ.1 (108 + 2 * p + 1) 0)) ((σ.1 (108 + 2 * p + 1) 1)) (hG) (by first | exact hI | (simp (disch := decide) only [nb, rd_uv, rd_ur, uv_cell, ur_cell]; exact hI) | omega)) k_X6_doRead wM_X9_126 (by decide) (by decide) (ct_8 g σ) rfl rfl rfl rfl (Nat.le_of_ble_eq_true rfl) dX9_doStep_102 rfl (Nat.zero_le _) (Nat.zero_le _) ?_
    refine g_ret hC dX9_doStep_105 rfl ?_
    exact ⟨by unfold cDo; rw [cI_f t33_1, cI_t t33_2], by unfold cDo; rw [cI_f t33_1, cI_t t33_2]⟩
  by_cases t33_3 : kSm.getD (skd σ p) 0 = nI 3
  · skip
    refine gg_topi t33_3 ?_
    refine n_tswIn (tgt := 106) hC dX9_doStep_33 rfl (by decide) (by decide) (by decide) rfl (by decide) ?_
    refine g_aload_n (pc' := 107) (j := 3) hC dX9_doStep_106 rfl rfl rfl ?_
    refine gf_X9_1 (pc' := 110) hC wF_X9_19 dX9_doStep_107 rfl ?_
    refine g_iload_n (pc' := 111) (j := 2) hC dX9_doStep_110 rfl rfl rfl ?_
    refine f_Vi (pc' := 114) (k := 8) (st := []) hC (c_doFork x.2.1 g z0 σ ((σ.1 (108 + 2 * p + 1) 0)) (by first | exact hI | (simp (disch := decide) only [nb, rd_uv, rd_ur, uv_cell, ur_cell]; exact hI) | omega) (by first | exact hS | (simp (disch := decide) only [nb, rd_uv, rd_ur, uv_cell, ur_cell]; exact hS) | omega)) k_X6_doFork wM_X9_130 (by decide) (by decide) (ct_8 g σ) rfl rfl rfl rfl (Nat.le_of_ble_eq_true rfl) dX9_doStep_111 rfl (Nat.zero_le _) (Nat.zero_le _) ?_
    refine g_ret hC dX9_doStep_114 rfl ?_
    exact ⟨by unfold cDo; rw [cI_f t33_1, cI_f t33_2, cI_t t33_3], by unfold cDo; rw [cI_f t33_1, cI_f t33_2, cI_t t33_3]⟩
  by_cases t33_4 : kSm.getD (skd σ p) 0 = nI 4
  · skip
    refine gg_topi t33_4 ?_
    refine n_tswIn (tgt := 115) hC dX9_doStep_33 rfl (by decide) (by decide) (by decide) rfl (by decide) ?_
    refine g_aload_n (pc' := 116) (j := 3) hC dX9_doStep_115 rfl rfl rfl ?_
    refine gf_X9_1 (pc' := 119) hC wF_X9_19 dX9_doStep_116 rfl ?_
    refine g_iload_n (pc' := 120) (j := 2) hC dX9_doStep_119 rfl rfl rfl ?_
    refine g_iload_n (pc' := 121) (j := 1) hC dX9_doStep_120 rfl rfl rfl ?_
    refine f_Vi (pc' := 124) (k := 8) (st := []) hC (c_doMove x.2.1 g z0 σ ((σ.1 (108 + 2 * p + 1) 0)) ((σ.1 (108 + 2 * p + 1) 1)) (by first | exact hI | (simp (disch := decide) only [nb, rd_uv, rd_ur, uv_cell, ur_cell]; exact hI) | omega)) k_X6_doMove wM_X9_134 (by decide) (by decide) (ct_8 g σ) rfl rfl rfl rfl (Nat.le_of_ble_eq_true rfl) dX9_doStep_121 rfl (Nat.zero_le _) (Nat.zero_le _) ?_
    refine g_ret hC dX9_doStep_124 rfl ?_
    exact ⟨by unfold cDo; rw [cI_f t33_1, cI_f t33_2, cI_f t33_3, cI_t t33_4], by unfold cDo; rw [cI_f t33_1, cI_f t33_2, cI_f t33_3, cI_t t33_4]⟩
  by_cases t33_5 : kSm.getD (skd σ p) 0 = nI 5
  · skip
    refine gg_topi t33_5 ?_
    refine n_tswIn (tgt := 125) hC dX9_doStep_33 rfl (by decide) (by decide) (by decide) rfl (by decide) ?_
    refine g_aload_n (pc' := 126) (j := 3) hC dX9_doStep_125 rfl rfl rfl ?_
    refine gf_X9_1 (pc' := 129) hC wF_X9_19 dX9_doStep_126 rfl ?_
    refine g_iload_n (pc' := 130) (j := 2) hC dX9_doStep_129 rfl rfl rfl ?_
    refine g_iload_n (pc' := 131) (j := 1) hC dX9_doStep_130 rfl rfl rfl ?_
    refine f_Vi (pc' := 134) (k := 8) (st := []) hC (c_doRewind x.2.1 g z0 σ ((σ.1 (108 + 2 * p + 1) 0)) ((σ.1 (108 + 2 * p + 1) 1)) (by first | exact hI | (simp (disch := decide) only [nb, rd_uv, rd_ur, uv_cell, ur_cell]; exact hI) | omega)) k_X6_doRewind wM_X9_137 (by decide) (by decide) (ct_8 g σ) rfl rfl rfl rfl (Nat.le_of_ble_eq_true rfl) dX9_doStep_131 rfl (Nat.zero_le _) (Nat.zero_le _) ?_
    refine g_ret hC dX9_doStep_134 rfl ?_
    exact ⟨by unfold cDo; rw [cI_f t33_1, cI_f t33_2, cI_f t33_3, cI_f t33_4, cI_t t33_5], by unfold cDo; rw [cI_f t33_1, cI_f t33_2, cI_f t33_3, cI_f t33_4, cI_t t33_5]⟩
  by_cases t33_6 : kSm.getD (skd σ p) 0 = nI 6
  · skip
    refine gg_topi t33_6 ?_
    refine n_tswIn (tgt := 135) hC dX9_doStep_33 rfl (by decide) (by decide) (by decide) rfl (by decide) ?_
    refine g_aload_n (pc' := 136) (j := 3) hC dX9_doStep_135 rfl rfl rfl ?_
    refine gf_X9_1 (pc' := 139) hC wF_X9_19 dX9_doStep_136 rfl ?_
    refine g_iload_n (pc' := 140) (j := 2) hC dX9_doStep_139 rfl rfl rfl ?_
    refine g_iload_n (pc' := 141) (j := 1) hC dX9_doStep_140 rfl rfl rfl ?_
    refine g_iload (pc' := 143) (j := 0) hC dX9_doStep_141 rfl rfl ?_
    refine f_Vi (pc' := 146) (k := 8) (st := []) hC (c_doCorrupt x.2.1 g z0 σ ((σ.1 (108 + 2 * p + 1) 0)) ((σ.1 (108 + 2 * p + 1) 1)) ((σ.1 (108 + 2 * p + 1) 2)) (by first | exact hI | (simp (disch := decide) only [nb, rd_uv, rd_ur, uv_cell, ur_cell]; exact hI) | omega)) k_X6_doCorrupt wM_X9_140 (by decide) (by decide) (ct_8 g σ) rfl rfl rfl rfl (Nat.le_of_ble_eq_true rfl) dX9_doStep_143 rfl (Nat.zero_le _) (Nat.zero_le _) ?_
    refine g_ret hC dX9_doStep_146 rfl ?_
    exact ⟨by unfold cDo; rw [cI_f t33_1, cI_f t33_2, cI_f t33_3, cI_f t33_4, cI_f t33_5, cI_t t33_6], by unfold cDo; rw [cI_f t33_1, cI_f t33_2, cI_f t33_3, cI_f t33_4, cI_f t33_5, cI_t t33_6]⟩
  by_cases t33_7 : kSm.getD (skd σ p) 0 = nI 7
  · skip
    refine gg_topi t33_7 ?_
    refine n_tswIn (tgt := 147) hC dX9_doStep_33 rfl (by decide) (by decide) (by decide) rfl (by decide) ?_
    refine g_aload_n (pc' := 148) (j := 3) hC dX9_doStep_147 rfl rfl rfl ?_
    refine gf_X9_1 (pc' := 151) hC wF_X9_19 dX9_doStep_148 rfl ?_
    refine g_iload_n (pc' := 152) (j := 2) hC dX9_doStep_151 rfl rfl rfl ?_
    refine g_iload_n (pc' := 153) (j := 1) hC dX9_doStep_152 rfl rfl rfl ?_
    refine f_Vi (pc' := 156) (k := 8) (st := []) hC (c_doExchange x.2.1 g z0 σ ((σ.1 (108 + 2 * p + 1) 0)) ((σ.1 (108 + 2 * p + 1) 1)) (hG) (by first | exact hI | (simp (disch := decide) only [nb, rd_uv, rd_ur, uv_cell, ur_cell]; exact hI) | omega)) k_X6_doExchange wM_X9_143 (by decide) (by decide) (ct_8 g σ) rfl rfl rfl rfl (Nat.le_of_ble_eq_true rfl) dX9_doStep_153 rfl (Nat.zero_le _) (Nat.zero_le _) ?_
    refine g_ret hC dX9_doStep_156 rfl ?_
    exact ⟨by unfold cDo; rw [cI_f t33_1, cI_f t33_2, cI_f t33_3, cI_f t33_4, cI_f t33_5, cI_f t33_6, cI_t t33_7], by unfold cDo; rw [cI_f t33_1, cI_f t33_2, cI_f t33_3, cI_f t33_4, cI_f t33_5, cI_f t33_6, cI_t t33_7]⟩
  by_cases t33_8 : kSm.getD (skd σ p) 0 = nI 8
  · skip
    refine gg_topi t33_8 ?_
    refine n_tswIn (tgt := 157) hC dX9_doStep_33 rfl (by decide) (by decide) (by decide) rfl (by decide) ?_
    refine g_aload_n (pc' := 158) (j := 3) hC dX9_doStep_157 rfl rfl rfl ?_
    refine gf_X9_1 (pc' := 161) hC wF_X9_19 dX9_doStep_158 rfl ?_
    refine g_iload_n (pc' := 162) (j := 2) hC dX9_doStep_161 rfl rfl rfl ?_
    refine f_Vi (pc' := 165) (k := 8) (st := []) hC (c_doPost x.2.1 g z0 σ ((σ.1 (108 + 2 * p + 1) 0)) (by first | exact hI | (simp (disch := decide) only [nb, rd_uv, rd_ur, uv_cell, ur_cell]; exact hI) | omega)) k_X6_doPost wM_X9_146 (by decide) (by decide) (ct_8 g σ) rfl rfl rfl rfl (Nat.le_of_ble_eq_true rfl) dX9_doStep_162 rfl (Nat.zero_le _) (Nat.zero_le _) ?_
    refine g_ret hC dX9_doStep_165 rfl ?_
    exact ⟨by unfold cDo; rw [cI_f t33_1, cI_f t33_2, cI_f t33_3, cI_f t33_4, cI_f t33_5, cI_f t33_6, cI_f t33_7, cI_t t33_8], by unfold cDo; rw [cI_f t33_1, cI_f t33_2, cI_f t33_3, cI_f t33_4, cI_f t33_5, cI_f t33_6, cI_f t33_7, cI_t t33_8]⟩
  by_cases t33_9 : kSm.getD (skd σ p) 0 = nI 9
  · skip
    refine gg_topi t33_9 ?_
    refine n_tswIn (tgt := 166) hC dX9_doStep_33 rfl (by decide) (by decide) (by decide) rfl (by decide) ?_
    refine g_aload_n (pc' := 167) (j := 3) hC dX9_doStep_166 rfl rfl rfl ?_
    refine gf_X9_1 (pc' := 170) hC wF_X9_19 dX9_doStep_167 rfl ?_
    refine g_iload_n (pc' := 171) (j := 2) hC dX9_doStep_170 rfl rfl rfl ?_
    refine g_iload_n (pc' := 172) (j := 1) hC dX9_doStep_171 rfl rfl rfl ?_
    refine f_Vi (pc' := 175) (k := 8) (st := []) hC (c_doHeal x.2.1 g z0 σ ((σ.1 (108 + 2 * p + 1) 0)) ((σ.1 (108 + 2 * p + 1) 1)) (hG) (by first | exact hI | (simp (disch := decide) only [nb, rd_uv, rd_ur, uv_cell, ur_cell]; exact hI) | omega)) k_X6_doHeal wM_X9_149 (by decide) (by decide) (ct_8 g σ) rfl rfl rfl rfl (Nat.le_of_ble_eq_true rfl) dX9_doStep_172 rfl (Nat.zero_le _) (Nat.zero_le _) ?_
    refine g_ret hC dX9_doStep_175 rfl ?_
    exact ⟨by unfold cDo; rw [cI_f t33_1, cI_f t33_2, cI_f t33_3, cI_f t33_4, cI_f t33_5, cI_f t33_6, cI_f t33_7, cI_f t33_8, cI_t t33_9], by unfold cDo; rw [cI_f t33_1, cI_f t33_2, cI_f t33_3, cI_f t33_4, cI_f t33_5, cI_f t33_6, cI_f t33_7, cI_f t33_8, cI_t t33_9]⟩
  refine g_tswOut (tgt := 176) hC dX9_doStep_33 (tsw_out2 1 9 (by decide) (by intro j hj0 hj; rcases (show j = 1 ∨ j = 2 ∨ j = 3 ∨ j = 4 ∨ j = 5 ∨ j = 6 ∨ j = 7 ∨ j = 8 ∨ j = 9 by omega) with rfl | rfl | rfl | rfl | rfl | rfl | rfl | rfl | rfl <;> assumption)) (by decide) ?_
  refine g_bipush (pc' := 178) (v := (-2)) hC dX9_doStep_176 rfl rfl ?_
  refine g_ret hC dX9_doStep_178 rfl ?_
  exact ⟨by unfold cDo; rw [cI_f t33_1, cI_f t33_2, cI_f t33_3, cI_f t33_4, cI_f t33_5, cI_f t33_6, cI_f t33_7, cI_f t33_8, cI_f t33_9], by unfold cDo; rw [cI_f t33_1, cI_f t33_2, cI_f t33_3, cI_f t33_4, cI_f t33_5, cI_f t33_6, cI_f t33_7, cI_f t33_8, cI_f t33_9]⟩
set_option maxHeartbeats 4000000 in
set_option maxRecDepth 20000 in
theorem c_load (l : Launch) (g : Lay) (z0 : Nat) {KA : KAd} (σ : St) (n : Int32) (hNT : l.stackTraces = false) (hT : GT g z0) (hK : GK g z0 KA) (hF : nb σ 0 2 900)  : CXi l yX9_load cX9_load 2 (some .int) 9 2 g z0 [.ref (g.2.1 0), .int n] σ (FXi (wLo σ n) ((csv (cpv (uv σ 0 2 (nI 0)) (cn n)) ((cpv (uv σ 0 2 (nI 0)) (cn n)).1 1 4) ((cpv (uv σ 0 2 (nI 0)) (cn n)).1 1 5) ((cpv (uv σ 0 2 (nI 0)) (cn n)).1 1 6)).1 8 4) (clS σ n)) (FXx (wLo σ n) (clS σ n)) := by
  refine CXi.of hNT (by decide) (Nat.le_of_ble_eq_true rfl) ?_
  intro x hxl hxa hC hY
  have hC : Cx x RX9 cX9_load 2 (some .int) 9 g z0 := hC
  show GG x g z0 2 0 0 (Xi x g z0 (FXi (wLo σ n) ((csv (cpv (uv σ 0 2 (nI 0)) (cn n)) ((cpv (uv σ 0 2 (nI 0)) (cn n)).1 1 4) ((cpv (uv σ 0 2 (nI 0)) (cn n)).1 1 5) ((cpv (uv σ 0 2 (nI 0)) (cn n)).1 1 6)).1 8 4) (clS σ n)) (FXx (wLo σ n) (clS σ n)) 2) σ 0 [(0, .ref (g.2.1 0)), (1, .int n)] []
  refine g_aload_n (pc' := 1) (j := 0) hC dX9_load_0 rfl rfl rfl ?_
  refine g_iload_n (pc' := 2) (j := 1) hC dX9_load_1 rfl rfl rfl ?_
  refine fx_Vv (pc' := 5) (kr := 0) (st := []) hC hY (c_takeBuffer x.2.1 g z0 σ n (hY.2.2) (hT) (by first | exact hF | (simp (disch := decide) only [nb, rd_uv, rd_ur, uv_cell, ur_cell]; exact hF) | omega)) k_X9_takeBuffer wM_X9_48 (by decide) (by decide) (ct_0 g σ) rfl rfl rfl rfl (Nat.le_of_ble_eq_true rfl) dX9_load_2 rfl (by decide) (by decide) (fun E x2 => ?_) (fun x2 => ?_)
  · exact ⟨by obtain ⟨q, e⟩ := cI_so x2; unfold wLo; rw [cI_f q, e], by obtain ⟨q, e⟩ := cI_so x2; unfold clS ctS; rw [cI_f q, cI_f q]⟩
  have q9 := cI_no x2
  obtain ⟨hnN, hnL⟩ := len_n hF q9
  refine gg_lve (lv' := [(0, .ref (g.2.1 0)), (1, .int (nI (cn n)))]) (by rw [← hnN]) ?_
  refine gg_st (σ' := uv σ 0 2 (nI 0)) (cI_t q9) ?_
  refine g_aload_n (pc' := 6) (j := 0) hC dX9_load_5 rfl rfl rfl ?_
  refine gf_X9_0 (pc' := 9) hC wF_X9_10 dX9_load_6 rfl ?_
  refine g_iload_n (pc' := 10) (j := 1) hC dX9_load_9 rfl rfl rfl ?_
  refine f_Vv (pc' := 13) (k := 1) (st := []) hC (c_parseService x.2.1 g z0 (uv σ 0 2 (nI 0)) ((cn n)) (hK) (by omega)) k_X5_parseService wM_X9_51 (by decide) (by decide) (ct_1 g (uv σ 0 2 (nI 0))) rfl rfl rfl rfl (Nat.le_of_ble_eq_true rfl) dX9_load_10 rfl (hY.c (by decide)) (hY.s (by decide)) ?_
  refine g_aload_n (pc' := 14) (j := 0) hC dX9_load_13 rfl rfl rfl ?_
  refine gf_X9_0 (pc' := 17) hC wF_X9_10 dX9_load_14 rfl ?_
  refine f_Vi (pc' := 20) (k := 1) (st := []) hC (c_hasFailed x.2.1 g z0 (cpv (uv σ 0 2 (nI 0)) (cn n))) k_X5_hasFailed wM_X9_54 (by decide) (by decide) (ct_1 g (cpv (uv σ 0 2 (nI 0)) (cn n))) rfl rfl rfl rfl (Nat.le_of_ble_eq_true rfl) dX9_load_17 rfl (hY.c (by decide)) (hY.s (by decide)) ?_
  refine b_if_eq (pc' := 23) (tgt := 33) hC dX9_load_20 (by decide) rfl (fun c20 => ?_) (fun c20 => ?_)
  · skip
    refine g_aload_n (pc' := 34) (j := 0) hC dX9_load_33 rfl rfl rfl ?_
    refine gf_X9_1 (pc' := 37) hC wF_X9_19 dX9_load_34 rfl ?_
    refine g_aload_n (pc' := 38) (j := 0) hC dX9_load_37 rfl rfl rfl ?_
    refine gf_X9_0 (pc' := 41) hC wF_X9_10 dX9_load_38 rfl ?_
    refine gf_X5_4 (pc' := 44) hC wF_X9_60 dX9_load_41 rfl ?_
    refine g_aload_n (pc' := 45) (j := 0) hC dX9_load_44 rfl rfl rfl ?_
    refine gf_X9_0 (pc' := 48) hC wF_X9_10 dX9_load_45 rfl ?_
    refine gf_X5_5 (pc' := 51) hC wF_X9_63 dX9_load_48 rfl ?_
    refine g_aload_n (pc' := 52) (j := 0) hC dX9_load_51 rfl rfl rfl ?_
    refine gf_X9_0 (pc' := 55) hC wF_X9_10 dX9_load_52 rfl ?_
    refine gf_X5_6 (pc' := 58) hC wF_X9_66 dX9_load_55 rfl ?_
    refine f_Vv (pc' := 61) (k := 8) (st := []) hC (c_beginS x.2.1 g z0 (cpv (uv σ 0 2 (nI 0)) (cn n)) (((cpv (uv σ 0 2 (nI 0)) (cn n)).1 1 4)) (((cpv (uv σ 0 2 (nI 0)) (cn n)).1 1 5)) (((cpv (uv σ 0 2 (nI 0)) (cn n)).1 1 6))) k_X6_begin wM_X9_69 (by decide) (by decide) (ct_8 g (cpv (uv σ 0 2 (nI 0)) (cn n))) rfl rfl rfl rfl (Nat.le_of_ble_eq_true rfl) dX9_load_58 rfl (hY.c (by decide)) (hY.s (by decide)) ?_
    refine g_aload_n (pc' := 62) (j := 0) hC dX9_load_61 rfl rfl rfl ?_
    refine g_iconst (pc' := 63) (v := nI 0) hC dX9_load_62 rfl rfl ?_
    refine pf_X9_3 (pc' := 66) hC wF_X9_73 dX9_load_63 rfl ?_
    refine g_aload_n (pc' := 67) (j := 0) hC dX9_load_66 rfl rfl rfl ?_
    refine gf_X9_1 (pc' := 70) hC wF_X9_19 dX9_load_67 rfl ?_
    refine gf_X6_4 (pc' := 73) hC wF_X9_76 dX9_load_70 rfl ?_
    refine gg_topi (b := (csv (cpv (uv σ 0 2 (nI 0)) (cn n)) ((cpv (uv σ 0 2 (nI 0)) (cn n)).1 1 4) ((cpv (uv σ 0 2 (nI 0)) (cn n)).1 1 5) ((cpv (uv σ 0 2 (nI 0)) (cn n)).1 1 6)).1 8 4) (uv_cell _ _ _ _ (by decide)) ?_
    refine gx_ret hC (by decide) (by decide) dX9_load_73 rfl ?_
    exact ⟨by unfold wLo; rw [cI_t q9, cI_t (Classical.not_not.mp c20)], rfl, by unfold clS; rw [cI_t q9, cI_t (Classical.not_not.mp c20)]⟩
  · skip
    exact gx_thS hC hY hT xe_exI (by decide : (58, "the text of the service has an error") ∈ exS) (by decide) (by decide) (by decide) (Nat.le_of_ble_eq_true rfl) dX9_load_23 dX9_load_26 dX9_load_27 dX9_load_29 dX9_load_32 (⟨by unfold wLo; rw [cI_t q9, cI_f c20], by unfold clS; rw [cI_t q9, cI_f c20]⟩)
set_option maxHeartbeats 4000000 in
set_option maxRecDepth 20000 in
theorem c_run (l : Launch) (g : Lay) (z0 : Nat) {KA : KAd} (σ : St) (n : Int32) (hNT : l.stackTraces = false) (hT : GT g z0) (hK : GK g z0 KA) (hG : GX g) (hF : nb σ 0 2 900) (hI : CI σ) (hO : (¬ n < 0 ∧ n ≤ nI (rd σ 0 2)) → rd σ 8 4 ≠ 0 → (crP σ n).1 1 7 = 0 → cOK (crP σ n) (rd (crP σ n) 1 3))  : CXi l yX9_run cX9_run 4 (some .int) 9 2 g z0 [.ref (g.2.1 0), .int n] σ (FXi (wRu σ n) (nI ((cRn (crP σ n) (rd (crP σ n) 1 3)).1)) (crS σ n)) (FXx (wRu σ n) (crS σ n)) := by
  refine CXi.of hNT (by decide) (Nat.le_of_ble_eq_true rfl) ?_
  intro x hxl hxa hC hY
  have hC : Cx x RX9 cX9_run 4 (some .int) 9 g z0 := hC
  have hN6 := hI.nc.2
  show GG x g z0 4 0 0 (Xi x g z0 (FXi (wRu σ n) (nI ((cRn (crP σ n) (rd (crP σ n) 1 3)).1)) (crS σ n)) (FXx (wRu σ n) (crS σ n)) 2) σ 0 [(0, .ref (g.2.1 0)), (1, .int n)] []
  refine g_aload_n (pc' := 1) (j := 0) hC dX9_run_0 rfl rfl rfl ?_
  refine g_iload_n (pc' := 2) (j := 1) hC dX9_run_1 rfl rfl rfl ?_
  refine fx_Vv (pc' := 5) (kr := 0) (st := []) hC hY (c_takeBuffer x.2.1 g z0 σ n (hY.2.2) (hT) (by first | exact hF | (simp (disch := decide) only [nb, rd_uv, rd_ur, uv_cell, ur_cell]; exact hF) | omega)) k_X9_takeBuffer wM_X9_48 (by decide) (by decide) (ct_0 g σ) rfl rfl rfl rfl (Nat.le_of_ble_eq_true rfl) dX9_run_2 rfl (by decide) (by decide) (fun E x2 => ?_) (fun x2 => ?_)
  · exact ⟨by obtain ⟨q, e⟩ := cI_so x2; unfold wRu; rw [cI_f q, e], by obtain ⟨q, e⟩ := cI_so x2; unfold crS ctS; rw [cI_f q, cI_f q]⟩
  have q9 := cI_no x2
  obtain ⟨hnN, hnL⟩ := len_n hF q9
  refine gg_lve (lv' := [(0, .ref (g.2.1 0)), (1, .int (nI (cn n)))]) (by rw [← hnN]) ?_
  refine gg_st (σ' := uv σ 0 2 (nI 0)) (cI_t q9) ?_
  refine g_aload_n (pc' := 6) (j := 0) hC dX9_run_5 rfl rfl rfl ?_
  refine gf_X9_1 (pc' := 9) hC wF_X9_19 dX9_run_6 rfl ?_
  refine gf_X6_4 (pc' := 12) hC wF_X9_76 dX9_run_9 rfl ?_
  refine gg_topi (b := nI (rd σ 8 4)) ((uv_cell _ _ _ _ (by decide)).trans (hI.nc.1)) ?_
  refine n_if_ne (pc' := 15) (tgt := 25) hC dX9_run_12 (by decide) rfl (by omega) (fun c12 => ?_) (fun c12 => ?_)
  · skip
    refine g_aload_n (pc' := 26) (j := 0) hC dX9_run_25 rfl rfl rfl ?_
    refine gf_X9_0 (pc' := 29) hC wF_X9_10 dX9_run_26 rfl ?_
    refine g_iload_n (pc' := 30) (j := 1) hC dX9_run_29 rfl rfl rfl ?_
    refine g_aload_n (pc' := 31) (j := 0) hC dX9_run_30 rfl rfl rfl ?_
    refine gf_X9_1 (pc' := 34) hC wF_X9_19 dX9_run_31 rfl ?_
    refine gf_X6_4 (pc' := 37) hC wF_X9_76 dX9_run_34 rfl ?_
    refine gg_topi (b := nI (rd σ 8 4)) ((uv_cell _ _ _ _ (by decide)).trans (hI.nc.1)) ?_
    refine g_aload_n (pc' := 38) (j := 0) hC dX9_run_37 rfl rfl rfl ?_
    refine gf_X9_1 (pc' := 41) hC wF_X9_19 dX9_run_38 rfl ?_
    refine gf_X6_5 (pc' := 44) hC wF_X9_79 dX9_run_41 rfl ?_
    refine gg_topi (b := nI (rd σ 8 5)) ((uv_cell _ _ _ _ (by decide)).trans (hI.nk.1)) ?_
    refine f_Vv (pc' := 47) (k := 1) (st := []) hC (c_parseScript x.2.1 g z0 (uv σ 0 2 (nI 0)) ((cn n)) ((nI (rd σ 8 4))) ((nI (rd σ 8 5))) (hK) (by omega)) k_X5_parseScript wM_X9_80 (by decide) (by decide) (ct_1 g (uv σ 0 2 (nI 0))) rfl rfl rfl rfl (Nat.le_of_ble_eq_true rfl) dX9_run_44 rfl (hY.c (by decide)) (hY.s (by decide)) ?_
    refine gg_st (σ' := crP σ n) (rfl) ?_
    refine g_aload_n (pc' := 48) (j := 0) hC dX9_run_47 rfl rfl rfl ?_
    refine gf_X9_0 (pc' := 51) hC wF_X9_10 dX9_run_48 rfl ?_
    refine f_Vi (pc' := 54) (k := 1) (st := []) hC (c_hasFailed x.2.1 g z0 (crP σ n)) k_X5_hasFailed wM_X9_54 (by decide) (by decide) (ct_1 g (crP σ n)) rfl rfl rfl rfl (Nat.le_of_ble_eq_true rfl) dX9_run_51 rfl (hY.c (by decide)) (hY.s (by decide)) ?_
    refine b_if_eq (pc' := 57) (tgt := 67) hC dX9_run_54 (by decide) rfl (fun c54 => ?_) (fun c54 => ?_)
    · skip
      have hO9 := hO q9 c12 (Classical.not_not.mp c54)
      have hn9 := cpR_n (uv σ 0 2 (nI 0)) hnL (nI (rd σ 8 4)) (nI (rd σ 8 5))
      have hn60 : rd (crP σ n) 1 3 ≤ 60 := hn9.1.2
      refine g_iconst (pc' := 68) (v := nI 0) hC dX9_run_67 rfl rfl ?_
      refine g_istore_n (pc' := 69) (lv' := [(2, .int (nI 0)), (0, .ref (g.2.1 0)), (1, .int (nI (cn n)))]) hC dX9_run_68 rfl rfl (by decide) rfl ?_
      refine g_iconst (pc' := 70) (v := nI 0) hC dX9_run_69 rfl rfl ?_
      refine g_istore_n (pc' := 71) (lv' := [(3, .int (nI 0)), (2, .int (nI 0)), (0, .ref (g.2.1 0)), (1, .int (nI (cn n)))]) hC dX9_run_70 rfl rfl (by decide) rfl ?_
      have L71 : ∀ (fu : Nat) (i : Nat), (i ≤ rd (crP σ n) 1 3) → (rd (crP σ n) 1 3 - i) < fu → GG x g z0 4 1 6 (Xi x g z0 (FXi (wRu σ n) (nI ((cRn (crP σ n) (rd (crP σ n) 1 3)).1)) (crS σ n)) (FXx (wRu σ n) (crS σ n)) 2) ((cRn (crP σ n) i).2) 71 [(3, .int (nI i)), (2, .int (nI ((cRn (crP σ n) i).1))), (0, .ref (g.2.1 0)), (1, .int (nI (cn n)))] [] := by
        intro fu
        induction fu with
        | zero => intro i hi hz; exact absurd hz (Nat.not_lt_zero _)
        | succ fu ih71 =>
          intro i hi hf
          refine g_iload_n (pc' := 72) (j := 0) hC dX9_run_71 rfl rfl rfl ?_
          refine g_aload_n (pc' := 73) (j := 2) hC dX9_run_72 rfl rfl rfl ?_
          refine gf_X9_0 (pc' := 76) hC wF_X9_10 dX9_run_73 rfl ?_
          refine gf_X5_3 (pc' := 79) hC wF_X9_85 dX9_run_76 rfl ?_
          refine gg_topi (b := nI (rd (crP σ n) 1 3)) ((congrFun ((KU_cRn hO9 i hi).1 1 (by omega)) 3).trans hn9.1.1) ?_
          refine n_icmp_ge (pc' := 82) (tgt := 107) hC dX9_run_79 (by decide) rfl (by omega) (by omega) (fun c79 => ?_) (fun c79 => ?_)
          · skip
            have hi9 : i = rd (crP σ n) 1 3 := by omega
            have hle9 := cRn_le (crP σ n) i
            refine g_aload_n (pc' := 108) (j := 2) hC dX9_run_107 rfl rfl rfl ?_
            refine g_aload_n (pc' := 109) (j := 2) hC dX9_run_108 rfl rfl rfl ?_
            refine gf_X9_0 (pc' := 112) hC wF_X9_10 dX9_run_109 rfl ?_
            refine gf_X5_3 (pc' := 115) hC wF_X9_85 dX9_run_112 rfl ?_
            refine gg_topi (b := nI (rd (crP σ n) 1 3)) ((congrFun ((KU_cRn hO9 i hi).1 1 (by omega)) 3).trans hn9.1.1) ?_
            refine g_iload_n (pc' := 116) (j := 1) hC dX9_run_115 rfl rfl rfl ?_
            refine n_isub (pc' := 117) hC dX9_run_116 rfl (by omega) ?_
            refine pf_X9_3 (pc' := 120) hC wF_X9_73 dX9_run_117 rfl ?_
            refine g_iload_n (pc' := 121) (j := 1) hC dX9_run_120 rfl rfl rfl ?_
            refine gx_ret hC (by decide) (by decide) dX9_run_121 rfl ?_
            exact ⟨by unfold wRu; rw [cI_t q9, cI_f c12, cI_t (Classical.not_not.mp c54)], by rw [hi9], by unfold crS; rw [cI_t q9, cI_f c12, cI_t (Classical.not_not.mp c54), hi9]⟩
          · skip
            refine g_aload_n (pc' := 83) (j := 2) hC dX9_run_82 rfl rfl rfl ?_
            refine g_aload_n (pc' := 84) (j := 2) hC dX9_run_83 rfl rfl rfl ?_
            refine gf_X9_0 (pc' := 87) hC wF_X9_10 dX9_run_84 rfl ?_
            refine gf_X5_1 (pc' := 90) hC wF_X9_88 dX9_run_87 rfl ?_
            refine g_iload_n (pc' := 91) (j := 0) hC dX9_run_90 rfl rfl rfl ?_
            refine a_ldr (pc' := 92) (k := 7) (t := 7) (i := i) hC (by decide) (ct_7 g ((cRn (crP σ n) i).2)) rfl (by omega) (by decide) dX9_run_91 rfl ?_
            refine f_Vi (pc' := 95) (k := 0) (st := []) hC (c_doStep x.2.1 g z0 ((cRn (crP σ n) i).2) i (hK) (hG) ((hO9 i hi).1) ((hO9 i hi).2) (by omega) (KU_sk (KU_cRn hO9 i hi) (hn9.2 i c79))) k_X9_doStep wM_X9_92 (by decide) (by decide) (ct_0 g ((cRn (crP σ n) i).2)) rfl rfl rfl rfl (Nat.le_of_ble_eq_true rfl) dX9_run_92 rfl (hY.c (by decide)) (hY.s (by decide)) ?_
            refine g_if_lt (pc' := 98) (tgt := 101) hC dX9_run_95 (by decide) rfl (fun c95 => ?_) (fun c95 => ?_)
            · skip
              refine g_iinc (pc' := 104) (j := 0) (u := nI (i + 1)) (lv' := [(3, .int (nI (i + 1))), (2, .int (nI ((cRn (crP σ n) i).1))), (0, .ref (g.2.1 0)), (1, .int (nI (cn n)))]) hC dX9_run_101 rfl rfl (nI_add i 1) (by decide) rfl ?_
              refine g_goto (tgt := 71) hC dX9_run_104 (by decide) ?_
              refine gg_st (σ' := ((cRn (crP σ n) ((i + 1))).2)) (rfl) ?_
              refine gg_lv (lv' := [(3, .int (nI (i + 1))), (2, .int (nI ((cRn (crP σ n) i).1))), (0, .ref (g.2.1 0)), (1, .int (nI (cn n)))]) ?_ [0, 1, 2, 3] rfl
              refine gg_lve (lv' := [(3, .int (nI ((i + 1)))), (2, .int (nI ((cRn (crP σ n) ((i + 1))).1))), (0, .ref (g.2.1 0)), (1, .int (nI (cn n)))]) (by rw [cRn_t c95]) ?_
              exact ih71 ((i + 1)) (by omega) (by omega)
            · skip
              refine g_iinc (pc' := 101) (j := 1) (u := nI ((cRn (crP σ n) i).1 + 1)) (lv' := [(2, .int (nI ((cRn (crP σ n) i).1 + 1))), (3, .int (nI i)), (0, .ref (g.2.1 0)), (1, .int (nI (cn n)))]) hC dX9_run_98 rfl rfl (nI_add ((cRn (crP σ n) i).1) 1) (by decide) rfl ?_
              refine g_iinc (pc' := 104) (j := 1) (u := nI (i + 1)) (lv' := [(3, .int (nI (i + 1))), (2, .int (nI ((cRn (crP σ n) i).1 + 1))), (0, .ref (g.2.1 0)), (1, .int (nI (cn n)))]) hC dX9_run_101 rfl rfl (nI_add i 1) (by decide) rfl ?_
              refine g_goto (tgt := 71) hC dX9_run_104 (by decide) ?_
              refine gg_st (σ' := ((cRn (crP σ n) ((i + 1))).2)) (rfl) ?_
              refine gg_lv (lv' := [(3, .int (nI (i + 1))), (2, .int (nI ((cRn (crP σ n) i).1 + 1))), (0, .ref (g.2.1 0)), (1, .int (nI (cn n)))]) ?_ [0, 1, 2, 3] rfl
              refine gg_lve (lv' := [(3, .int (nI ((i + 1)))), (2, .int (nI ((cRn (crP σ n) ((i + 1))).1))), (0, .ref (g.2.1 0)), (1, .int (nI (cn n)))]) (by rw [cRn_f c95]) ?_
              exact ih71 ((i + 1)) (by omega) (by omega)
      refine gg_st (σ' := ((cRn (crP σ n) 0).2)) (rfl) ?_
      refine gg_lv (lv' := [(3, .int (nI 0)), (2, .int (nI 0)), (0, .ref (g.2.1 0)), (1, .int (nI (cn n)))]) ?_ [0, 1, 2, 3] rfl
      refine gg_lve (lv' := [(3, .int (nI 0)), (2, .int (nI ((cRn (crP σ n) 0).1))), (0, .ref (g.2.1 0)), (1, .int (nI (cn n)))]) (rfl) ?_
      exact L71 (rd (crP σ n) 1 3 - 0 + 1) 0 (by omega) (by omega)
    · skip
      exact gx_thS hC hY hT xe_exI (by decide : (83, "the text of the script has an error") ∈ exS) (by decide) (by decide) (by decide) (Nat.le_of_ble_eq_true rfl) dX9_run_57 dX9_run_60 dX9_run_61 dX9_run_63 dX9_run_66 (⟨by unfold wRu; rw [cI_t q9, cI_f c12, cI_f c54], by unfold crS; rw [cI_t q9, cI_f c12, cI_f c54]⟩)
  · skip
    exact gx_thS hC hY hT xe_exI (by decide : (77, "there is no service") ∈ exS) (by decide) (by decide) (by decide) (Nat.le_of_ble_eq_true rfl) dX9_run_15 dX9_run_18 dX9_run_19 dX9_run_21 dX9_run_24 (⟨by unfold wRu; rw [cI_t q9, cI_t c12], by unfold crS; rw [cI_t q9, cI_t c12]⟩)
