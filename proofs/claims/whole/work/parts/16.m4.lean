set_option maxHeartbeats 4000000 in
set_option maxRecDepth 20000 in
theorem m_finds (l : Launch) (g : Lay) (z0 : Nat) (σ : St) (c : Nat) (hc : c < 6) (hM : MI σ)  : CTi l yX10_finds cX10_finds 6 (some .int) 3 g z0 [.ref (g.2.1 15), .int (nI c)] σ (FI (nI (mfc σ c)) (mo1 σ c)) := by
  refine CTi.of (by decide) (Nat.le_of_ble_eq_true rfl) ?_
  intro x hxl hxa hC
  have hC : Cx x RX10 cX10_finds 6 (some .int) 3 g z0 := hC
  have hs := hM.see hc
  have hs2 := hs.2
  have hp := hM.pos hc
  have hp2 := hp.2
  have hl := hM.len (b := rd σ 23 c) (by omega)
  have hl2 := hl.2
  have hN := hM.posts
  have hN2 := hN.2
  show GG x g z0 6 0 0 (Qi x g z0 (FI (nI (mfc σ c)) (mo1 σ c))) σ 0 [(0, .ref (g.2.1 15)), (1, .int (nI c))] []
  refine g_aload_n (pc' := 1) (j := 0) hC dX10_finds_0 rfl rfl rfl ?_
  refine gf_X10_13 (pc' := 4) hC wF_X10_31 dX10_finds_1 rfl ?_
  refine g_iload_n (pc' := 5) (j := 1) hC dX10_finds_4 rfl rfl rfl ?_
  refine a_ld (pc' := 6) (k := 23) (i := c) hC (by decide) (ct_23 g σ) (by omega) (by decide) dX10_finds_5 rfl ?_
  refine gg_topi (b := nI (rd σ 23 c)) (hs.1) ?_
  refine g_istore_n (pc' := 7) (lv' := [(2, .int (nI (rd σ 23 c))), (0, .ref (g.2.1 15)), (1, .int (nI c))]) hC dX10_finds_6 rfl rfl (by decide) rfl ?_
  refine g_aload_n (pc' := 8) (j := 1) hC dX10_finds_7 rfl rfl rfl ?_
  refine gf_X10_14 (pc' := 11) hC wF_X10_34 dX10_finds_8 rfl ?_
  refine g_iload_n (pc' := 12) (j := 2) hC dX10_finds_11 rfl rfl rfl ?_
  refine a_ld (pc' := 13) (k := 24) (i := c) hC (by decide) (ct_24 g σ) (by omega) (by decide) dX10_finds_12 rfl ?_
  refine gg_topi (b := nI (rd σ 24 c)) (hp.1) ?_
  refine g_istore_n (pc' := 14) (lv' := [(3, .int (nI (rd σ 24 c))), (2, .int (nI (rd σ 23 c))), (0, .ref (g.2.1 15)), (1, .int (nI c))]) hC dX10_finds_13 rfl rfl (by decide) rfl ?_
  refine g_aload_n (pc' := 15) (j := 2) hC dX10_finds_14 rfl rfl rfl ?_
  refine g_iload_n (pc' := 16) (j := 0) hC dX10_finds_15 rfl rfl rfl ?_
  refine pf_X10_24 (pc' := 19) hC wF_X10_143 dX10_finds_16 rfl ?_
  refine g_aload_n (pc' := 20) (j := 2) hC dX10_finds_19 rfl rfl rfl ?_
  refine gf_X10_6 (pc' := 23) hC wF_X10_7 dX10_finds_20 rfl ?_
  refine g_iload_n (pc' := 24) (j := 1) hC dX10_finds_23 rfl rfl rfl ?_
  refine a_ld (pc' := 25) (k := 16) (i := rd σ 23 c) hC (by decide) (ct_16 g (uv σ 15 24 (nI (rd σ 24 c)))) (by omega) (by decide) dX10_finds_24 rfl ?_
  refine gg_topi (b := nI (rd σ 16 (rd σ 23 c))) ((uv_cell _ _ _ _ (by decide)).trans (hl.1)) ?_
  refine g_iload_n (pc' := 26) (j := 0) hC dX10_finds_25 rfl rfl rfl ?_
  refine n_icmp_ge (pc' := 29) (tgt := 31) hC dX10_finds_26 (by decide) rfl (by omega) (by omega) (fun c26 => ?_) (fun c26 => ?_)
  · skip
    refine g_aload_n (pc' := 32) (j := 2) hC dX10_finds_31 rfl rfl rfl ?_
    refine g_iload_n (pc' := 33) (j := 1) hC dX10_finds_32 rfl rfl rfl ?_
    refine g_iload_n (pc' := 34) (j := 0) hC dX10_finds_33 rfl rfl rfl ?_
    refine f_Vi (pc' := 37) (k := 15) (st := []) hC (m_hashOf x.2.1 g z0 (uv σ 15 24 (nI (rd σ 24 c))) ((rd σ 23 c)) ((rd σ 24 c)) (by omega) (by omega)) k_X10_hashOf wM_X10_95 (by decide) (by decide) (ct_15 g (uv σ 15 24 (nI (rd σ 24 c)))) rfl rfl rfl rfl (Nat.le_of_ble_eq_true rfl) dX10_finds_34 rfl (Nat.zero_le _) (Nat.zero_le _) ?_
    refine gg_topi (b := mh σ (rd σ 23 c) (rd σ 24 c)) (by simp (disch := decide) only [mh_uv, mh_ur, mcomp_uv, rd_uv, rd_ur, uv_cell, ur_cell, uv_idx, uv_fun, rd_idx, ne_eq, not_false_eq_true]) ?_
    refine g_aload_n (pc' := 38) (j := 2) hC dX10_finds_37 rfl rfl rfl ?_
    refine g_iload_n (pc' := 39) (j := 3) hC dX10_finds_38 rfl rfl rfl ?_
    refine f_Vi (pc' := 42) (k := 15) (st := [.int (mh σ (rd σ 23 c) (rd σ 24 c))]) hC (m_ownHash x.2.1 g z0 (uv σ 15 24 (nI (rd σ 24 c))) c (by omega) (by first | exact hp | (simp (disch := decide) only [nb, rd_uv, rd_ur, uv_cell, ur_cell]; exact hp) | omega)) k_X10_ownHash wM_X10_139 (by decide) (by decide) (ct_15 g (uv σ 15 24 (nI (rd σ 24 c)))) rfl rfl rfl rfl (Nat.le_of_ble_eq_true rfl) dX10_finds_39 rfl (Nat.zero_le _) (Nat.zero_le _) ?_
    refine gg_topi (b := σ.1 27 (201 * c + rd σ 24 c)) (by simp (disch := decide) only [mh_uv, mh_ur, mcomp_uv, rd_uv, rd_ur, uv_cell, ur_cell, uv_idx, uv_fun, rd_idx, ne_eq, not_false_eq_true]) ?_
    refine g_icmp_eq (pc' := 45) (tgt := 86) hC dX10_finds_42 (by decide) rfl (fun c42 => ?_) (fun c42 => ?_)
    · skip
      refine g_iload_n (pc' := 87) (j := 0) hC dX10_finds_86 rfl rfl rfl ?_
      refine g_iconst (pc' := 88) (v := nI 1) hC dX10_finds_87 rfl rfl ?_
      refine n_iadd (pc' := 89) hC dX10_finds_88 rfl ?_
      refine g_istore (pc' := 91) (lv' := [(4, .int (nI ((rd σ 24 c) + 1))), (3, .int (nI (rd σ 24 c))), (2, .int (nI (rd σ 23 c))), (0, .ref (g.2.1 15)), (1, .int (nI c))]) hC dX10_finds_89 rfl (by decide) rfl ?_
      have L91 : ∀ (fu : Nat) (n : Nat), (rd σ 24 c + 1 ≤ n) → (n ≤ rd σ 16 (rd σ 23 c) + 1) → (∀ j, rd σ 24 c < j → j < n → ¬ mbad σ (rd σ 23 c) j) → (rd σ 16 (rd σ 23 c) + 1 - n) < fu → GG x g z0 6 0 0 (Qi x g z0 (FI (nI (mfc σ c)) (mo1 σ c))) (uv σ 15 24 (nI (rd σ 24 c))) 91 [(4, .int (nI n)), (3, .int (nI (rd σ 24 c))), (2, .int (nI (rd σ 23 c))), (0, .ref (g.2.1 15)), (1, .int (nI c))] [] := by
        intro fu
        induction fu with
        | zero => intro n hn1 hn2 hmin hz; exact absurd hz (Nat.not_lt_zero _)
        | succ fu ih91 =>
          intro n hn1 hn2 hmin hf
          refine g_iload (pc' := 93) (j := 0) hC dX10_finds_91 rfl rfl ?_
          refine g_aload_n (pc' := 94) (j := 3) hC dX10_finds_93 rfl rfl rfl ?_
          refine gf_X10_6 (pc' := 97) hC wF_X10_7 dX10_finds_94 rfl ?_
          refine g_iload_n (pc' := 98) (j := 2) hC dX10_finds_97 rfl rfl rfl ?_
          refine a_ld (pc' := 99) (k := 16) (i := rd σ 23 c) hC (by decide) (ct_16 g (uv σ 15 24 (nI (rd σ 24 c)))) (by omega) (by decide) dX10_finds_98 rfl ?_
          refine gg_topi (b := nI (rd σ 16 (rd σ 23 c))) ((uv_cell _ _ _ _ (by decide)).trans (hl.1)) ?_
          refine n_icmp_gt (pc' := 102) (tgt := 133) hC dX10_finds_99 (by decide) rfl (by omega) (by omega) (fun c99 => ?_) (fun c99 => ?_)
          · skip
            refine g_iconst (pc' := 134) (v := nI 0) hC dX10_finds_133 rfl rfl ?_
            refine g_istore (pc' := 136) (lv' := [(4, .int (nI 0)), (3, .int (nI (rd σ 24 c))), (2, .int (nI (rd σ 23 c))), (0, .ref (g.2.1 15)), (1, .int (nI c))]) hC dX10_finds_134 rfl (by decide) rfl ?_
            have L136 : ∀ (fu : Nat) (k : Nat), (k ≤ rd σ 15 21) → (∀ j, j < k → ¬ mwit σ (rd σ 23 c) j) → (rd σ 15 21 - k) < fu → GG x g z0 6 0 0 (Qi x g z0 (FI (nI (mfc σ c)) (mo1 σ c))) (uv σ 15 24 (nI (rd σ 24 c))) 136 [(4, .int (nI k)), (3, .int (nI (rd σ 24 c))), (2, .int (nI (rd σ 23 c))), (0, .ref (g.2.1 15)), (1, .int (nI c))] [] := by
              intro fu
              induction fu with
              | zero => intro k hk hw hz; exact absurd hz (Nat.not_lt_zero _)
              | succ fu ih136 =>
                intro k hk hw hf
                refine g_iload (pc' := 138) (j := 0) hC dX10_finds_136 rfl rfl ?_
                refine g_aload_n (pc' := 139) (j := 3) hC dX10_finds_138 rfl rfl rfl ?_
                refine gf_X10_21 (pc' := 142) hC wF_X10_126 dX10_finds_139 rfl ?_
                refine gg_topi (b := nI (rd σ 15 21)) ((uv_idx _ _ _ _ (by decide)).trans (hN.1)) ?_
                refine n_icmp_ge (pc' := 145) (tgt := 204) hC dX10_finds_142 (by decide) rfl (by omega) (by omega) (fun c142 => ?_) (fun c142 => ?_)
                · skip
                  refine g_iconst (pc' := 205) (v := nI 0) hC dX10_finds_204 rfl rfl ?_
                  refine g_ret hC dX10_finds_205 rfl ?_
                  have e := caseF_0 (df := mdf σ c) (bad := mbad σ (rd σ 23 c)) (wit := mwit σ (rd σ 23 c)) c26 (fun z => z c42) (fun j a b => hmin j a (by omega)) (fun j z => (Nat.lt_or_ge j k).elim (fun q => hw j q z) (fun q => absurd z.1 (by omega))); exact ⟨by rw [mfc, e.1], by rw [mo1, mfa, e.2]⟩
                · skip
                  have hpp2 := (hM.pps (k := k) (by omega)).2
                  refine g_aload_n (pc' := 146) (j := 3) hC dX10_finds_145 rfl rfl rfl ?_
                  refine gf_X10_19 (pc' := 149) hC wF_X10_50 dX10_finds_146 rfl ?_
                  refine g_iconst (pc' := 150) (v := nI 4) hC dX10_finds_149 rfl rfl ?_
                  refine g_iload (pc' := 152) (j := 0) hC dX10_finds_150 rfl rfl ?_
                  refine n_imul (pc' := 153) hC dX10_finds_152 rfl ?_
                  refine g_iconst (pc' := 154) (v := nI 1) hC dX10_finds_153 rfl rfl ?_
                  refine n_iadd (pc' := 155) hC dX10_finds_154 rfl ?_
                  refine a_ld (pc' := 156) (k := 29) (i := (4 * k) + 1) hC (by decide) (ct_29 g (uv σ 15 24 (nI (rd σ 24 c)))) (by omega) (by decide) dX10_finds_155 rfl ?_
                  refine gg_topi (b := nI (rd σ 29 (4 * k + 1))) ((uv_cell _ _ _ _ (by decide)).trans ((hM.pps (by omega)).1)) ?_
                  refine g_istore (pc' := 158) (lv' := [(5, .int (nI (rd σ 29 (4 * k + 1)))), (4, .int (nI k)), (3, .int (nI (rd σ 24 c))), (2, .int (nI (rd σ 23 c))), (0, .ref (g.2.1 15)), (1, .int (nI c))]) hC dX10_finds_156 rfl (by decide) rfl ?_
                  refine g_iload (pc' := 160) (j := 0) hC dX10_finds_158 rfl rfl ?_
                  refine g_aload_n (pc' := 161) (j := 4) hC dX10_finds_160 rfl rfl rfl ?_
                  refine gf_X10_6 (pc' := 164) hC wF_X10_7 dX10_finds_161 rfl ?_
                  refine g_iload_n (pc' := 165) (j := 3) hC dX10_finds_164 rfl rfl rfl ?_
                  refine a_ld (pc' := 166) (k := 16) (i := rd σ 23 c) hC (by decide) (ct_16 g (uv σ 15 24 (nI (rd σ 24 c)))) (by omega) (by decide) dX10_finds_165 rfl ?_
                  refine gg_topi (b := nI (rd σ 16 (rd σ 23 c))) ((uv_cell _ _ _ _ (by decide)).trans (hl.1)) ?_
                  refine n_icmp_gt (pc' := 169) (tgt := 198) hC dX10_finds_166 (by decide) rfl (by omega) (by omega) (fun c166 => ?_) (fun c166 => ?_)
                  · skip
                    refine g_iinc (pc' := 201) (j := 1) (u := nI (k + 1)) (lv' := [(4, .int (nI (k + 1))), (5, .int (nI (rd σ 29 (4 * k + 1)))), (3, .int (nI (rd σ 24 c))), (2, .int (nI (rd σ 23 c))), (0, .ref (g.2.1 15)), (1, .int (nI c))]) hC dX10_finds_198 rfl rfl (nI_add k 1) (by decide) rfl ?_
                    refine g_goto (tgt := 136) hC dX10_finds_201 (by decide) ?_
                    refine gg_lv (lv' := [(4, .int (nI (k + 1))), (3, .int (nI (rd σ 24 c))), (2, .int (nI (rd σ 23 c))), (0, .ref (g.2.1 15)), (1, .int (nI c))]) ?_ [0, 2, 3, 4, 5] rfl
                    exact ih136 (k + 1) (by omega) (by first | exact lt_s hw (fun z => z.2.2 c187) | exact lt_s hw (fun z => absurd z.2.1 (by omega))) (by omega)
                  · skip
                    refine g_aload_n (pc' := 170) (j := 4) hC dX10_finds_169 rfl rfl rfl ?_
                    refine gf_X10_19 (pc' := 173) hC wF_X10_50 dX10_finds_170 rfl ?_
                    refine g_iconst (pc' := 174) (v := nI 4) hC dX10_finds_173 rfl rfl ?_
                    refine g_iload (pc' := 176) (j := 1) hC dX10_finds_174 rfl rfl ?_
                    refine n_imul (pc' := 177) hC dX10_finds_176 rfl ?_
                    refine g_iconst (pc' := 178) (v := nI 2) hC dX10_finds_177 rfl rfl ?_
                    refine n_iadd (pc' := 179) hC dX10_finds_178 rfl ?_
                    refine a_ld (pc' := 180) (k := 29) (i := (4 * k) + 2) hC (by decide) (ct_29 g (uv σ 15 24 (nI (rd σ 24 c)))) (by omega) (by decide) dX10_finds_179 rfl ?_
                    refine gg_topi (b := σ.1 29 ((4 * k) + 2)) (uv_cell _ _ _ _ (by decide)) ?_
                    refine g_aload_n (pc' := 181) (j := 4) hC dX10_finds_180 rfl rfl rfl ?_
                    refine g_iload_n (pc' := 182) (j := 3) hC dX10_finds_181 rfl rfl rfl ?_
                    refine g_iload (pc' := 184) (j := 0) hC dX10_finds_182 rfl rfl ?_
                    refine f_Vi (pc' := 187) (k := 15) (st := [.int (σ.1 29 ((4 * k) + 2))]) hC (m_hashOf x.2.1 g z0 (uv σ 15 24 (nI (rd σ 24 c))) ((rd σ 23 c)) ((rd σ 29 (4 * k + 1))) (by omega) (by omega)) k_X10_hashOf wM_X10_95 (by decide) (by decide) (ct_15 g (uv σ 15 24 (nI (rd σ 24 c)))) rfl rfl rfl rfl (Nat.le_of_ble_eq_true rfl) dX10_finds_184 rfl (Nat.zero_le _) (Nat.zero_le _) ?_
                    refine gg_topi (b := mh σ (rd σ 23 c) (rd σ 29 (4 * k + 1))) (by simp (disch := decide) only [mh_uv, mh_ur, mcomp_uv, rd_uv, rd_ur, uv_cell, ur_cell, uv_idx, uv_fun, rd_idx, ne_eq, not_false_eq_true]) ?_
                    refine g_icmp_eq (pc' := 190) (tgt := 198) hC dX10_finds_187 (by decide) rfl (fun c187 => ?_) (fun c187 => ?_)
                    · skip
                      refine g_iinc (pc' := 201) (j := 1) (u := nI (k + 1)) (lv' := [(4, .int (nI (k + 1))), (5, .int (nI (rd σ 29 (4 * k + 1)))), (3, .int (nI (rd σ 24 c))), (2, .int (nI (rd σ 23 c))), (0, .ref (g.2.1 15)), (1, .int (nI c))]) hC dX10_finds_198 rfl rfl (nI_add k 1) (by decide) rfl ?_
                      refine g_goto (tgt := 136) hC dX10_finds_201 (by decide) ?_
                      refine gg_lv (lv' := [(4, .int (nI (k + 1))), (3, .int (nI (rd σ 24 c))), (2, .int (nI (rd σ 23 c))), (0, .ref (g.2.1 15)), (1, .int (nI c))]) ?_ [0, 2, 3, 4, 5] rfl
                      exact ih136 (k + 1) (by omega) (by first | exact lt_s hw (fun z => z.2.2 c187) | exact lt_s hw (fun z => absurd z.2.1 (by omega))) (by omega)
                    · skip
                      refine g_aload_n (pc' := 191) (j := 4) hC dX10_finds_190 rfl rfl rfl ?_
                      refine g_iload (pc' := 193) (j := 1) hC dX10_finds_191 rfl rfl ?_
                      refine pf_X10_24 (pc' := 196) hC wF_X10_143 dX10_finds_193 rfl ?_
                      refine g_iconst (pc' := 197) (v := nI 4) hC dX10_finds_196 rfl rfl ?_
                      refine g_ret hC dX10_finds_197 rfl ?_
                      have e := caseF_4 (df := mdf σ c) (bad := mbad σ (rd σ 23 c)) (wit := mwit σ (rd σ 23 c)) (k := k) c26 (fun z => z c42) (fun j a b => hmin j a (by omega)) ⟨by omega, by omega, c187⟩ hw; exact ⟨by rw [mfc, e.1], by rw [mo1, mfa, e.2, uv_uv]⟩
            refine gg_lv (lv' := [(4, .int (nI 0)), (3, .int (nI (rd σ 24 c))), (2, .int (nI (rd σ 23 c))), (0, .ref (g.2.1 15)), (1, .int (nI c))]) ?_ [0, 1, 2, 3, 4] rfl
            exact L136 (rd σ 15 21 - 0 + 1) 0 (by omega) (lt_0) (by omega)
          · skip
            refine g_aload_n (pc' := 103) (j := 3) hC dX10_finds_102 rfl rfl rfl ?_
            refine g_iload_n (pc' := 104) (j := 2) hC dX10_finds_103 rfl rfl rfl ?_
            refine g_iload (pc' := 106) (j := 0) hC dX10_finds_104 rfl rfl ?_
            refine f_Vi (pc' := 109) (k := 15) (st := []) hC (m_computed x.2.1 g z0 (uv σ 15 24 (nI (rd σ 24 c))) ((rd σ 23 c)) n (by omega) (by omega) (by omega)) k_X10_computed wM_X10_120 (by decide) (by decide) (ct_15 g (uv σ 15 24 (nI (rd σ 24 c)))) rfl rfl rfl rfl (Nat.le_of_ble_eq_true rfl) dX10_finds_106 rfl (Nat.zero_le _) (Nat.zero_le _) ?_
            refine gg_topi (b := mcomp σ (rd σ 23 c) n) (by simp (disch := decide) only [mh_uv, mh_ur, mcomp_uv, rd_uv, rd_ur, uv_cell, ur_cell, uv_idx, uv_fun, rd_idx, ne_eq, not_false_eq_true]) ?_
            refine g_aload_n (pc' := 110) (j := 3) hC dX10_finds_109 rfl rfl rfl ?_
            refine g_iload_n (pc' := 111) (j := 2) hC dX10_finds_110 rfl rfl rfl ?_
            refine g_iload (pc' := 113) (j := 0) hC dX10_finds_111 rfl rfl ?_
            refine f_Vi (pc' := 116) (k := 15) (st := [.int (mcomp σ (rd σ 23 c) n)]) hC (m_hashOf x.2.1 g z0 (uv σ 15 24 (nI (rd σ 24 c))) ((rd σ 23 c)) n (by omega) (by omega)) k_X10_hashOf wM_X10_95 (by decide) (by decide) (ct_15 g (uv σ 15 24 (nI (rd σ 24 c)))) rfl rfl rfl rfl (Nat.le_of_ble_eq_true rfl) dX10_finds_113 rfl (Nat.zero_le _) (Nat.zero_le _) ?_
            refine gg_topi (b := mh σ (rd σ 23 c) n) (by simp (disch := decide) only [mh_uv, mh_ur, mcomp_uv, rd_uv, rd_ur, uv_cell, ur_cell, uv_idx, uv_fun, rd_idx, ne_eq, not_false_eq_true]) ?_
            refine g_icmp_eq (pc' := 119) (tgt := 127) hC dX10_finds_116 (by decide) rfl (fun c116 => ?_) (fun c116 => ?_)
            · skip
              refine g_iinc (pc' := 130) (j := 0) (u := nI (n + 1)) (lv' := [(4, .int (nI (n + 1))), (3, .int (nI (rd σ 24 c))), (2, .int (nI (rd σ 23 c))), (0, .ref (g.2.1 15)), (1, .int (nI c))]) hC dX10_finds_127 rfl rfl (nI_add n 1) (by decide) rfl ?_
              refine g_goto (tgt := 91) hC dX10_finds_130 (by decide) ?_
              refine gg_lv (lv' := [(4, .int (nI (n + 1))), (3, .int (nI (rd σ 24 c))), (2, .int (nI (rd σ 23 c))), (0, .ref (g.2.1 15)), (1, .int (nI c))]) ?_ [0, 1, 2, 3, 4] rfl
              exact ih91 (n + 1) (by omega) (by omega) (fun j a b => (Nat.lt_or_eq_of_le (Nat.le_of_lt_succ b)).elim (fun q => hmin j a q) (fun q z => z (q ▸ c116))) (by omega)
            · skip
              refine g_aload_n (pc' := 120) (j := 3) hC dX10_finds_119 rfl rfl rfl ?_
              refine g_iload (pc' := 122) (j := 0) hC dX10_finds_120 rfl rfl ?_
              refine pf_X10_24 (pc' := 125) hC wF_X10_143 dX10_finds_122 rfl ?_
              refine g_iconst (pc' := 126) (v := nI 3) hC dX10_finds_125 rfl rfl ?_
              refine g_ret hC dX10_finds_126 rfl ?_
              have e := caseF_3 (wit := mwit σ (rd σ 23 c)) (df := mdf σ c) c26 (fun z => z c42) (show rd σ 24 c < n by omega) c99 c116 hmin; exact ⟨by rw [mfc, e.1], by rw [mo1, mfa, e.2, uv_uv]⟩
      refine gg_lv (lv' := [(4, .int (nI ((rd σ 24 c) + 1))), (3, .int (nI (rd σ 24 c))), (2, .int (nI (rd σ 23 c))), (0, .ref (g.2.1 15)), (1, .int (nI c))]) ?_ [0, 1, 2, 3, 4] rfl
      exact L91 (rd σ 16 (rd σ 23 c) + 1 - (rd σ 24 c + 1) + 1) (rd σ 24 c + 1) (by omega) (by omega) (fun j a b => absurd b (by omega)) (by omega)
    · skip
      refine g_aload_n (pc' := 46) (j := 2) hC dX10_finds_45 rfl rfl rfl ?_
      refine g_iconst (pc' := 47) (v := nI 0) hC dX10_finds_46 rfl rfl ?_
      refine pf_X10_24 (pc' := 50) hC wF_X10_143 dX10_finds_47 rfl ?_
      have L50 : ∀ (fu : Nat) (n : Nat), (n ≤ rd σ 24 c) → (∀ j, j < n → ¬ mdf σ c j) → (rd σ 24 c + 1 - n) < fu → GG x g z0 6 0 0 (Qi x g z0 (FI (nI (mfc σ c)) (mo1 σ c))) (uv σ 15 24 (nI n)) 50 [(3, .int (nI (rd σ 24 c))), (2, .int (nI (rd σ 23 c))), (0, .ref (g.2.1 15)), (1, .int (nI c))] [] := by
        intro fu
        induction fu with
        | zero => intro n hn hmin hz; exact absurd hz (Nat.not_lt_zero _)
        | succ fu ih50 =>
          intro n hn hmin hf
          refine g_aload_n (pc' := 51) (j := 2) hC dX10_finds_50 rfl rfl rfl ?_
          refine g_iload_n (pc' := 52) (j := 1) hC dX10_finds_51 rfl rfl rfl ?_
          refine g_aload_n (pc' := 53) (j := 2) hC dX10_finds_52 rfl rfl rfl ?_
          refine gf_X10_24 (pc' := 56) hC wF_X10_143 dX10_finds_53 rfl ?_
          refine gg_topi (b := nI n) (uv_same _ _ _ _) ?_
          refine f_Vi (pc' := 59) (k := 15) (st := []) hC (m_hashOf x.2.1 g z0 (uv σ 15 24 (nI n)) ((rd σ 23 c)) n (by omega) (by omega)) k_X10_hashOf wM_X10_95 (by decide) (by decide) (ct_15 g (uv σ 15 24 (nI n))) rfl rfl rfl rfl (Nat.le_of_ble_eq_true rfl) dX10_finds_56 rfl (Nat.zero_le _) (Nat.zero_le _) ?_
          refine gg_topi (b := mh σ (rd σ 23 c) n) (by simp (disch := decide) only [mh_uv, mh_ur, mcomp_uv, rd_uv, rd_ur, uv_cell, ur_cell, uv_idx, uv_fun, rd_idx, ne_eq, not_false_eq_true]) ?_
          refine g_aload_n (pc' := 60) (j := 2) hC dX10_finds_59 rfl rfl rfl ?_
          refine g_iload_n (pc' := 61) (j := 3) hC dX10_finds_60 rfl rfl rfl ?_
          refine g_aload_n (pc' := 62) (j := 2) hC dX10_finds_61 rfl rfl rfl ?_
          refine gf_X10_24 (pc' := 65) hC wF_X10_143 dX10_finds_62 rfl ?_
          refine gg_topi (b := nI n) (uv_same _ _ _ _) ?_
          refine f_Vi (pc' := 68) (k := 15) (st := [.int (mh σ (rd σ 23 c) n)]) hC (m_hashIn x.2.1 g z0 (uv σ 15 24 (nI n)) c n (by omega) (by omega)) k_X10_hashIn wM_X10_90 (by decide) (by decide) (ct_15 g (uv σ 15 24 (nI n))) rfl rfl rfl rfl (Nat.le_of_ble_eq_true rfl) dX10_finds_65 rfl (Nat.zero_le _) (Nat.zero_le _) ?_
          refine gg_topi (b := σ.1 27 (201 * c + n)) (by simp (disch := decide) only [mh_uv, mh_ur, mcomp_uv, rd_uv, rd_ur, uv_cell, ur_cell, uv_idx, uv_fun, rd_idx, ne_eq, not_false_eq_true]) ?_
          refine g_icmp_ne (pc' := 71) (tgt := 84) hC dX10_finds_68 (by decide) rfl (fun c68 => ?_) (fun c68 => ?_)
          · skip
            refine g_iconst (pc' := 85) (v := nI 2) hC dX10_finds_84 rfl rfl ?_
            refine g_ret hC dX10_finds_85 rfl ?_
            have e := caseF_2 (bad := mbad σ (rd σ 23 c)) (wit := mwit σ (rd σ 23 c)) c26 c42 c68 hmin; exact ⟨by rw [mfc, e.1], by rw [mo1, mfa, e.2]⟩
          · skip
            refine g_aload_n (pc' := 72) (j := 2) hC dX10_finds_71 rfl rfl rfl ?_
            refine g_aload_n (pc' := 73) (j := 2) hC dX10_finds_72 rfl rfl rfl ?_
            refine gf_X10_24 (pc' := 76) hC wF_X10_143 dX10_finds_73 rfl ?_
            refine gg_topi (b := nI n) (uv_same _ _ _ _) ?_
            refine g_iconst (pc' := 77) (v := nI 1) hC dX10_finds_76 rfl rfl ?_
            refine n_iadd (pc' := 78) hC dX10_finds_77 rfl ?_
            refine pf_X10_24 (pc' := 81) hC wF_X10_143 dX10_finds_78 rfl ?_
            refine g_goto (tgt := 50) hC dX10_finds_81 (by decide) ?_
            refine gg_st (σ' := (uv σ 15 24 (nI (n + 1)))) (uv_uv _ _ _ _ _) ?_
            refine gg_lv (lv' := [(3, .int (nI (rd σ 24 c))), (2, .int (nI (rd σ 23 c))), (0, .ref (g.2.1 15)), (1, .int (nI c))]) ?_ [0, 1, 2, 3] rfl
            exact ih50 (n + 1) (by have : n ≠ rd σ 24 c := (fun e => c42 (e ▸ c68)); omega) (lt_s hmin (fun z => z c68)) (by omega)
      refine gg_st (σ' := (uv σ 15 24 (nI 0))) (uv_uv _ _ _ _ _) ?_
      refine gg_lv (lv' := [(3, .int (nI (rd σ 24 c))), (2, .int (nI (rd σ 23 c))), (0, .ref (g.2.1 15)), (1, .int (nI c))]) ?_ [0, 1, 2, 3] rfl
      exact L50 (rd σ 24 c + 1 - 0 + 1) 0 (by omega) (lt_0) (by omega)
  · skip
    refine g_iconst (pc' := 30) (v := nI 1) hC dX10_finds_29 rfl rfl ?_
    refine g_ret hC dX10_finds_30 rfl ?_
    have e := caseF_1 (df := mdf σ c) (bad := mbad σ (rd σ 23 c)) (wit := mwit σ (rd σ 23 c)) c26; exact ⟨by rw [mfc, e.1], by rw [mo1, mfa, e.2]⟩
