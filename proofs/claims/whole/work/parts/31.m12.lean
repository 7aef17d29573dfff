set_option maxHeartbeats 4000000 in
set_option maxRecDepth 20000 in
theorem m_byteAt (l : Launch) (g : Lay) (z0 : Nat) (σ : St) (k : Nat) (hk : k ≤ 2000) (he : nb σ 15 28 900)  : CTi l yX10_byteAt cX10_byteAt 2 (some .int) 0 g z0 [.ref (g.2.1 15), .int (nI k)] σ (FI (mB σ k) σ) := by
  refine CTi.of (by decide) (Nat.le_of_ble_eq_true rfl) ?_
  intro x hxl hxa hC
  have hC : Cx x RX10 cX10_byteAt 2 (some .int) 0 g z0 := hC
  have he2 := he.2
  show GG x g z0 2 0 0 (Qi x g z0 (FI (mB σ k) σ)) σ 0 [(0, .ref (g.2.1 15)), (1, .int (nI k))] []
  refine g_iload_n (pc' := 1) (j := 1) hC dX10_byteAt_0 rfl rfl rfl ?_
  refine g_aload_n (pc' := 2) (j := 0) hC dX10_byteAt_1 rfl rfl rfl ?_
  refine gf_X10_28 (pc' := 5) hC wF_X10_231 dX10_byteAt_2 rfl ?_
  refine gg_topi (b := nI (rd σ 15 28)) (he.1) ?_
  refine n_icmp_ge (pc' := 8) (tgt := 17) hC dX10_byteAt_5 (by decide) rfl (by omega) (by omega) (fun c5 => ?_) (fun c5 => ?_)
  · skip
    refine g_iconst (pc' := 18) (v := (-1)) hC dX10_byteAt_17 rfl rfl ?_
    refine g_ret hC dX10_byteAt_18 rfl ?_
    refine ⟨?_, rfl⟩; first | exact (if_pos c5).symm | exact (if_neg (Nat.not_lt.mpr c5)).symm
  · skip
    refine g_aload_n (pc' := 9) (j := 0) hC dX10_byteAt_8 rfl rfl rfl ?_
    refine gf_X10_25 (pc' := 12) hC wF_X10_56 dX10_byteAt_9 rfl ?_
    refine g_iload_n (pc' := 13) (j := 1) hC dX10_byteAt_12 rfl rfl rfl ?_
    refine a_ld (pc' := 14) (k := 31) (i := k) hC (by decide) (ct_31 g σ) (by omega) (by decide) dX10_byteAt_13 rfl ?_
    refine g_goto (tgt := 18) hC dX10_byteAt_14 (by decide) ?_
    refine g_ret hC dX10_byteAt_18 rfl ?_
    refine ⟨?_, rfl⟩; first | exact (if_pos c5).symm | exact (if_neg (Nat.not_lt.mpr c5)).symm
set_option maxHeartbeats 4000000 in
set_option maxRecDepth 20000 in
theorem m_isLetter (l : Launch) (g : Lay) (z0 : Nat) (σ : St) (c : Int32)   : CTi l yX10_isLetter cX10_isLetter 1 (some .boolean) 1 g z0 [.int c] σ (FI (bI (ltr c)) σ) := by
  refine CTi.of (by decide) (Nat.le_of_ble_eq_true rfl) ?_
  intro x hxl hxa hC
  have hC : Cx x RX10 cX10_isLetter 1 (some .boolean) 1 g z0 := hC
  show GG x g z0 1 0 0 (Qi x g z0 (FI (bI (ltr c)) σ)) σ 0 [(0, .int c)] []
  refine g_iload_n (pc' := 1) (j := 0) hC dX10_isLetter_0 rfl rfl rfl ?_
  refine g_bipush (pc' := 3) (v := nI 97) hC dX10_isLetter_1 rfl rfl ?_
  refine g_bipush (pc' := 5) (v := nI 122) hC dX10_isLetter_3 rfl rfl ?_
  refine f_Si (pc' := 8) (st := []) hC (m_in x.2.1 g z0 σ c ((nI 97)) ((nI 122))) k_X10_in wM_X10_72 (by decide) rfl rfl (Nat.le_of_ble_eq_true rfl) dX10_isLetter_5 rfl (Nat.zero_le _) (Nat.zero_le _) ?_
  refine g_ret hC dX10_isLetter_8 (bI_nar _) ?_
  exact ⟨rfl, rfl⟩
set_option maxHeartbeats 4000000 in
set_option maxRecDepth 20000 in
theorem m_isDigit (l : Launch) (g : Lay) (z0 : Nat) (σ : St) (c : Int32)   : CTi l yX10_isDigit cX10_isDigit 1 (some .boolean) 1 g z0 [.int c] σ (FI (bI (dgt c)) σ) := by
  refine CTi.of (by decide) (Nat.le_of_ble_eq_true rfl) ?_
  intro x hxl hxa hC
  have hC : Cx x RX10 cX10_isDigit 1 (some .boolean) 1 g z0 := hC
  show GG x g z0 1 0 0 (Qi x g z0 (FI (bI (dgt c)) σ)) σ 0 [(0, .int c)] []
  refine g_iload_n (pc' := 1) (j := 0) hC dX10_isDigit_0 rfl rfl rfl ?_
  refine g_bipush (pc' := 3) (v := nI 48) hC dX10_isDigit_1 rfl rfl ?_
  refine g_bipush (pc' := 5) (v := nI 57) hC dX10_isDigit_3 rfl rfl ?_
  refine f_Si (pc' := 8) (st := []) hC (m_in x.2.1 g z0 σ c ((nI 48)) ((nI 57))) k_X10_in wM_X10_72 (by decide) rfl rfl (Nat.le_of_ble_eq_true rfl) dX10_isDigit_5 rfl (Nat.zero_le _) (Nat.zero_le _) ?_
  refine g_ret hC dX10_isDigit_8 (bI_nar _) ?_
  exact ⟨rfl, rfl⟩
set_option maxHeartbeats 4000000 in
set_option maxRecDepth 20000 in
theorem m_fails (l : Launch) (g : Lay) (z0 : Nat) (σ : St) (c : Int32) (n : Int32)   : CTi l yX10_fails cX10_fails 3 (some .boolean) 0 g z0 [.ref (g.2.1 15), .int c, .int n] σ (FI (nI 0) (mfl σ c n)) := by
  refine CTi.of (by decide) (Nat.le_of_ble_eq_true rfl) ?_
  intro x hxl hxa hC
  have hC : Cx x RX10 cX10_fails 3 (some .boolean) 0 g z0 := hC
  show GG x g z0 3 0 0 (Qi x g z0 (FI (nI 0) (mfl σ c n))) σ 0 [(0, .ref (g.2.1 15)), (1, .int c), (2, .int n)] []
  refine g_aload_n (pc' := 1) (j := 0) hC dX10_fails_0 rfl rfl rfl ?_
  refine g_iload_n (pc' := 2) (j := 1) hC dX10_fails_1 rfl rfl rfl ?_
  refine pf_X10_32 (pc' := 5) hC wF_X10_225 dX10_fails_2 rfl ?_
  refine g_aload_n (pc' := 6) (j := 0) hC dX10_fails_5 rfl rfl rfl ?_
  refine g_iload_n (pc' := 7) (j := 2) hC dX10_fails_6 rfl rfl rfl ?_
  refine pf_X10_33 (pc' := 10) hC wF_X10_59 dX10_fails_7 rfl ?_
  refine g_iconst (pc' := 11) (v := nI 0) hC dX10_fails_10 rfl rfl ?_
  refine g_ret hC dX10_fails_11 rfl ?_
  exact ⟨rfl, rfl⟩
set_option maxHeartbeats 4000000 in
set_option maxRecDepth 20000 in
theorem m_peek (l : Launch) (g : Lay) (z0 : Nat) (σ : St)  (hP : PI σ)  : CTi l yX10_peek cX10_peek 1 (some .int) 1 g z0 [.ref (g.2.1 15)] σ (FI (mB σ (msk σ)) (mpk σ)) := by
  refine CTi.of (by decide) (Nat.le_of_ble_eq_true rfl) ?_
  intro x hxl hxa hC
  have hC : Cx x RX10 cX10_peek 1 (some .int) 1 g z0 := hC
  have hE := hP.2.1
  have hE2 := hE.2
  have hT2 := hP.1.2
  show GG x g z0 1 0 0 (Qi x g z0 (FI (mB σ (msk σ)) (mpk σ))) σ 0 [(0, .ref (g.2.1 15))] []
  have L0 : ∀ (fu : Nat) (t : Nat), (rd σ 15 27 ≤ t) → (t ≤ rd σ 15 28) → (∀ j, rd σ 15 27 ≤ j → j < t → blk (mB σ j)) → (rd σ 15 28 - t) < fu → GG x g z0 1 0 0 (Qi x g z0 (FI (mB σ (msk σ)) (mpk σ))) (uv σ 15 27 (nI t)) 0 [(0, .ref (g.2.1 15))] [] := by
    intro fu
    induction fu with
    | zero => intro t ht1 ht2 hb hz; exact absurd hz (Nat.not_lt_zero _)
    | succ fu ih0 =>
      intro t ht1 ht2 hb hf
      refine g_aload_n (pc' := 1) (j := 0) hC dX10_peek_0 rfl rfl rfl ?_
      refine g_aload_n (pc' := 2) (j := 0) hC dX10_peek_1 rfl rfl rfl ?_
      refine gf_X10_27 (pc' := 5) hC wF_X10_234 dX10_peek_2 rfl ?_
      refine gg_topi (b := nI t) (uv_same _ _ _ _) ?_
      refine f_Vi (pc' := 8) (k := 15) (st := []) hC (m_byteAt x.2.1 g z0 (uv σ 15 27 (nI t)) t (by omega) (nb_cg (uv_idx _ _ _ _ (by decide)) hE hE2)) k_X10_byteAt wM_X10_237 (by decide) (by decide) (ct_15 g (uv σ 15 27 (nI t))) rfl rfl rfl rfl (Nat.le_of_ble_eq_true rfl) dX10_peek_5 rfl (Nat.zero_le _) (Nat.zero_le _) ?_
      refine gg_topi (b := mB σ t) (by simp (disch := decide) only [mh_uv, mh_ur, mcomp_uv, rd_uv, rd_ur, uv_cell, ur_cell, uv_idx, uv_fun, rd_idx, ne_eq, not_false_eq_true, mB]) ?_
      refine g_bipush (pc' := 10) (v := nI 32) hC dX10_peek_8 rfl rfl ?_
      refine g_icmp_eq (pc' := 13) (tgt := 26) hC dX10_peek_10 (by decide) rfl (fun c10 => ?_) (fun c10 => ?_)
      · skip
        have hbl : blk (mB σ t) := Or.inl c10
        have hlt := mB_in (blk_ne hbl)
        refine g_aload_n (pc' := 27) (j := 0) hC dX10_peek_26 rfl rfl rfl ?_
        refine g_aload_n (pc' := 28) (j := 0) hC dX10_peek_27 rfl rfl rfl ?_
        refine gf_X10_27 (pc' := 31) hC wF_X10_234 dX10_peek_28 rfl ?_
        refine gg_topi (b := nI t) (uv_same _ _ _ _) ?_
        refine g_iconst (pc' := 32) (v := nI 1) hC dX10_peek_31 rfl rfl ?_
        refine n_iadd (pc' := 33) hC dX10_peek_32 rfl ?_
        refine pf_X10_27 (pc' := 36) hC wF_X10_234 dX10_peek_33 rfl ?_
        refine g_goto (tgt := 0) hC dX10_peek_36 (by decide) ?_
        refine gg_st (σ' := (uv σ 15 27 (nI (t + 1)))) (uv_uv _ _ _ _ _) ?_
        refine gg_lv (lv' := [(0, .ref (g.2.1 15))]) ?_ [0] rfl
        exact ih0 (t + 1) (by omega) (by omega) (fun j a b => (Nat.lt_or_eq_of_le (Nat.le_of_lt_succ b)).elim (fun q => hb j a q) (fun q => q ▸ hbl)) (by omega)
      · skip
        refine g_aload_n (pc' := 14) (j := 0) hC dX10_peek_13 rfl rfl rfl ?_
        refine g_aload_n (pc' := 15) (j := 0) hC dX10_peek_14 rfl rfl rfl ?_
        refine gf_X10_27 (pc' := 18) hC wF_X10_234 dX10_peek_15 rfl ?_
        refine gg_topi (b := nI t) (uv_same _ _ _ _) ?_
        refine f_Vi (pc' := 21) (k := 15) (st := []) hC (m_byteAt x.2.1 g z0 (uv σ 15 27 (nI t)) t (by omega) (nb_cg (uv_idx _ _ _ _ (by decide)) hE hE2)) k_X10_byteAt wM_X10_237 (by decide) (by decide) (ct_15 g (uv σ 15 27 (nI t))) rfl rfl rfl rfl (Nat.le_of_ble_eq_true rfl) dX10_peek_18 rfl (Nat.zero_le _) (Nat.zero_le _) ?_
        refine gg_topi (b := mB σ t) (by simp (disch := decide) only [mh_uv, mh_ur, mcomp_uv, rd_uv, rd_ur, uv_cell, ur_cell, uv_idx, uv_fun, rd_idx, ne_eq, not_false_eq_true, mB]) ?_
        refine g_bipush (pc' := 23) (v := nI 10) hC dX10_peek_21 rfl rfl ?_
        refine g_icmp_ne (pc' := 26) (tgt := 39) hC dX10_peek_23 (by decide) rfl (fun c23 => ?_) (fun c23 => ?_)
        · skip
          refine g_aload_n (pc' := 40) (j := 0) hC dX10_peek_39 rfl rfl rfl ?_
          refine g_aload_n (pc' := 41) (j := 0) hC dX10_peek_40 rfl rfl rfl ?_
          refine gf_X10_27 (pc' := 44) hC wF_X10_234 dX10_peek_41 rfl ?_
          refine gg_topi (b := nI t) (uv_same _ _ _ _) ?_
          refine pf_X10_30 (pc' := 47) hC wF_X10_240 dX10_peek_44 rfl ?_
          refine g_aload_n (pc' := 48) (j := 0) hC dX10_peek_47 rfl rfl rfl ?_
          refine g_aload_n (pc' := 49) (j := 0) hC dX10_peek_48 rfl rfl rfl ?_
          refine gf_X10_27 (pc' := 52) hC wF_X10_234 dX10_peek_49 rfl ?_
          refine gg_topi (b := nI t) ((uv_idx _ _ _ _ (by decide)).trans (uv_same _ _ _ _)) ?_
          refine f_Vi (pc' := 55) (k := 15) (st := []) hC (m_byteAt x.2.1 g z0 (uv (uv σ 15 27 (nI t)) 15 30 (nI t)) t (by omega) (nb_cg ((uv_idx _ _ _ _ (by decide)).trans (uv_idx _ _ _ _ (by decide))) hE hE2)) k_X10_byteAt wM_X10_237 (by decide) (by decide) (ct_15 g (uv (uv σ 15 27 (nI t)) 15 30 (nI t))) rfl rfl rfl rfl (Nat.le_of_ble_eq_true rfl) dX10_peek_52 rfl (Nat.zero_le _) (Nat.zero_le _) ?_
          refine gg_topi (b := mB σ t) (by simp (disch := decide) only [mh_uv, mh_ur, mcomp_uv, rd_uv, rd_ur, uv_cell, ur_cell, uv_idx, uv_fun, rd_idx, ne_eq, not_false_eq_true, mB]) ?_
          refine g_ret hC dX10_peek_55 rfl ?_
          have e : msk σ = t := lst_eq ⟨ht1, fun z => z.elim c10 c23⟩ (fun j hj z => z.2 (hb j z.1 hj)); exact ⟨by rw [e], by unfold mpk; rw [e]⟩
        · skip
          have hbl : blk (mB σ t) := Or.inr c23
          have hlt := mB_in (blk_ne hbl)
          refine g_aload_n (pc' := 27) (j := 0) hC dX10_peek_26 rfl rfl rfl ?_
          refine g_aload_n (pc' := 28) (j := 0) hC dX10_peek_27 rfl rfl rfl ?_
          refine gf_X10_27 (pc' := 31) hC wF_X10_234 dX10_peek_28 rfl ?_
          refine gg_topi (b := nI t) (uv_same _ _ _ _) ?_
          refine g_iconst (pc' := 32) (v := nI 1) hC dX10_peek_31 rfl rfl ?_
          refine n_iadd (pc' := 33) hC dX10_peek_32 rfl ?_
          refine pf_X10_27 (pc' := 36) hC wF_X10_234 dX10_peek_33 rfl ?_
          refine g_goto (tgt := 0) hC dX10_peek_36 (by decide) ?_
          refine gg_st (σ' := (uv σ 15 27 (nI (t + 1)))) (uv_uv _ _ _ _ _) ?_
          refine gg_lv (lv' := [(0, .ref (g.2.1 15))]) ?_ [0] rfl
          exact ih0 (t + 1) (by omega) (by omega) (fun j a b => (Nat.lt_or_eq_of_le (Nat.le_of_lt_succ b)).elim (fun q => hb j a q) (fun q => q ▸ hbl)) (by omega)
  refine gg_st (σ' := (uv σ 15 27 (nI (rd σ 15 27)))) ((uv_self hP.1.1).symm) ?_
  refine gg_lv (lv' := [(0, .ref (g.2.1 15))]) ?_ [0] rfl
  exact L0 (rd σ 15 28 - (rd σ 15 27) + 1) (rd σ 15 27) (by omega) (hP.2.2.2) (fun j a b => absurd b (by omega)) (by omega)
set_option maxHeartbeats 4000000 in
set_option maxRecDepth 20000 in
theorem m_readWord (l : Launch) (g : Lay) (z0 : Nat) (σ : St)  (hP : PI σ)  : CTi l yX10_readWord cX10_readWord 2 (some .boolean) 2 g z0 [.ref (g.2.1 15)] σ (FI (bI (pW σ)) (sW σ)) := by
  refine CTi.of (by decide) (Nat.le_of_ble_eq_true rfl) ?_
  intro x hxl hxa hC
  have hC : Cx x RX10 cX10_readWord 2 (some .boolean) 2 g z0 := hC
  have hP1 := PI_mpk hP
  have hsk := hP.sk
  have hE2 := hP.2.1.2
  have hT2 := hP.1.2
  show GG x g z0 2 0 0 (Qi x g z0 (FI (bI (pW σ)) (sW σ))) σ 0 [(0, .ref (g.2.1 15))] []
  refine g_aload_n (pc' := 1) (j := 0) hC dX10_readWord_0 rfl rfl rfl ?_
  refine f_Vi (pc' := 4) (k := 15) (st := []) hC (m_peek x.2.1 g z0 σ (by first | exact hP | (simp (disch := decide) only [nb, rd_uv, rd_ur, uv_cell, ur_cell]; exact hP) | omega)) k_X10_peek wM_X10_243 (by decide) (by decide) (ct_15 g σ) rfl rfl rfl rfl (Nat.le_of_ble_eq_true rfl) dX10_readWord_1 rfl (Nat.zero_le _) (Nat.zero_le _) ?_
  refine f_Si (pc' := 7) (st := []) hC (m_isLetter x.2.1 g z0 (mpk σ) ((mB σ (msk σ)))) k_X10_isLetter wM_X10_247 (by decide) rfl rfl (Nat.le_of_ble_eq_true rfl) dX10_readWord_4 rfl (Nat.zero_le _) (Nat.zero_le _) ?_
  refine b_if_eq (pc' := 10) (tgt := 21) hC dX10_readWord_7 (by decide) rfl (fun c7 => ?_) (fun c7 => ?_)
  · skip
    have hno : ¬ pW σ := (fun z => c7 z.1)
    refine g_aload_n (pc' := 22) (j := 0) hC dX10_readWord_21 rfl rfl rfl ?_
    refine g_iconst (pc' := 23) (v := nI 1) hC dX10_readWord_22 rfl rfl ?_
    refine g_aload_n (pc' := 24) (j := 0) hC dX10_readWord_23 rfl rfl rfl ?_
    refine gf_X10_30 (pc' := 27) hC wF_X10_240 dX10_readWord_24 rfl ?_
    refine gg_topi (b := nI (msk σ)) (uv_same _ _ _ _) ?_
    refine f_Vi (pc' := 30) (k := 15) (st := []) hC (m_fails x.2.1 g z0 (mpk σ) ((nI 1)) ((nI (msk σ)))) k_X10_fails wM_X10_253 (by decide) (by decide) (ct_15 g (mpk σ)) rfl rfl rfl rfl (Nat.le_of_ble_eq_true rfl) dX10_readWord_27 rfl (Nat.zero_le _) (Nat.zero_le _) ?_
    refine g_ret hC dX10_readWord_30 rfl ?_
    exact ⟨(bI_f hno).symm, by unfold sW; rw [cI_f hno]⟩
  · skip
    refine g_aload_n (pc' := 11) (j := 0) hC dX10_readWord_10 rfl rfl rfl ?_
    refine gf_X10_30 (pc' := 14) hC wF_X10_240 dX10_readWord_11 rfl ?_
    refine gg_topi (b := nI (msk σ)) (uv_same _ _ _ _) ?_
    refine g_aload_n (pc' := 15) (j := 0) hC dX10_readWord_14 rfl rfl rfl ?_
    refine gf_X10_29 (pc' := 18) hC wF_X10_250 dX10_readWord_15 rfl ?_
    refine gg_topi (b := σ.1 15 29) ((uv_idx _ _ _ _ (by decide)).trans (uv_idx _ _ _ _ (by decide))) ?_
    refine g_icmp_ne (pc' := 21) (tgt := 31) hC dX10_readWord_18 (by decide) rfl (fun c18 => ?_) (fun c18 => ?_)
    · skip
      have hyes : pW σ := ⟨c7, c18⟩
      refine g_aload_n (pc' := 32) (j := 0) hC dX10_readWord_31 rfl rfl rfl ?_
      refine g_lconst (pc' := 33) (v := 0) hC dX10_readWord_32 rfl rfl ?_
      refine pf_X10_34 (pc' := 36) hC wF_X10_256 dX10_readWord_33 rfl ?_
      refine g_iconst (pc' := 37) (v := nI 0) hC dX10_readWord_36 rfl rfl ?_
      refine g_istore_n (pc' := 38) (lv' := [(1, .int (nI 0)), (0, .ref (g.2.1 15))]) hC dX10_readWord_37 rfl rfl (by decide) rfl ?_
      have L38 : ∀ (fu : Nat) (m : Nat), (msk σ + m ≤ rd σ 15 28) → (∀ j, j < m → ltr (mB σ (msk σ + j))) → (rd σ 15 28 - m) < fu → GG x g z0 2 0 0 (Qi x g z0 (FI (bI (pW σ)) (sW σ))) (ul (mpk σ) 15 34 (wvl (mB σ) (msk σ) m)) 38 [(1, .int (nI m)), (0, .ref (g.2.1 15))] [] := by
        intro fu
        induction fu with
        | zero => intro m hm hl hz; exact absurd hz (Nat.not_lt_zero _)
        | succ fu ih38 =>
          intro m hm hl hf
          refine g_aload_n (pc' := 39) (j := 1) hC dX10_readWord_38 rfl rfl rfl ?_
          refine g_aload_n (pc' := 40) (j := 1) hC dX10_readWord_39 rfl rfl rfl ?_
          refine gf_X10_30 (pc' := 43) hC wF_X10_240 dX10_readWord_40 rfl ?_
          refine gg_topi (b := nI (msk σ)) ((ul_c _ _ _ _ _ _).trans (uv_same _ _ _ _)) ?_
          refine g_iload_n (pc' := 44) (j := 0) hC dX10_readWord_43 rfl rfl rfl ?_
          refine n_iadd (pc' := 45) hC dX10_readWord_44 rfl ?_
          refine f_Vi (pc' := 48) (k := 15) (st := []) hC (m_byteAt x.2.1 g z0 (ul (mpk σ) 15 34 (wvl (mB σ) (msk σ) m)) (((msk σ) + m)) (by omega) (hP1.2.1)) k_X10_byteAt wM_X10_237 (by decide) (by decide) (ct_15 g (ul (mpk σ) 15 34 (wvl (mB σ) (msk σ) m))) rfl rfl rfl rfl (Nat.le_of_ble_eq_true rfl) dX10_readWord_45 rfl (Nat.zero_le _) (Nat.zero_le _) ?_
          refine gg_topi (b := mB (mpk σ) ((msk σ) + m)) rfl ?_
          refine gg_topi (b := mB σ ((msk σ) + m)) (mB_mpk _ _) ?_
          refine f_Si (pc' := 51) (st := []) hC (m_isLetter x.2.1 g z0 (ul (mpk σ) 15 34 (wvl (mB σ) (msk σ) m)) ((mB σ ((msk σ) + m)))) k_X10_isLetter wM_X10_247 (by decide) rfl rfl (Nat.le_of_ble_eq_true rfl) dX10_readWord_48 rfl (Nat.zero_le _) (Nat.zero_le _) ?_
          refine b_if_eq (pc' := 54) (tgt := 99) hC dX10_readWord_51 (by decide) rfl (fun c51 => ?_) (fun c51 => ?_)
          · skip
            refine g_aload_n (pc' := 100) (j := 1) hC dX10_readWord_99 rfl rfl rfl ?_
            refine g_aload_n (pc' := 101) (j := 1) hC dX10_readWord_100 rfl rfl rfl ?_
            refine gf_X10_30 (pc' := 104) hC wF_X10_240 dX10_readWord_101 rfl ?_
            refine gg_topi (b := nI (msk σ)) ((ul_c _ _ _ _ _ _).trans (uv_same _ _ _ _)) ?_
            refine g_iload_n (pc' := 105) (j := 0) hC dX10_readWord_104 rfl rfl rfl ?_
            refine n_iadd (pc' := 106) hC dX10_readWord_105 rfl ?_
            refine pf_X10_27 (pc' := 109) hC wF_X10_234 dX10_readWord_106 rfl ?_
            refine g_aload_n (pc' := 110) (j := 1) hC dX10_readWord_109 rfl rfl rfl ?_
            refine g_aload_n (pc' := 111) (j := 1) hC dX10_readWord_110 rfl rfl rfl ?_
            refine gf_X10_27 (pc' := 114) hC wF_X10_234 dX10_readWord_111 rfl ?_
            refine gg_topi (b := nI ((msk σ) + m)) (uv_same _ _ _ _) ?_
            refine pf_X10_29 (pc' := 117) hC wF_X10_250 dX10_readWord_114 rfl ?_
            refine g_iconst (pc' := 118) (v := nI 1) hC dX10_readWord_117 rfl rfl ?_
            refine g_ret hC dX10_readWord_118 rfl ?_
            have e : mwl σ = m := lst_eq c51 (fun j hj z => z (hl j hj)); exact ⟨(bI_t hyes).symm, by unfold sW; rw [cI_t hyes]; unfold sW1; rw [e]⟩
          · skip
            have hlt := mB_in (ltr_ne c51)
            refine g_aload_n (pc' := 55) (j := 1) hC dX10_readWord_54 rfl rfl rfl ?_
            refine g_iload_n (pc' := 56) (j := 0) hC dX10_readWord_55 rfl rfl rfl ?_
            refine g_bipush (pc' := 58) (v := nI 8) hC dX10_readWord_56 rfl rfl ?_
            refine n_icmp_ge (pc' := 61) (tgt := 88) hC dX10_readWord_58 (by decide) rfl (by omega) (by omega) (fun c58 => ?_) (fun c58 => ?_)
            · skip
              have hw : wvl (mB σ) (msk σ) (m + 1) = 0 := wvl_f c58
              refine g_lconst (pc' := 89) (v := 0) hC dX10_readWord_88 rfl rfl ?_
              refine pf_X10_34 (pc' := 92) hC wF_X10_256 dX10_readWord_89 rfl ?_
              refine g_iload_n (pc' := 93) (j := 0) hC dX10_readWord_92 rfl rfl rfl ?_
              refine g_iconst (pc' := 94) (v := nI 1) hC dX10_readWord_93 rfl rfl ?_
              refine n_iadd (pc' := 95) hC dX10_readWord_94 rfl ?_
              refine g_istore_n (pc' := 96) (lv' := [(1, .int (nI (m + 1))), (0, .ref (g.2.1 15))]) hC dX10_readWord_95 rfl rfl (by decide) rfl ?_
              refine g_goto (tgt := 38) hC dX10_readWord_96 (by decide) ?_
              refine gg_st (σ' := (ul (mpk σ) 15 34 (wvl (mB σ) (msk σ) (m + 1)))) (by rw [ul_ul, hw]) ?_
              refine gg_lv (lv' := [(1, .int (nI (m + 1))), (0, .ref (g.2.1 15))]) ?_ [0, 1] rfl
              exact ih38 (m + 1) (by omega) (lt_s hl c51) (by omega)
            · skip
              have hw : wvl (mB σ) (msk σ) (m + 1) = 32 * wvl (mB σ) (msk σ) m + (mB σ (msk σ + m)).toInt64 - 96 := wvl_t c58
              refine g_ldc2 (pc' := 64) (v := 32) hC wC_X10_260 dX10_readWord_61 rfl ?_
              refine g_aload_n (pc' := 65) (j := 1) hC dX10_readWord_64 rfl rfl rfl ?_
              refine gf_X10_34 (pc' := 68) hC wF_X10_256 dX10_readWord_65 rfl ?_
              refine gg_topl (b := wvl (mB σ) (msk σ) m) (ul_same _ _ _ _) ?_
              refine g_lmul (pc' := 69) hC dX10_readWord_68 rfl ?_
              refine g_aload_n (pc' := 70) (j := 1) hC dX10_readWord_69 rfl rfl rfl ?_
              refine g_aload_n (pc' := 71) (j := 1) hC dX10_readWord_70 rfl rfl rfl ?_
              refine gf_X10_30 (pc' := 74) hC wF_X10_240 dX10_readWord_71 rfl ?_
              refine gg_topi (b := nI (msk σ)) ((ul_c _ _ _ _ _ _).trans (uv_same _ _ _ _)) ?_
              refine g_iload_n (pc' := 75) (j := 0) hC dX10_readWord_74 rfl rfl rfl ?_
              refine n_iadd (pc' := 76) hC dX10_readWord_75 rfl ?_
              refine f_Vi (pc' := 79) (k := 15) (st := [.long (32 * (wvl (mB σ) (msk σ) m)), .ref (g.2.1 15)]) hC (m_byteAt x.2.1 g z0 (ul (mpk σ) 15 34 (wvl (mB σ) (msk σ) m)) (((msk σ) + m)) (by omega) (hP1.2.1)) k_X10_byteAt wM_X10_237 (by decide) (by decide) (ct_15 g (ul (mpk σ) 15 34 (wvl (mB σ) (msk σ) m))) rfl rfl rfl rfl (Nat.le_of_ble_eq_true rfl) dX10_readWord_76 rfl (Nat.zero_le _) (Nat.zero_le _) ?_
              refine gg_topi (b := mB (mpk σ) ((msk σ) + m)) rfl ?_
              refine gg_topi (b := mB σ ((msk σ) + m)) (mB_mpk _ _) ?_
              refine g_i2l (pc' := 80) hC dX10_readWord_79 rfl ?_
              refine g_ladd (pc' := 81) hC dX10_readWord_80 rfl ?_
              refine g_ldc2 (pc' := 84) (v := 96) hC wC_X10_262 dX10_readWord_81 rfl ?_
              refine g_lsub (pc' := 85) hC dX10_readWord_84 rfl ?_
              refine g_goto (tgt := 89) hC dX10_readWord_85 (by decide) ?_
              refine pf_X10_34 (pc' := 92) hC wF_X10_256 dX10_readWord_89 rfl ?_
              refine g_iload_n (pc' := 93) (j := 0) hC dX10_readWord_92 rfl rfl rfl ?_
              refine g_iconst (pc' := 94) (v := nI 1) hC dX10_readWord_93 rfl rfl ?_
              refine n_iadd (pc' := 95) hC dX10_readWord_94 rfl ?_
              refine g_istore_n (pc' := 96) (lv' := [(1, .int (nI (m + 1))), (0, .ref (g.2.1 15))]) hC dX10_readWord_95 rfl rfl (by decide) rfl ?_
              refine g_goto (tgt := 38) hC dX10_readWord_96 (by decide) ?_
              refine gg_st (σ' := (ul (mpk σ) 15 34 (wvl (mB σ) (msk σ) (m + 1)))) (by rw [ul_ul, hw]) ?_
              refine gg_lv (lv' := [(1, .int (nI (m + 1))), (0, .ref (g.2.1 15))]) ?_ [0, 1] rfl
              exact ih38 (m + 1) (by omega) (lt_s hl c51) (by omega)
      refine gg_st (σ' := (ul (mpk σ) 15 34 (wvl (mB σ) (msk σ) 0))) (rfl) ?_
      refine gg_lv (lv' := [(1, .int (nI 0)), (0, .ref (g.2.1 15))]) ?_ [0, 1] rfl
      exact L38 (rd σ 15 28 - 0 + 1) 0 (by omega) (lt_0) (by omega)
    · skip
      have hno : ¬ pW σ := (fun z => z.2 c18)
      refine g_aload_n (pc' := 22) (j := 0) hC dX10_readWord_21 rfl rfl rfl ?_
      refine g_iconst (pc' := 23) (v := nI 1) hC dX10_readWord_22 rfl rfl ?_
      refine g_aload_n (pc' := 24) (j := 0) hC dX10_readWord_23 rfl rfl rfl ?_
      refine gf_X10_30 (pc' := 27) hC wF_X10_240 dX10_readWord_24 rfl ?_
      refine gg_topi (b := nI (msk σ)) (uv_same _ _ _ _) ?_
      refine f_Vi (pc' := 30) (k := 15) (st := []) hC (m_fails x.2.1 g z0 (mpk σ) ((nI 1)) ((nI (msk σ)))) k_X10_fails wM_X10_253 (by decide) (by decide) (ct_15 g (mpk σ)) rfl rfl rfl rfl (Nat.le_of_ble_eq_true rfl) dX10_readWord_27 rfl (Nat.zero_le _) (Nat.zero_le _) ?_
      refine g_ret hC dX10_readWord_30 rfl ?_
      exact ⟨(bI_f hno).symm, by unfold sW; rw [cI_f hno]⟩
set_option maxHeartbeats 4000000 in
set_option maxRecDepth 20000 in
theorem m_takesWord (l : Launch) (g : Lay) (z0 : Nat) (σ : St) (w : Int64) (hP : PI σ)  : CTi l yX10_takesWord cX10_takesWord 3 (some .boolean) 3 g z0 [.ref (g.2.1 15), .long w] σ (FI (bI (pT σ w)) (sT σ w)) := by
  refine CTi.of (by decide) (Nat.le_of_ble_eq_true rfl) ?_
  intro x hxl hxa hC
  have hC : Cx x RX10 cX10_takesWord 3 (some .boolean) 3 g z0 := hC
  have hsk := hP.sk
  have hE2 := hP.2.1.2
  show GG x g z0 3 0 0 (Qi x g z0 (FI (bI (pT σ w)) (sT σ w))) σ 0 [(0, .ref (g.2.1 15)), (1, .long w)] []
  refine g_aload_n (pc' := 1) (j := 0) hC dX10_takesWord_0 rfl rfl rfl ?_
  refine f_Vi (pc' := 4) (k := 15) (st := []) hC (m_readWord x.2.1 g z0 σ (by first | exact hP | (simp (disch := decide) only [nb, rd_uv, rd_ur, uv_cell, ur_cell]; exact hP) | omega)) k_X10_readWord wM_X10_264 (by decide) (by decide) (ct_15 g σ) rfl rfl rfl rfl (Nat.le_of_ble_eq_true rfl) dX10_takesWord_1 rfl (Nat.zero_le _) (Nat.zero_le _) ?_
  refine b_if_eq (pc' := 7) (tgt := 32) hC dX10_takesWord_4 (by decide) rfl (fun c4 => ?_) (fun c4 => ?_)
  · skip
    have hR : bI (pT σ w) = nI 0 := bI_f (fun z => c4 z.1)
    have hS : sT σ w = sW σ := cI_f c4
    refine g_iconst (pc' := 33) (v := nI 0) hC dX10_takesWord_32 rfl rfl ?_
    refine g_ret hC dX10_takesWord_33 rfl ?_
    exact ⟨hR.symm, hS.symm⟩
  · skip
    refine g_aload_n (pc' := 8) (j := 0) hC dX10_takesWord_7 rfl rfl rfl ?_
    refine gf_X10_34 (pc' := 11) hC wF_X10_256 dX10_takesWord_8 rfl ?_
    refine g_lload_n (pc' := 12) (j := 1) hC dX10_takesWord_11 rfl rfl rfl ?_
    refine g_lcmp (pc' := 13) hC dX10_takesWord_12 rfl ?_
    refine c_if_eq (pc' := 16) (tgt := 28) hC dX10_takesWord_13 (by decide) rfl (fun c13 => ?_) (fun c13 => ?_)
    · skip
      have hR : bI (pT σ w) = nI 1 := bI_t ⟨c4, c13⟩
      have hS : sT σ w = sW σ := by unfold sT; rw [cI_t c4, cI_t c13]
      refine g_iconst (pc' := 29) (v := nI 1) hC dX10_takesWord_28 rfl rfl ?_
      refine g_goto (tgt := 33) hC dX10_takesWord_29 (by decide) ?_
      refine g_ret hC dX10_takesWord_33 rfl ?_
      exact ⟨hR.symm, hS.symm⟩
    · skip
      have hR : bI (pT σ w) = nI 0 := bI_f (fun z => c13 z.2)
      have hS : sT σ w = mfl (sW σ) (nI 1) (nI (msk σ)) := by unfold sT; rw [cI_t c4, cI_f c13]
      refine g_aload_n (pc' := 17) (j := 0) hC dX10_takesWord_16 rfl rfl rfl ?_
      refine g_iconst (pc' := 18) (v := nI 1) hC dX10_takesWord_17 rfl rfl ?_
      refine g_aload_n (pc' := 19) (j := 0) hC dX10_takesWord_18 rfl rfl rfl ?_
      refine gf_X10_30 (pc' := 22) hC wF_X10_240 dX10_takesWord_19 rfl ?_
      refine gg_topi (b := nI (msk σ)) (sW_tok c4) ?_
      refine f_Vi (pc' := 25) (k := 15) (st := []) hC (m_fails x.2.1 g z0 (sW σ) ((nI 1)) ((nI (msk σ)))) k_X10_fails wM_X10_253 (by decide) (by decide) (ct_15 g (sW σ)) rfl rfl rfl rfl (Nat.le_of_ble_eq_true rfl) dX10_takesWord_22 rfl (Nat.zero_le _) (Nat.zero_le _) ?_
      refine n_if_eq (pc' := 28) (tgt := 32) hC dX10_takesWord_25 (by decide) rfl (by omega) (fun c25 => ?_) (fun c25 => ?_)
      · skip
        refine g_iconst (pc' := 33) (v := nI 0) hC dX10_takesWord_32 rfl rfl ?_
        refine g_ret hC dX10_takesWord_33 rfl ?_
        exact ⟨hR.symm, hS.symm⟩
      · skip
        first | exact absurd c25 (by decide) | exact c25.elim
set_option maxHeartbeats 4000000 in
set_option maxRecDepth 20000 in
theorem m_readNumber (l : Launch) (g : Lay) (z0 : Nat) (σ : St) (lo : Int32) (hi : Int32) (hP : PI σ)  : CTi l yX10_readNumber cX10_readNumber 4 (some .boolean) 2 g z0 [.ref (g.2.1 15), .int lo, .int hi] σ (FI (bI (pN σ lo hi)) (sN σ lo hi)) := by
  refine CTi.of (by decide) (Nat.le_of_ble_eq_true rfl) ?_
  intro x hxl hxa hC
  have hC : Cx x RX10 cX10_readNumber 4 (some .boolean) 2 g z0 := hC
  have hP1 := PI_mpk hP
  have hsk := hP.sk
  have hE2 := hP.2.1.2
  have hT2 := hP.1.2
  show GG x g z0 4 0 0 (Qi x g z0 (FI (bI (pN σ lo hi)) (sN σ lo hi))) σ 0 [(0, .ref (g.2.1 15)), (1, .int lo), (2, .int hi)] []
  refine g_aload_n (pc' := 1) (j := 0) hC dX10_readNumber_0 rfl rfl rfl ?_
  refine f_Vi (pc' := 4) (k := 15) (st := []) hC (m_peek x.2.1 g z0 σ (by first | exact hP | (simp (disch := decide) only [nb, rd_uv, rd_ur, uv_cell, ur_cell]; exact hP) | omega)) k_X10_peek wM_X10_243 (by decide) (by decide) (ct_15 g σ) rfl rfl rfl rfl (Nat.le_of_ble_eq_true rfl) dX10_readNumber_1 rfl (Nat.zero_le _) (Nat.zero_le _) ?_
  refine f_Si (pc' := 7) (st := []) hC (m_isDigit x.2.1 g z0 (mpk σ) ((mB σ (msk σ)))) k_X10_isDigit wM_X10_268 (by decide) rfl rfl (Nat.le_of_ble_eq_true rfl) dX10_readNumber_4 rfl (Nat.zero_le _) (Nat.zero_le _) ?_
  refine b_if_eq (pc' := 10) (tgt := 21) hC dX10_readNumber_7 (by decide) rfl (fun c7 => ?_) (fun c7 => ?_)
  · skip
    have hno : ¬ pN0 σ := (fun z => c7 z.1)
    refine g_aload_n (pc' := 22) (j := 0) hC dX10_readNumber_21 rfl rfl rfl ?_
    refine g_iconst (pc' := 23) (v := nI 1) hC dX10_readNumber_22 rfl rfl ?_
    refine g_aload_n (pc' := 24) (j := 0) hC dX10_readNumber_23 rfl rfl rfl ?_
    refine gf_X10_30 (pc' := 27) hC wF_X10_240 dX10_readNumber_24 rfl ?_
    refine gg_topi (b := nI (msk σ)) (uv_same _ _ _ _) ?_
    refine f_Vi (pc' := 30) (k := 15) (st := []) hC (m_fails x.2.1 g z0 (mpk σ) ((nI 1)) ((nI (msk σ)))) k_X10_fails wM_X10_253 (by decide) (by decide) (ct_15 g (mpk σ)) rfl rfl rfl rfl (Nat.le_of_ble_eq_true rfl) dX10_readNumber_27 rfl (Nat.zero_le _) (Nat.zero_le _) ?_
    refine g_ret hC dX10_readNumber_30 rfl ?_
    exact ⟨(bI_f (fun z => hno z.1)).symm, by unfold sN; rw [cI_f hno]⟩
  · skip
    refine g_aload_n (pc' := 11) (j := 0) hC dX10_readNumber_10 rfl rfl rfl ?_
    refine gf_X10_30 (pc' := 14) hC wF_X10_240 dX10_readNumber_11 rfl ?_
    refine gg_topi (b := nI (msk σ)) (uv_same _ _ _ _) ?_
    refine g_aload_n (pc' := 15) (j := 0) hC dX10_readNumber_14 rfl rfl rfl ?_
    refine gf_X10_29 (pc' := 18) hC wF_X10_250 dX10_readNumber_15 rfl ?_
    refine gg_topi (b := σ.1 15 29) ((uv_idx _ _ _ _ (by decide)).trans (uv_idx _ _ _ _ (by decide))) ?_
    refine g_icmp_ne (pc' := 21) (tgt := 31) hC dX10_readNumber_18 (by decide) rfl (fun c18 => ?_) (fun c18 => ?_)
    · skip
      have hyes : pN0 σ := ⟨c7, c18⟩
      refine g_aload_n (pc' := 32) (j := 0) hC dX10_readNumber_31 rfl rfl rfl ?_
      refine g_iconst (pc' := 33) (v := nI 0) hC dX10_readNumber_32 rfl rfl ?_
      refine pf_X10_31 (pc' := 36) hC wF_X10_271 dX10_readNumber_33 rfl ?_
      refine g_iconst (pc' := 37) (v := nI 0) hC dX10_readNumber_36 rfl rfl ?_
      refine g_istore_n (pc' := 38) (lv' := [(3, .int (nI 0)), (0, .ref (g.2.1 15)), (1, .int lo), (2, .int hi)]) hC dX10_readNumber_37 rfl rfl (by decide) rfl ?_
      have L38 : ∀ (fu : Nat) (m : Nat), (msk σ + m ≤ rd σ 15 28) → (∀ j, j < m → dgt (mB σ (msk σ + j))) → (rd σ 15 28 - m) < fu → GG x g z0 4 0 0 (Qi x g z0 (FI (bI (pN σ lo hi)) (sN σ lo hi))) (uv (mpk σ) 15 31 (nvl (mB σ) (msk σ) m)) 38 [(3, .int (nI m)), (0, .ref (g.2.1 15)), (1, .int lo), (2, .int hi)] [] := by
        intro fu
        induction fu with
        | zero => intro m hm hl hz; exact absurd hz (Nat.not_lt_zero _)
        | succ fu ih38 =>
          intro m hm hl hf
          refine g_aload_n (pc' := 39) (j := 1) hC dX10_readNumber_38 rfl rfl rfl ?_
          refine g_aload_n (pc' := 40) (j := 1) hC dX10_readNumber_39 rfl rfl rfl ?_
          refine gf_X10_30 (pc' := 43) hC wF_X10_240 dX10_readNumber_40 rfl ?_
          refine gg_topi (b := nI (msk σ)) ((uv_idx _ _ _ _ (by decide)).trans (uv_same _ _ _ _)) ?_
          refine g_iload_n (pc' := 44) (j := 0) hC dX10_readNumber_43 rfl rfl rfl ?_
          refine n_iadd (pc' := 45) hC dX10_readNumber_44 rfl ?_
          refine f_Vi (pc' := 48) (k := 15) (st := []) hC (m_byteAt x.2.1 g z0 (uv (mpk σ) 15 31 (nvl (mB σ) (msk σ) m)) (((msk σ) + m)) (by omega) (nb_cg (uv_idx _ _ _ _ (by decide)) hP1.2.1 hP1.2.1.2)) k_X10_byteAt wM_X10_237 (by decide) (by decide) (ct_15 g (uv (mpk σ) 15 31 (nvl (mB σ) (msk σ) m))) rfl rfl rfl rfl (Nat.le_of_ble_eq_true rfl) dX10_readNumber_45 rfl (Nat.zero_le _) (Nat.zero_le _) ?_
          refine gg_topi (b := mB (mpk σ) ((msk σ) + m)) (by simp (disch := decide) only [mh_uv, mh_ur, mcomp_uv, rd_uv, rd_ur, uv_cell, ur_cell, uv_idx, uv_fun, rd_idx, ne_eq, not_false_eq_true, mB]) ?_
          refine gg_topi (b := mB σ ((msk σ) + m)) (mB_mpk _ _) ?_
          refine f_Si (pc' := 51) (st := []) hC (m_isDigit x.2.1 g z0 (uv (mpk σ) 15 31 (nvl (mB σ) (msk σ) m)) ((mB σ ((msk σ) + m)))) k_X10_isDigit wM_X10_268 (by decide) rfl rfl (Nat.le_of_ble_eq_true rfl) dX10_readNumber_48 rfl (Nat.zero_le _) (Nat.zero_le _) ?_
          refine b_if_eq (pc' := 54) (tgt := 99) hC dX10_readNumber_51 (by decide) rfl (fun c51 => ?_) (fun c51 => ?_)
          · skip
            have e : mnl σ = m := lst_eq c51 (fun j hj z => z (hl j hj))
            have ev : mnv σ = nvl (mB σ) (msk σ) m := by unfold mnv; rw [e]
            refine g_iload_n (pc' := 100) (j := 0) hC dX10_readNumber_99 rfl rfl rfl ?_
            refine g_bipush (pc' := 102) (v := nI 6) hC dX10_readNumber_100 rfl rfl ?_
            refine n_icmp_le (pc' := 105) (tgt := 115) hC dX10_readNumber_102 (by decide) rfl (by omega) (by omega) (fun c102 => ?_) (fun c102 => ?_)
            · skip
              refine g_aload_n (pc' := 116) (j := 1) hC dX10_readNumber_115 rfl rfl rfl ?_
              refine gf_X10_31 (pc' := 119) hC wF_X10_271 dX10_readNumber_116 rfl ?_
              refine gg_topi (b := nvl (mB σ) (msk σ) m) (uv_same _ _ _ _) ?_
              refine g_iload_n (pc' := 120) (j := 2) hC dX10_readNumber_119 rfl rfl rfl ?_
              refine g_iload_n (pc' := 121) (j := 3) hC dX10_readNumber_120 rfl rfl rfl ?_
              refine f_Si (pc' := 124) (st := []) hC (m_in x.2.1 g z0 (uv (mpk σ) 15 31 (nvl (mB σ) (msk σ) m)) ((nvl (mB σ) (msk σ) m)) lo hi) k_X10_in wM_X10_72 (by decide) rfl rfl (Nat.le_of_ble_eq_true rfl) dX10_readNumber_121 rfl (Nat.zero_le _) (Nat.zero_le _) ?_
              refine b_if_ne (pc' := 127) (tgt := 137) hC dX10_readNumber_124 (by decide) rfl (fun c124 => ?_) (fun c124 => ?_)
              · skip
                refine g_aload_n (pc' := 138) (j := 1) hC dX10_readNumber_137 rfl rfl rfl ?_
                refine g_aload_n (pc' := 139) (j := 1) hC dX10_readNumber_138 rfl rfl rfl ?_
                refine gf_X10_30 (pc' := 142) hC wF_X10_240 dX10_readNumber_139 rfl ?_
                refine gg_topi (b := nI (msk σ)) ((uv_idx _ _ _ _ (by decide)).trans (uv_same _ _ _ _)) ?_
                refine g_iload_n (pc' := 143) (j := 0) hC dX10_readNumber_142 rfl rfl rfl ?_
                refine n_iadd (pc' := 144) hC dX10_readNumber_143 rfl ?_
                refine pf_X10_27 (pc' := 147) hC wF_X10_234 dX10_readNumber_144 rfl ?_
                refine g_aload_n (pc' := 148) (j := 1) hC dX10_readNumber_147 rfl rfl rfl ?_
                refine g_aload_n (pc' := 149) (j := 1) hC dX10_readNumber_148 rfl rfl rfl ?_
                refine gf_X10_27 (pc' := 152) hC wF_X10_234 dX10_readNumber_149 rfl ?_
                refine gg_topi (b := nI ((msk σ) + m)) (uv_same _ _ _ _) ?_
                refine pf_X10_29 (pc' := 155) hC wF_X10_250 dX10_readNumber_152 rfl ?_
                refine g_iconst (pc' := 156) (v := nI 1) hC dX10_readNumber_155 rfl rfl ?_
                refine g_ret hC dX10_readNumber_156 rfl ?_
                exact ⟨(bI_t ⟨hyes, by omega, ev ▸ c124⟩).symm, by unfold sN sN1; rw [cI_t hyes, cI_t (show mnl σ ≤ 6 by omega), ev, cI_t c124, e]⟩
              · skip
                refine g_aload_n (pc' := 128) (j := 1) hC dX10_readNumber_127 rfl rfl rfl ?_
                refine g_iconst (pc' := 129) (v := nI 2) hC dX10_readNumber_128 rfl rfl ?_
                refine g_aload_n (pc' := 130) (j := 1) hC dX10_readNumber_129 rfl rfl rfl ?_
                refine gf_X10_30 (pc' := 133) hC wF_X10_240 dX10_readNumber_130 rfl ?_
                refine gg_topi (b := nI (msk σ)) ((uv_idx _ _ _ _ (by decide)).trans (uv_same _ _ _ _)) ?_
                refine f_Vi (pc' := 136) (k := 15) (st := []) hC (m_fails x.2.1 g z0 (uv (mpk σ) 15 31 (nvl (mB σ) (msk σ) m)) ((nI 2)) ((nI (msk σ)))) k_X10_fails wM_X10_253 (by decide) (by decide) (ct_15 g (uv (mpk σ) 15 31 (nvl (mB σ) (msk σ) m))) rfl rfl rfl rfl (Nat.le_of_ble_eq_true rfl) dX10_readNumber_133 rfl (Nat.zero_le _) (Nat.zero_le _) ?_
                refine g_ret hC dX10_readNumber_136 rfl ?_
                exact ⟨(bI_f (fun z => c124 (ev ▸ z.2.2))).symm, by unfold sN sN1; rw [cI_t hyes, cI_t (show mnl σ ≤ 6 by omega), ev, cI_f c124]⟩
            · skip
              refine g_aload_n (pc' := 106) (j := 1) hC dX10_readNumber_105 rfl rfl rfl ?_
              refine g_iconst (pc' := 107) (v := nI 1) hC dX10_readNumber_106 rfl rfl ?_
              refine g_aload_n (pc' := 108) (j := 1) hC dX10_readNumber_107 rfl rfl rfl ?_
              refine gf_X10_30 (pc' := 111) hC wF_X10_240 dX10_readNumber_108 rfl ?_
              refine gg_topi (b := nI (msk σ)) ((uv_idx _ _ _ _ (by decide)).trans (uv_same _ _ _ _)) ?_
              refine f_Vi (pc' := 114) (k := 15) (st := []) hC (m_fails x.2.1 g z0 (uv (mpk σ) 15 31 (nvl (mB σ) (msk σ) m)) ((nI 1)) ((nI (msk σ)))) k_X10_fails wM_X10_253 (by decide) (by decide) (ct_15 g (uv (mpk σ) 15 31 (nvl (mB σ) (msk σ) m))) rfl rfl rfl rfl (Nat.le_of_ble_eq_true rfl) dX10_readNumber_111 rfl (Nat.zero_le _) (Nat.zero_le _) ?_
              refine g_ret hC dX10_readNumber_114 rfl ?_
              exact ⟨(bI_f (fun z => absurd z.2.1 (by omega))).symm, by unfold sN sN1; rw [cI_t hyes, cI_f (show ¬ mnl σ ≤ 6 by omega), ev]⟩
          · skip
            have hlt := mB_in (dgt_ne c51)
            refine g_aload_n (pc' := 55) (j := 1) hC dX10_readNumber_54 rfl rfl rfl ?_
            refine g_iload_n (pc' := 56) (j := 0) hC dX10_readNumber_55 rfl rfl rfl ?_
            refine g_bipush (pc' := 58) (v := nI 6) hC dX10_readNumber_56 rfl rfl ?_
            refine n_icmp_ge (pc' := 61) (tgt := 85) hC dX10_readNumber_58 (by decide) rfl (by omega) (by omega) (fun c58 => ?_) (fun c58 => ?_)
            · skip
              have hw : nvl (mB σ) (msk σ) (m + 1) = nvl (mB σ) (msk σ) m := nvl_f c58
              refine g_aload_n (pc' := 86) (j := 1) hC dX10_readNumber_85 rfl rfl rfl ?_
              refine gf_X10_31 (pc' := 89) hC wF_X10_271 dX10_readNumber_86 rfl ?_
              refine gg_topi (b := nvl (mB σ) (msk σ) m) (uv_same _ _ _ _) ?_
              refine pf_X10_31 (pc' := 92) hC wF_X10_271 dX10_readNumber_89 rfl ?_
              refine g_iload_n (pc' := 93) (j := 0) hC dX10_readNumber_92 rfl rfl rfl ?_
              refine g_iconst (pc' := 94) (v := nI 1) hC dX10_readNumber_93 rfl rfl ?_
              refine n_iadd (pc' := 95) hC dX10_readNumber_94 rfl ?_
              refine g_istore_n (pc' := 96) (lv' := [(3, .int (nI (m + 1))), (0, .ref (g.2.1 15)), (1, .int lo), (2, .int hi)]) hC dX10_readNumber_95 rfl rfl (by decide) rfl ?_
              refine g_goto (tgt := 38) hC dX10_readNumber_96 (by decide) ?_
              refine gg_st (σ' := (uv (mpk σ) 15 31 (nvl (mB σ) (msk σ) (m + 1)))) (by rw [uv_uv, hw]) ?_
              refine gg_lv (lv' := [(3, .int (nI (m + 1))), (0, .ref (g.2.1 15)), (1, .int lo), (2, .int hi)]) ?_ [0, 1, 2, 3] rfl
              exact ih38 (m + 1) (by omega) (lt_s hl c51) (by omega)
            · skip
              have hw : nvl (mB σ) (msk σ) (m + 1) = nI 10 * nvl (mB σ) (msk σ) m + mB σ (msk σ + m) - nI 48 := nvl_t c58
              refine g_bipush (pc' := 63) (v := nI 10) hC dX10_readNumber_61 rfl rfl ?_
              refine g_aload_n (pc' := 64) (j := 1) hC dX10_readNumber_63 rfl rfl rfl ?_
              refine gf_X10_31 (pc' := 67) hC wF_X10_271 dX10_readNumber_64 rfl ?_
              refine gg_topi (b := nvl (mB σ) (msk σ) m) (uv_same _ _ _ _) ?_
              refine g_imul (pc' := 68) hC dX10_readNumber_67 rfl ?_
              refine g_aload_n (pc' := 69) (j := 1) hC dX10_readNumber_68 rfl rfl rfl ?_
              refine g_aload_n (pc' := 70) (j := 1) hC dX10_readNumber_69 rfl rfl rfl ?_
              refine gf_X10_30 (pc' := 73) hC wF_X10_240 dX10_readNumber_70 rfl ?_
              refine gg_topi (b := nI (msk σ)) ((uv_idx _ _ _ _ (by decide)).trans (uv_same _ _ _ _)) ?_
              refine g_iload_n (pc' := 74) (j := 0) hC dX10_readNumber_73 rfl rfl rfl ?_
              refine n_iadd (pc' := 75) hC dX10_readNumber_74 rfl ?_
              refine f_Vi (pc' := 78) (k := 15) (st := [.int ((nI 10) * (nvl (mB σ) (msk σ) m)), .ref (g.2.1 15)]) hC (m_byteAt x.2.1 g z0 (uv (mpk σ) 15 31 (nvl (mB σ) (msk σ) m)) (((msk σ) + m)) (by omega) (nb_cg (uv_idx _ _ _ _ (by decide)) hP1.2.1 hP1.2.1.2)) k_X10_byteAt wM_X10_237 (by decide) (by decide) (ct_15 g (uv (mpk σ) 15 31 (nvl (mB σ) (msk σ) m))) rfl rfl rfl rfl (Nat.le_of_ble_eq_true rfl) dX10_readNumber_75 rfl (Nat.zero_le _) (Nat.zero_le _) ?_
              refine gg_topi (b := mB (mpk σ) ((msk σ) + m)) (by simp (disch := decide) only [mh_uv, mh_ur, mcomp_uv, rd_uv, rd_ur, uv_cell, ur_cell, uv_idx, uv_fun, rd_idx, ne_eq, not_false_eq_true, mB]) ?_
              refine gg_topi (b := mB σ ((msk σ) + m)) (mB_mpk _ _) ?_
              refine g_iadd (pc' := 79) hC dX10_readNumber_78 rfl ?_
              refine g_bipush (pc' := 81) (v := nI 48) hC dX10_readNumber_79 rfl rfl ?_
              refine g_isub (pc' := 82) hC dX10_readNumber_81 rfl ?_
              refine g_goto (tgt := 89) hC dX10_readNumber_82 (by decide) ?_
              refine pf_X10_31 (pc' := 92) hC wF_X10_271 dX10_readNumber_89 rfl ?_
              refine g_iload_n (pc' := 93) (j := 0) hC dX10_readNumber_92 rfl rfl rfl ?_
              refine g_iconst (pc' := 94) (v := nI 1) hC dX10_readNumber_93 rfl rfl ?_
              refine n_iadd (pc' := 95) hC dX10_readNumber_94 rfl ?_
              refine g_istore_n (pc' := 96) (lv' := [(3, .int (nI (m + 1))), (0, .ref (g.2.1 15)), (1, .int lo), (2, .int hi)]) hC dX10_readNumber_95 rfl rfl (by decide) rfl ?_
              refine g_goto (tgt := 38) hC dX10_readNumber_96 (by decide) ?_
              refine gg_st (σ' := (uv (mpk σ) 15 31 (nvl (mB σ) (msk σ) (m + 1)))) (by rw [uv_uv, hw]) ?_
              refine gg_lv (lv' := [(3, .int (nI (m + 1))), (0, .ref (g.2.1 15)), (1, .int lo), (2, .int hi)]) ?_ [0, 1, 2, 3] rfl
              exact ih38 (m + 1) (by omega) (lt_s hl c51) (by omega)
      refine gg_st (σ' := (uv (mpk σ) 15 31 (nvl (mB σ) (msk σ) 0))) (rfl) ?_
      refine gg_lv (lv' := [(3, .int (nI 0)), (0, .ref (g.2.1 15)), (1, .int lo), (2, .int hi)]) ?_ [0, 1, 2, 3] rfl
      exact L38 (rd σ 15 28 - 0 + 1) 0 (by omega) (lt_0) (by omega)
    · skip
      have hno : ¬ pN0 σ := (fun z => z.2 c18)
      refine g_aload_n (pc' := 22) (j := 0) hC dX10_readNumber_21 rfl rfl rfl ?_
      refine g_iconst (pc' := 23) (v := nI 1) hC dX10_readNumber_22 rfl rfl ?_
      refine g_aload_n (pc' := 24) (j := 0) hC dX10_readNumber_23 rfl rfl rfl ?_
      refine gf_X10_30 (pc' := 27) hC wF_X10_240 dX10_readNumber_24 rfl ?_
      refine gg_topi (b := nI (msk σ)) (uv_same _ _ _ _) ?_
      refine f_Vi (pc' := 30) (k := 15) (st := []) hC (m_fails x.2.1 g z0 (mpk σ) ((nI 1)) ((nI (msk σ)))) k_X10_fails wM_X10_253 (by decide) (by decide) (ct_15 g (mpk σ)) rfl rfl rfl rfl (Nat.le_of_ble_eq_true rfl) dX10_readNumber_27 rfl (Nat.zero_le _) (Nat.zero_le _) ?_
      refine g_ret hC dX10_readNumber_30 rfl ?_
      exact ⟨(bI_f (fun z => hno z.1)).symm, by unfold sN; rw [cI_f hno]⟩
set_option maxHeartbeats 4000000 in
set_option maxRecDepth 20000 in
theorem m_readSemicolon (l : Launch) (g : Lay) (z0 : Nat) (σ : St)  (hP : PI σ)  : CTi l yX10_readSemicolon cX10_readSemicolon 1 (some .boolean) 2 g z0 [.ref (g.2.1 15)] σ (FI (bI (pS σ)) (sS σ)) := by
  refine CTi.of (by decide) (Nat.le_of_ble_eq_true rfl) ?_
  intro x hxl hxa hC
  have hC : Cx x RX10 cX10_readSemicolon 1 (some .boolean) 2 g z0 := hC
  have hP1 := PI_mpk hP
  have hsk := hP.sk
  have hE2 := hP.2.1.2
  have hT2 := hP.1.2
  show GG x g z0 1 0 0 (Qi x g z0 (FI (bI (pS σ)) (sS σ))) σ 0 [(0, .ref (g.2.1 15))] []
  refine g_aload_n (pc' := 1) (j := 0) hC dX10_readSemicolon_0 rfl rfl rfl ?_
  refine f_Vi (pc' := 4) (k := 15) (st := []) hC (m_peek x.2.1 g z0 σ (by first | exact hP | (simp (disch := decide) only [nb, rd_uv, rd_ur, uv_cell, ur_cell]; exact hP) | omega)) k_X10_peek wM_X10_243 (by decide) (by decide) (ct_15 g σ) rfl rfl rfl rfl (Nat.le_of_ble_eq_true rfl) dX10_readSemicolon_1 rfl (Nat.zero_le _) (Nat.zero_le _) ?_
  refine g_bipush (pc' := 6) (v := nI 59) hC dX10_readSemicolon_4 rfl rfl ?_
  refine g_icmp_eq (pc' := 9) (tgt := 19) hC dX10_readSemicolon_6 (by decide) rfl (fun c6 => ?_) (fun c6 => ?_)
  · skip
    have c6 : pS σ := c6
    refine g_aload_n (pc' := 20) (j := 0) hC dX10_readSemicolon_19 rfl rfl rfl ?_
    refine g_aload_n (pc' := 21) (j := 0) hC dX10_readSemicolon_20 rfl rfl rfl ?_
    refine gf_X10_30 (pc' := 24) hC wF_X10_240 dX10_readSemicolon_21 rfl ?_
    refine gg_topi (b := nI (msk σ)) (uv_same _ _ _ _) ?_
    refine g_iconst (pc' := 25) (v := nI 1) hC dX10_readSemicolon_24 rfl rfl ?_
    refine n_iadd (pc' := 26) hC dX10_readSemicolon_25 rfl ?_
    refine pf_X10_27 (pc' := 29) hC wF_X10_234 dX10_readSemicolon_26 rfl ?_
    refine g_aload_n (pc' := 30) (j := 0) hC dX10_readSemicolon_29 rfl rfl rfl ?_
    refine g_iconst (pc' := 31) (v := (-1)) hC dX10_readSemicolon_30 rfl rfl ?_
    refine pf_X10_29 (pc' := 34) hC wF_X10_250 dX10_readSemicolon_31 rfl ?_
    refine g_iconst (pc' := 35) (v := nI 1) hC dX10_readSemicolon_34 rfl rfl ?_
    refine g_ret hC dX10_readSemicolon_35 rfl ?_
    exact ⟨(bI_t c6).symm, by unfold sS; rw [cI_t c6]⟩
  · skip
    have c6 : ¬ pS σ := c6
    refine g_aload_n (pc' := 10) (j := 0) hC dX10_readSemicolon_9 rfl rfl rfl ?_
    refine g_iconst (pc' := 11) (v := nI 1) hC dX10_readSemicolon_10 rfl rfl ?_
    refine g_aload_n (pc' := 12) (j := 0) hC dX10_readSemicolon_11 rfl rfl rfl ?_
    refine gf_X10_30 (pc' := 15) hC wF_X10_240 dX10_readSemicolon_12 rfl ?_
    refine gg_topi (b := nI (msk σ)) (uv_same _ _ _ _) ?_
    refine f_Vi (pc' := 18) (k := 15) (st := []) hC (m_fails x.2.1 g z0 (mpk σ) ((nI 1)) ((nI (msk σ)))) k_X10_fails wM_X10_253 (by decide) (by decide) (ct_15 g (mpk σ)) rfl rfl rfl rfl (Nat.le_of_ble_eq_true rfl) dX10_readSemicolon_15 rfl (Nat.zero_le _) (Nat.zero_le _) ?_
    refine g_ret hC dX10_readSemicolon_18 rfl ?_
    exact ⟨(bI_f c6).symm, by unfold sS; rw [cI_f c6]⟩
