set_option maxHeartbeats 4000000 in
set_option maxRecDepth 20000 in
theorem c_fill (l : Launch) (g : Lay) (z0 : Nat) (σ : St) (c : Nat) (v : Int32) (hc : c < 6)  : CTv l yJ7_fill_53178 cJ7_fill_53178 4 0 g z0 [.ref (g.2.1 (90 + 3 * c + 2)), .int v] σ (FV (ur σ (90 + 3 * c + 2) (fil (σ.1 (90 + 3 * c + 2)) v 6))) := by
  refine CTv.of (by decide) (Nat.le_of_ble_eq_true rfl) ?_
  intro x hxl hxa hC
  have hC : Cx x RJ7 cJ7_fill_53178 4 none 0 g z0 := hC
  show GG x g z0 4 0 0 (Qv x g z0 (FV (ur σ (90 + 3 * c + 2) (fil (σ.1 (90 + 3 * c + 2)) v 6)))) σ 0 [(0, .ref (g.2.1 (90 + 3 * c + 2))), (1, .int v)] []
  refine g_iconst (pc' := 1) (v := nI 0) hC dJ7_fill_53178_0 rfl rfl ?_
  refine g_istore_n (pc' := 2) (lv' := [(2, .int (nI 0)), (0, .ref (g.2.1 (90 + 3 * c + 2))), (1, .int v)]) hC dJ7_fill_53178_1 rfl rfl (by decide) rfl ?_
  refine g_aload_n (pc' := 3) (j := 1) hC dJ7_fill_53178_2 rfl rfl rfl ?_
  refine g_alen (pc' := 4) (k := 90 + 3 * c + 2) (t := 0) (ty := .int) hC (by have := (by omega : c < 6); show _ < 228; omega) (ct_cc g σ (by omega : c < 6)) rfl dJ7_fill_53178_3 rfl ?_
  refine g_istore_n (pc' := 5) (lv' := [(3, .int (nI 6)), (2, .int (nI 0)), (0, .ref (g.2.1 (90 + 3 * c + 2))), (1, .int v)]) hC dJ7_fill_53178_4 rfl rfl (by decide) rfl ?_
  have L5 : ∀ (fu : Nat) (i : Nat), (i ≤ 6) → (6 - i) < fu → GG x g z0 4 0 0 (Qv x g z0 (FV (ur σ (90 + 3 * c + 2) (fil (σ.1 (90 + 3 * c + 2)) v 6)))) (ur σ (90 + 3 * c + 2) (fil (σ.1 (90 + 3 * c + 2)) v i)) 5 [(2, .int (nI i)), (3, .int (nI 6)), (0, .ref (g.2.1 (90 + 3 * c + 2))), (1, .int v)] [] := by
    intro fu
    induction fu with
    | zero => intro i hi hz; exact absurd hz (Nat.not_lt_zero _)
    | succ fu ih5 =>
      intro i hi hf
      refine g_iload_n (pc' := 6) (j := 0) hC dJ7_fill_53178_5 rfl rfl rfl ?_
      refine g_iload_n (pc' := 7) (j := 1) hC dJ7_fill_53178_6 rfl rfl rfl ?_
      refine n_icmp_ge (pc' := 10) (tgt := 20) hC dJ7_fill_53178_7 (by decide) rfl (by omega) (by omega) (fun c7 => ?_) (fun c7 => ?_)
      · skip
        refine g_retv hC dJ7_fill_53178_20 ?_
        exact by rw [show i = 6 by omega]; exact rfl
      · skip
        refine g_aload_n (pc' := 11) (j := 2) hC dJ7_fill_53178_10 rfl rfl rfl ?_
        refine g_iload_n (pc' := 12) (j := 0) hC dJ7_fill_53178_11 rfl rfl rfl ?_
        refine g_iload_n (pc' := 13) (j := 3) hC dJ7_fill_53178_12 rfl rfl rfl ?_
        refine a_st (pc' := 14) (k := 90 + 3 * c + 2) (i := i) hC (by have := (by omega : c < 6); show _ < 228; omega) (fun σ9 => (ct_cc g σ9 (by omega : c < 6))) (by omega) (by decide) dJ7_fill_53178_13 rfl ?_
        refine g_iinc (pc' := 17) (j := 0) (u := nI (i + 1)) (lv' := [(2, .int (nI (i + 1))), (3, .int (nI 6)), (0, .ref (g.2.1 (90 + 3 * c + 2))), (1, .int v)]) hC dJ7_fill_53178_14 rfl rfl (nI_add i 1) (by decide) rfl ?_
        refine g_goto (tgt := 5) hC dJ7_fill_53178_17 (by decide) ?_
        refine gg_st (σ' := (ur σ (90 + 3 * c + 2) (fil (σ.1 (90 + 3 * c + 2)) v ((i + 1))))) (fil_step _ _ _ _ _) ?_
        refine gg_lv (lv' := [(2, .int (nI (i + 1))), (3, .int (nI 6)), (0, .ref (g.2.1 (90 + 3 * c + 2))), (1, .int v)]) ?_ [0, 1, 2, 3] rfl
        exact ih5 ((i + 1)) (by omega) (by omega)
  refine gg_st (σ' := (ur σ (90 + 3 * c + 2) (fil (σ.1 (90 + 3 * c + 2)) v 0))) ((fil_0 _ _ _).symm) ?_
  refine gg_lv (lv' := [(2, .int (nI 0)), (3, .int (nI 6)), (0, .ref (g.2.1 (90 + 3 * c + 2))), (1, .int v)]) ?_ [1, 0, 2, 3] rfl
  exact L5 (6 - 0 + 1) 0 (by omega) (by omega)
set_option maxHeartbeats 4000000 in
set_option maxRecDepth 20000 in
theorem c_lastHashC (l : Launch) (g : Lay) (z0 : Nat) (σ : St) (c : Nat)  (hc : c < 6) (hp : nb σ (90 + 3 * c) 2 200)  : CTi l yX2_lastHash cX2_lastHash 1 (some .int) 0 g z0 [.ref (g.2.1 (90 + 3 * c))] σ (FI (σ.1 (90 + 3 * c + 1) (rd σ (90 + 3 * c) 2)) σ) := by
  refine CTi.of (by decide) (Nat.le_of_ble_eq_true rfl) ?_
  intro x hxl hxa hC
  have hC : Cx x RX2 cX2_lastHash 1 (some .int) 0 g z0 := hC
  have hp2 := hp.2
  show GG x g z0 1 0 0 (Qi x g z0 (FI (σ.1 (90 + 3 * c + 1) (rd σ (90 + 3 * c) 2)) σ)) σ 0 [(0, .ref (g.2.1 (90 + 3 * c)))] []
  refine g_aload_n (pc' := 1) (j := 0) hC dX2_lastHash_0 rfl rfl rfl ?_
  refine gf_X2_0 (pc' := 4) (b := c) hC (by omega : c < 6) wF_X2_9 dX2_lastHash_1 rfl ?_
  refine g_aload_n (pc' := 5) (j := 0) hC dX2_lastHash_4 rfl rfl rfl ?_
  refine gf_X2_2 (pc' := 8) (b := c) hC (by omega : c < 6) wF_X2_24 dX2_lastHash_5 rfl ?_
  refine gg_topi (b := nI (rd σ (90 + 3 * c) 2)) (hp.1) ?_
  refine a_ld (pc' := 9) (k := 90 + 3 * c + 1) (i := rd σ (90 + 3 * c) 2) hC (by have := (by omega : c < 6); show _ < 228; omega) (ct_ch g σ (by omega : c < 6)) (by omega) (by decide) dX2_lastHash_8 rfl ?_
  refine g_ret hC dX2_lastHash_9 rfl ?_
  exact ⟨rfl, rfl⟩
set_option maxHeartbeats 4000000 in
set_option maxRecDepth 20000 in
theorem c_fits (l : Launch) (g : Lay) (z0 : Nat) (σ : St) (c : Nat) (b : Nat) (hc : c < 6) (hp : nb σ (90 + 3 * c) 2 200) (hb : b < 8) (hL : nb σ (34 + 7 * b) 6 200)  : CTi l yX2_fits cX2_fits 2 (some .boolean) 0 g z0 [.ref (g.2.1 (90 + 3 * c)), .ref (g.2.1 (34 + 7 * b))] σ (FI (bI (cft σ c b)) σ) := by
  refine CTi.of (by decide) (Nat.le_of_ble_eq_true rfl) ?_
  intro x hxl hxa hC
  have hC : Cx x RX2 cX2_fits 2 (some .boolean) 0 g z0 := hC
  have hp2 := hp.2
  have hL2 := hL.2
  show GG x g z0 2 0 0 (Qi x g z0 (FI (bI (cft σ c b)) σ)) σ 0 [(0, .ref (g.2.1 (90 + 3 * c))), (1, .ref (g.2.1 (34 + 7 * b)))] []
  refine g_aload_n (pc' := 1) (j := 0) hC dX2_fits_0 rfl rfl rfl ?_
  refine gf_X2_2 (pc' := 4) (b := c) hC (by omega : c < 6) wF_X2_24 dX2_fits_1 rfl ?_
  refine gg_topi (b := nI (rd σ (90 + 3 * c) 2)) (hp.1) ?_
  refine g_aload_n (pc' := 5) (j := 1) hC dX2_fits_4 rfl rfl rfl ?_
  refine gf_X1_6 (pc' := 8) (b := b) hC (by omega : b < 8) wF_X2_38 dX2_fits_5 rfl ?_
  refine gg_topi (b := nI (rd σ (34 + 7 * b) 6)) (hL.1) ?_
  refine n_icmp_gt (pc' := 11) (tgt := 36) hC dX2_fits_8 (by decide) rfl (by omega) (by omega) (fun c8 => ?_) (fun c8 => ?_)
  · skip
    refine g_iconst (pc' := 37) (v := nI 0) hC dX2_fits_36 rfl rfl ?_
    refine g_ret hC dX2_fits_37 rfl ?_
    exact ⟨(bI_f (fun z => absurd z.1 (by omega))).symm, rfl⟩
  · skip
    refine g_aload_n (pc' := 12) (j := 1) hC dX2_fits_11 rfl rfl rfl ?_
    refine gf_X1_5 (pc' := 15) (b := b) hC (by omega : b < 8) wF_X2_43 dX2_fits_12 rfl ?_
    refine g_aload_n (pc' := 16) (j := 0) hC dX2_fits_15 rfl rfl rfl ?_
    refine gf_X2_2 (pc' := 19) (b := c) hC (by omega : c < 6) wF_X2_24 dX2_fits_16 rfl ?_
    refine gg_topi (b := nI (rd σ (90 + 3 * c) 2)) (hp.1) ?_
    refine a_ld (pc' := 20) (k := 34 + 7 * b + 6) (i := rd σ (90 + 3 * c) 2) hC (by have := (by omega : b < 8); show _ < 228; omega) (ct_ba g σ (by omega : b < 8) (by decide) (by decide)) (by omega) (by decide) dX2_fits_19 rfl ?_
    refine g_aload_n (pc' := 21) (j := 0) hC dX2_fits_20 rfl rfl rfl ?_
    refine gf_X2_0 (pc' := 24) (b := c) hC (by omega : c < 6) wF_X2_9 dX2_fits_21 rfl ?_
    refine g_aload_n (pc' := 25) (j := 0) hC dX2_fits_24 rfl rfl rfl ?_
    refine gf_X2_2 (pc' := 28) (b := c) hC (by omega : c < 6) wF_X2_24 dX2_fits_25 rfl ?_
    refine gg_topi (b := nI (rd σ (90 + 3 * c) 2)) (hp.1) ?_
    refine a_ld (pc' := 29) (k := 90 + 3 * c + 1) (i := rd σ (90 + 3 * c) 2) hC (by have := (by omega : c < 6); show _ < 228; omega) (ct_ch g σ (by omega : c < 6)) (by omega) (by decide) dX2_fits_28 rfl ?_
    refine g_icmp_ne (pc' := 32) (tgt := 36) hC dX2_fits_29 (by decide) rfl (fun c29 => ?_) (fun c29 => ?_)
    · skip
      refine g_iconst (pc' := 37) (v := nI 0) hC dX2_fits_36 rfl rfl ?_
      refine g_ret hC dX2_fits_37 rfl ?_
      exact ⟨(bI_f (fun z => c29 z.2)).symm, rfl⟩
    · skip
      refine g_iconst (pc' := 33) (v := nI 1) hC dX2_fits_32 rfl rfl ?_
      refine g_goto (tgt := 37) hC dX2_fits_33 (by decide) ?_
      refine g_ret hC dX2_fits_37 rfl ?_
      exact ⟨(bI_t (⟨c8, c29⟩)).symm, rfl⟩
set_option maxHeartbeats 4000000 in
set_option maxRecDepth 20000 in
theorem c_isForkedFrom (l : Launch) (g : Lay) (z0 : Nat) (σ : St) (c : Nat) (d : Nat) (hc : c < 6) (hp : nb σ (90 + 3 * c) 2 200) (hd : d < 6) (hq : nb σ (90 + 3 * d) 2 200)  : CTi l yX2_isForkedFrom cX2_isForkedFrom 3 (some .boolean) 1 g z0 [.ref (g.2.1 (90 + 3 * c)), .ref (g.2.1 (90 + 3 * d))] σ (FI (bI (cfk σ c d)) σ) := by
  refine CTi.of (by decide) (Nat.le_of_ble_eq_true rfl) ?_
  intro x hxl hxa hC
  have hC : Cx x RX2 cX2_isForkedFrom 3 (some .boolean) 1 g z0 := hC
  have hp2 := hp.2
  have hq2 := hq.2
  show GG x g z0 3 0 0 (Qi x g z0 (FI (bI (cfk σ c d)) σ)) σ 0 [(0, .ref (g.2.1 (90 + 3 * c))), (1, .ref (g.2.1 (90 + 3 * d)))] []
  refine g_aload_n (pc' := 1) (j := 0) hC dX2_isForkedFrom_0 rfl rfl rfl ?_
  refine gf_X2_2 (pc' := 4) (b := c) hC (by omega : c < 6) wF_X2_24 dX2_isForkedFrom_1 rfl ?_
  refine gg_topi (b := nI (rd σ (90 + 3 * c) 2)) (hp.1) ?_
  refine g_aload_n (pc' := 5) (j := 1) hC dX2_isForkedFrom_4 rfl rfl rfl ?_
  refine gf_X2_2 (pc' := 8) (b := d) hC (by omega : d < 6) wF_X2_24 dX2_isForkedFrom_5 rfl ?_
  refine gg_topi (b := nI (rd σ (90 + 3 * d) 2)) (hq.1) ?_
  refine n_min (pc' := 11) (st := []) hC wM_X2_53 (by decide) (by omega) (by omega) (Nat.le_of_ble_eq_true rfl) dX2_isForkedFrom_8 rfl (Nat.zero_le _) (Nat.zero_le _) ?_
  refine g_istore_n (pc' := 12) (lv' := [(2, .int (nI (min (rd σ (90 + 3 * c) 2) (rd σ (90 + 3 * d) 2)))), (0, .ref (g.2.1 (90 + 3 * c))), (1, .ref (g.2.1 (90 + 3 * d)))]) hC dX2_isForkedFrom_11 rfl rfl (by decide) rfl ?_
  refine g_aload_n (pc' := 13) (j := 1) hC dX2_isForkedFrom_12 rfl rfl rfl ?_
  refine gf_X2_0 (pc' := 16) (b := c) hC (by omega : c < 6) wF_X2_9 dX2_isForkedFrom_13 rfl ?_
  refine g_iload_n (pc' := 17) (j := 0) hC dX2_isForkedFrom_16 rfl rfl rfl ?_
  refine a_ld (pc' := 18) (k := 90 + 3 * c + 1) (i := min (rd σ (90 + 3 * c) 2) (rd σ (90 + 3 * d) 2)) hC (by have := (by omega : c < 6); show _ < 228; omega) (ct_ch g σ (by omega : c < 6)) (by omega) (by decide) dX2_isForkedFrom_17 rfl ?_
  refine g_aload_n (pc' := 19) (j := 2) hC dX2_isForkedFrom_18 rfl rfl rfl ?_
  refine gf_X2_0 (pc' := 22) (b := d) hC (by omega : d < 6) wF_X2_9 dX2_isForkedFrom_19 rfl ?_
  refine g_iload_n (pc' := 23) (j := 0) hC dX2_isForkedFrom_22 rfl rfl rfl ?_
  refine a_ld (pc' := 24) (k := 90 + 3 * d + 1) (i := min (rd σ (90 + 3 * c) 2) (rd σ (90 + 3 * d) 2)) hC (by have := (by omega : d < 6); show _ < 228; omega) (ct_ch g σ (by omega : d < 6)) (by omega) (by decide) dX2_isForkedFrom_23 rfl ?_
  refine g_icmp_eq (pc' := 27) (tgt := 31) hC dX2_isForkedFrom_24 (by decide) rfl (fun c24 => ?_) (fun c24 => ?_)
  · skip
    refine g_iconst (pc' := 32) (v := nI 0) hC dX2_isForkedFrom_31 rfl rfl ?_
    refine g_ret hC dX2_isForkedFrom_32 rfl ?_
    exact ⟨(bI_f (fun z => z c24)).symm, rfl⟩
  · skip
    refine g_iconst (pc' := 28) (v := nI 1) hC dX2_isForkedFrom_27 rfl rfl ?_
    refine g_goto (tgt := 32) hC dX2_isForkedFrom_28 (by decide) ?_
    refine g_ret hC dX2_isForkedFrom_32 rfl ?_
    exact ⟨(bI_t (c24)).symm, rfl⟩
set_option maxHeartbeats 4000000 in
set_option maxRecDepth 20000 in
theorem c_firstDifferenceTo (l : Launch) (g : Lay) (z0 : Nat) (σ : St) (c : Nat) (d : Nat) (hG : GX g) (hc : c < 6) (hp : nb σ (90 + 3 * c) 2 200) (hd : d < 6) (hq : nb σ (90 + 3 * d) 2 200)  : CTi l yX2_firstDifferenceTo cX2_firstDifferenceTo 2 (some .int) 1 g z0 [.ref (g.2.1 (90 + 3 * c)), .ref (g.2.1 (90 + 3 * d))] σ (FI (nI (fdf (σ.1 (90 + 3 * c + 1)) (σ.1 (90 + 3 * d + 1)) (min (rd σ (90 + 3 * c) 2) (rd σ (90 + 3 * d) 2)))) σ) := by
  refine CTi.of (by decide) (Nat.le_of_ble_eq_true rfl) ?_
  intro x hxl hxa hC
  have hC : Cx x RX2 cX2_firstDifferenceTo 2 (some .int) 1 g z0 := hC
  have hp2 := hp.2
  have hq2 := hq.2
  show GG x g z0 2 0 0 (Qi x g z0 (FI (nI (fdf (σ.1 (90 + 3 * c + 1)) (σ.1 (90 + 3 * d + 1)) (min (rd σ (90 + 3 * c) 2) (rd σ (90 + 3 * d) 2)))) σ)) σ 0 [(0, .ref (g.2.1 (90 + 3 * c))), (1, .ref (g.2.1 (90 + 3 * d)))] []
  refine g_aload_n (pc' := 1) (j := 0) hC dX2_firstDifferenceTo_0 rfl rfl rfl ?_
  refine gf_X2_0 (pc' := 4) (b := c) hC (by omega : c < 6) wF_X2_9 dX2_firstDifferenceTo_1 rfl ?_
  refine g_aload_n (pc' := 5) (j := 1) hC dX2_firstDifferenceTo_4 rfl rfl rfl ?_
  refine gf_X2_0 (pc' := 8) (b := d) hC (by omega : d < 6) wF_X2_9 dX2_firstDifferenceTo_5 rfl ?_
  refine g_aload_n (pc' := 9) (j := 0) hC dX2_firstDifferenceTo_8 rfl rfl rfl ?_
  refine gf_X2_2 (pc' := 12) (b := c) hC (by omega : c < 6) wF_X2_24 dX2_firstDifferenceTo_9 rfl ?_
  refine gg_topi (b := nI (rd σ (90 + 3 * c) 2)) (hp.1) ?_
  refine g_aload_n (pc' := 13) (j := 1) hC dX2_firstDifferenceTo_12 rfl rfl rfl ?_
  refine gf_X2_2 (pc' := 16) (b := d) hC (by omega : d < 6) wF_X2_24 dX2_firstDifferenceTo_13 rfl ?_
  refine gg_topi (b := nI (rd σ (90 + 3 * d) 2)) (hq.1) ?_
  refine n_min (pc' := 19) (st := [.ref (g.2.1 (90 + 3 * d + 1)), .ref (g.2.1 (90 + 3 * c + 1))]) hC wM_X2_53 (by decide) (by omega) (by omega) (Nat.le_of_ble_eq_true rfl) dX2_firstDifferenceTo_16 rfl (Nat.zero_le _) (Nat.zero_le _) ?_
  refine f_Ni (pc' := 22) (st := []) hC (c_firstDifference x.2.1 g z0 σ ((90 + 3 * c + 1)) ((90 + 3 * d + 1)) ((min (rd σ (90 + 3 * c) 2) (rd σ (90 + 3 * d) 2))) (A2_ch g (by omega : c < 6)) (A2_ch g (by omega : d < 6)) (by omega)) k_X9_firstDifference (wN_X2_59 hG hC) (by decide) rfl rfl (Nat.le_of_ble_eq_true rfl) dX2_firstDifferenceTo_19 rfl (Nat.zero_le _) (Nat.zero_le _) ?_
  refine g_ret hC dX2_firstDifferenceTo_22 rfl ?_
  exact ⟨rfl, rfl⟩
set_option maxHeartbeats 4000000 in
set_option maxRecDepth 20000 in
theorem c_orderTo (l : Launch) (g : Lay) (z0 : Nat) (σ : St) (c : Nat) (d : Nat) (hc : c < 6) (hd : d < 6)  : CTi l yX2_orderTo cX2_orderTo 5 (some .int) 0 g z0 [.ref (g.2.1 (90 + 3 * c)), .ref (g.2.1 (90 + 3 * d))] σ (FI (ordF (σ.1 (90 + 3 * c + 2)) (σ.1 (90 + 3 * d + 2)) 6) σ) := by
  refine CTi.of (by decide) (Nat.le_of_ble_eq_true rfl) ?_
  intro x hxl hxa hC
  have hC : Cx x RX2 cX2_orderTo 5 (some .int) 0 g z0 := hC
  show GG x g z0 5 0 0 (Qi x g z0 (FI (ordF (σ.1 (90 + 3 * c + 2)) (σ.1 (90 + 3 * d + 2)) 6) σ)) σ 0 [(0, .ref (g.2.1 (90 + 3 * c))), (1, .ref (g.2.1 (90 + 3 * d)))] []
  refine g_iconst (pc' := 1) (v := nI 0) hC dX2_orderTo_0 rfl rfl ?_
  refine g_istore_n (pc' := 2) (lv' := [(2, .int (nI 0)), (0, .ref (g.2.1 (90 + 3 * c))), (1, .ref (g.2.1 (90 + 3 * d)))]) hC dX2_orderTo_1 rfl rfl (by decide) rfl ?_
  refine g_iconst (pc' := 3) (v := nI 0) hC dX2_orderTo_2 rfl rfl ?_
  refine g_istore_n (pc' := 4) (lv' := [(3, .int (nI 0)), (2, .int (nI 0)), (0, .ref (g.2.1 (90 + 3 * c))), (1, .ref (g.2.1 (90 + 3 * d)))]) hC dX2_orderTo_3 rfl rfl (by decide) rfl ?_
  refine g_iconst (pc' := 5) (v := nI 0) hC dX2_orderTo_4 rfl rfl ?_
  refine g_istore (pc' := 7) (lv' := [(4, .int (nI 0)), (3, .int (nI 0)), (2, .int (nI 0)), (0, .ref (g.2.1 (90 + 3 * c))), (1, .ref (g.2.1 (90 + 3 * d)))]) hC dX2_orderTo_5 rfl (by decide) rfl ?_
  have L7 : ∀ (fu : Nat) (i : Nat), (i ≤ 6) → (6 - i) < fu → GG x g z0 5 0 0 (Qi x g z0 (FI (ordF (σ.1 (90 + 3 * c + 2)) (σ.1 (90 + 3 * d + 2)) 6) σ)) σ 7 [(4, .int (nI i)), (3, .int (bI (gtx (σ.1 (90 + 3 * d + 2)) (σ.1 (90 + 3 * c + 2)) i))), (2, .int (bI (gtx (σ.1 (90 + 3 * c + 2)) (σ.1 (90 + 3 * d + 2)) i))), (0, .ref (g.2.1 (90 + 3 * c))), (1, .ref (g.2.1 (90 + 3 * d)))] [] := by
    intro fu
    induction fu with
    | zero => intro i hi hz; exact absurd hz (Nat.not_lt_zero _)
    | succ fu ih7 =>
      intro i hi hf
      refine g_iload (pc' := 9) (j := 0) hC dX2_orderTo_7 rfl rfl ?_
      refine g_bipush (pc' := 11) (v := nI 6) hC dX2_orderTo_9 rfl rfl ?_
      refine n_icmp_ge (pc' := 14) (tgt := 74) hC dX2_orderTo_11 (by decide) rfl (by omega) (by omega) (fun c11 => ?_) (fun c11 => ?_)
      · skip
        refine g_iload_n (pc' := 75) (j := 2) hC dX2_orderTo_74 rfl rfl rfl ?_
        refine b_if_eq (pc' := 78) (tgt := 88) hC dX2_orderTo_75 (by decide) rfl (fun c75 => ?_) (fun c75 => ?_)
        · skip
          refine g_iload_n (pc' := 89) (j := 1) hC dX2_orderTo_88 rfl rfl rfl ?_
          refine b_if_eq (pc' := 92) (tgt := 96) hC dX2_orderTo_89 (by decide) rfl (fun c89 => ?_) (fun c89 => ?_)
          · skip
            refine g_iconst (pc' := 97) (v := nI 0) hC dX2_orderTo_96 rfl rfl ?_
            refine g_ret hC dX2_orderTo_97 rfl ?_
            exact ⟨by unfold ordF; rw [show (6 : Nat) = i by omega, cI_f c75, cI_f c89], rfl⟩
          · skip
            refine g_iconst (pc' := 93) (v := nI 1) hC dX2_orderTo_92 rfl rfl ?_
            refine g_goto (tgt := 97) hC dX2_orderTo_93 (by decide) ?_
            refine g_ret hC dX2_orderTo_97 rfl ?_
            exact ⟨by unfold ordF; rw [show (6 : Nat) = i by omega, cI_f c75, cI_t c89], rfl⟩
        · skip
          refine g_iload_n (pc' := 79) (j := 1) hC dX2_orderTo_78 rfl rfl rfl ?_
          refine b_if_eq (pc' := 82) (tgt := 86) hC dX2_orderTo_79 (by decide) rfl (fun c79 => ?_) (fun c79 => ?_)
          · skip
            refine g_iconst (pc' := 87) (v := nI 2) hC dX2_orderTo_86 rfl rfl ?_
            refine g_ret hC dX2_orderTo_87 rfl ?_
            exact ⟨by unfold ordF; rw [show (6 : Nat) = i by omega, cI_t c75, cI_f c79], rfl⟩
          · skip
            refine g_iconst (pc' := 83) (v := nI 3) hC dX2_orderTo_82 rfl rfl ?_
            refine g_goto (tgt := 87) hC dX2_orderTo_83 (by decide) ?_
            refine g_ret hC dX2_orderTo_87 rfl ?_
            exact ⟨by unfold ordF; rw [show (6 : Nat) = i by omega, cI_t c75, cI_t c79], rfl⟩
      · skip
        refine g_iload_n (pc' := 15) (j := 2) hC dX2_orderTo_14 rfl rfl rfl ?_
        refine b_if_ne (pc' := 18) (tgt := 35) hC dX2_orderTo_15 (by decide) rfl (fun c15 => ?_) (fun c15 => ?_)
        · skip
          refine g_iconst (pc' := 36) (v := nI 1) hC dX2_orderTo_35 rfl rfl ?_
          refine g_goto (tgt := 40) hC dX2_orderTo_36 (by decide) ?_
          refine g_istore_n (pc' := 41) (lv' := [(2, .int (nI 1)), (4, .int (nI i)), (3, .int (bI (gtx (σ.1 (90 + 3 * d + 2)) (σ.1 (90 + 3 * c + 2)) i))), (0, .ref (g.2.1 (90 + 3 * c))), (1, .ref (g.2.1 (90 + 3 * d)))]) hC dX2_orderTo_40 rfl rfl (by decide) rfl ?_
          refine g_iload_n (pc' := 42) (j := 2) hC dX2_orderTo_41 rfl rfl rfl ?_
          refine b_if_ne (pc' := 45) (tgt := 62) hC dX2_orderTo_42 (by decide) rfl (fun c42 => ?_) (fun c42 => ?_)
          · skip
            refine g_iconst (pc' := 63) (v := nI 1) hC dX2_orderTo_62 rfl rfl ?_
            refine g_goto (tgt := 67) hC dX2_orderTo_63 (by decide) ?_
            refine g_istore_n (pc' := 68) (lv' := [(3, .int (nI 1)), (2, .int (nI 1)), (4, .int (nI i)), (0, .ref (g.2.1 (90 + 3 * c))), (1, .ref (g.2.1 (90 + 3 * d)))]) hC dX2_orderTo_67 rfl rfl (by decide) rfl ?_
            refine g_iinc (pc' := 71) (j := 2) (u := nI (i + 1)) (lv' := [(4, .int (nI (i + 1))), (3, .int (nI 1)), (2, .int (nI 1)), (0, .ref (g.2.1 (90 + 3 * c))), (1, .ref (g.2.1 (90 + 3 * d)))]) hC dX2_orderTo_68 rfl rfl (nI_add i 1) (by decide) rfl ?_
            refine g_goto (tgt := 7) hC dX2_orderTo_71 (by decide) ?_
            refine gg_lv (lv' := [(4, .int (nI (i + 1))), (3, .int (nI 1)), (2, .int (nI 1)), (0, .ref (g.2.1 (90 + 3 * c))), (1, .ref (g.2.1 (90 + 3 * d)))]) ?_ [0, 1, 2, 3, 4] rfl
            refine gg_lve (lv' := [(4, .int (nI ((i + 1)))), (3, .int (bI (gtx (σ.1 (90 + 3 * d + 2)) (σ.1 (90 + 3 * c + 2)) ((i + 1))))), (2, .int (bI (gtx (σ.1 (90 + 3 * c + 2)) (σ.1 (90 + 3 * d + 2)) ((i + 1))))), (0, .ref (g.2.1 (90 + 3 * c))), (1, .ref (g.2.1 (90 + 3 * d)))]) (by (first | rw [bI_t (show gtx (σ.1 (90 + 3 * d + 2)) (σ.1 (90 + 3 * c + 2)) (i + 1) from gtx_s.mpr (by first | exact Or.inl c42 | exact Or.inr (Int32.not_le.mp c59)))] | rw [bI_f (show ¬ gtx (σ.1 (90 + 3 * d + 2)) (σ.1 (90 + 3 * c + 2)) (i + 1) from fun z => (gtx_s.mp z).elim c42 (fun q => absurd c59 (Int32.not_le.mpr q)))]); (first | rw [bI_t (show gtx (σ.1 (90 + 3 * c + 2)) (σ.1 (90 + 3 * d + 2)) (i + 1) from gtx_s.mpr (by first | exact Or.inl c15 | exact Or.inr (Int32.not_le.mp c32)))] | rw [bI_f (show ¬ gtx (σ.1 (90 + 3 * c + 2)) (σ.1 (90 + 3 * d + 2)) (i + 1) from fun z => (gtx_s.mp z).elim c15 (fun q => absurd c32 (Int32.not_le.mpr q)))]); try rfl) ?_
            exact ih7 ((i + 1)) (by omega) (by omega)
          · skip
            refine g_aload_n (pc' := 46) (j := 3) hC dX2_orderTo_45 rfl rfl rfl ?_
            refine gf_X2_1 (pc' := 49) (b := c) hC (by omega : c < 6) wF_X2_15 dX2_orderTo_46 rfl ?_
            refine g_iload (pc' := 51) (j := 1) hC dX2_orderTo_49 rfl rfl ?_
            refine a_ld (pc' := 52) (k := 90 + 3 * c + 2) (i := i) hC (by have := (by omega : c < 6); show _ < 228; omega) (ct_cc g σ (by omega : c < 6)) (by omega) (by decide) dX2_orderTo_51 rfl ?_
            refine g_aload_n (pc' := 53) (j := 4) hC dX2_orderTo_52 rfl rfl rfl ?_
            refine gf_X2_1 (pc' := 56) (b := d) hC (by omega : d < 6) wF_X2_15 dX2_orderTo_53 rfl ?_
            refine g_iload (pc' := 58) (j := 1) hC dX2_orderTo_56 rfl rfl ?_
            refine a_ld (pc' := 59) (k := 90 + 3 * d + 2) (i := i) hC (by have := (by omega : d < 6); show _ < 228; omega) (ct_cc g σ (by omega : d < 6)) (by omega) (by decide) dX2_orderTo_58 rfl ?_
            refine g_icmp_ge (pc' := 62) (tgt := 66) hC dX2_orderTo_59 (by decide) rfl (fun c59 => ?_) (fun c59 => ?_)
            · skip
              refine g_iconst (pc' := 67) (v := nI 0) hC dX2_orderTo_66 rfl rfl ?_
              refine g_istore_n (pc' := 68) (lv' := [(3, .int (nI 0)), (2, .int (nI 1)), (4, .int (nI i)), (0, .ref (g.2.1 (90 + 3 * c))), (1, .ref (g.2.1 (90 + 3 * d)))]) hC dX2_orderTo_67 rfl rfl (by decide) rfl ?_
              refine g_iinc (pc' := 71) (j := 2) (u := nI (i + 1)) (lv' := [(4, .int (nI (i + 1))), (3, .int (nI 0)), (2, .int (nI 1)), (0, .ref (g.2.1 (90 + 3 * c))), (1, .ref (g.2.1 (90 + 3 * d)))]) hC dX2_orderTo_68 rfl rfl (nI_add i 1) (by decide) rfl ?_
              refine g_goto (tgt := 7) hC dX2_orderTo_71 (by decide) ?_
              refine gg_lv (lv' := [(4, .int (nI (i + 1))), (3, .int (nI 0)), (2, .int (nI 1)), (0, .ref (g.2.1 (90 + 3 * c))), (1, .ref (g.2.1 (90 + 3 * d)))]) ?_ [0, 1, 2, 3, 4] rfl
              refine gg_lve (lv' := [(4, .int (nI ((i + 1)))), (3, .int (bI (gtx (σ.1 (90 + 3 * d + 2)) (σ.1 (90 + 3 * c + 2)) ((i + 1))))), (2, .int (bI (gtx (σ.1 (90 + 3 * c + 2)) (σ.1 (90 + 3 * d + 2)) ((i + 1))))), (0, .ref (g.2.1 (90 + 3 * c))), (1, .ref (g.2.1 (90 + 3 * d)))]) (by (first | rw [bI_t (show gtx (σ.1 (90 + 3 * d + 2)) (σ.1 (90 + 3 * c + 2)) (i + 1) from gtx_s.mpr (by first | exact Or.inl c42 | exact Or.inr (Int32.not_le.mp c59)))] | rw [bI_f (show ¬ gtx (σ.1 (90 + 3 * d + 2)) (σ.1 (90 + 3 * c + 2)) (i + 1) from fun z => (gtx_s.mp z).elim c42 (fun q => absurd c59 (Int32.not_le.mpr q)))]); (first | rw [bI_t (show gtx (σ.1 (90 + 3 * c + 2)) (σ.1 (90 + 3 * d + 2)) (i + 1) from gtx_s.mpr (by first | exact Or.inl c15 | exact Or.inr (Int32.not_le.mp c32)))] | rw [bI_f (show ¬ gtx (σ.1 (90 + 3 * c + 2)) (σ.1 (90 + 3 * d + 2)) (i + 1) from fun z => (gtx_s.mp z).elim c15 (fun q => absurd c32 (Int32.not_le.mpr q)))]); try rfl) ?_
              exact ih7 ((i + 1)) (by omega) (by omega)
            · skip
              refine g_iconst (pc' := 63) (v := nI 1) hC dX2_orderTo_62 rfl rfl ?_
              refine g_goto (tgt := 67) hC dX2_orderTo_63 (by decide) ?_
              refine g_istore_n (pc' := 68) (lv' := [(3, .int (nI 1)), (2, .int (nI 1)), (4, .int (nI i)), (0, .ref (g.2.1 (90 + 3 * c))), (1, .ref (g.2.1 (90 + 3 * d)))]) hC dX2_orderTo_67 rfl rfl (by decide) rfl ?_
              refine g_iinc (pc' := 71) (j := 2) (u := nI (i + 1)) (lv' := [(4, .int (nI (i + 1))), (3, .int (nI 1)), (2, .int (nI 1)), (0, .ref (g.2.1 (90 + 3 * c))), (1, .ref (g.2.1 (90 + 3 * d)))]) hC dX2_orderTo_68 rfl rfl (nI_add i 1) (by decide) rfl ?_
              refine g_goto (tgt := 7) hC dX2_orderTo_71 (by decide) ?_
              refine gg_lv (lv' := [(4, .int (nI (i + 1))), (3, .int (nI 1)), (2, .int (nI 1)), (0, .ref (g.2.1 (90 + 3 * c))), (1, .ref (g.2.1 (90 + 3 * d)))]) ?_ [0, 1, 2, 3, 4] rfl
              refine gg_lve (lv' := [(4, .int (nI ((i + 1)))), (3, .int (bI (gtx (σ.1 (90 + 3 * d + 2)) (σ.1 (90 + 3 * c + 2)) ((i + 1))))), (2, .int (bI (gtx (σ.1 (90 + 3 * c + 2)) (σ.1 (90 + 3 * d + 2)) ((i + 1))))), (0, .ref (g.2.1 (90 + 3 * c))), (1, .ref (g.2.1 (90 + 3 * d)))]) (by (first | rw [bI_t (show gtx (σ.1 (90 + 3 * d + 2)) (σ.1 (90 + 3 * c + 2)) (i + 1) from gtx_s.mpr (by first | exact Or.inl c42 | exact Or.inr (Int32.not_le.mp c59)))] | rw [bI_f (show ¬ gtx (σ.1 (90 + 3 * d + 2)) (σ.1 (90 + 3 * c + 2)) (i + 1) from fun z => (gtx_s.mp z).elim c42 (fun q => absurd c59 (Int32.not_le.mpr q)))]); (first | rw [bI_t (show gtx (σ.1 (90 + 3 * c + 2)) (σ.1 (90 + 3 * d + 2)) (i + 1) from gtx_s.mpr (by first | exact Or.inl c15 | exact Or.inr (Int32.not_le.mp c32)))] | rw [bI_f (show ¬ gtx (σ.1 (90 + 3 * c + 2)) (σ.1 (90 + 3 * d + 2)) (i + 1) from fun z => (gtx_s.mp z).elim c15 (fun q => absurd c32 (Int32.not_le.mpr q)))]); try rfl) ?_
              exact ih7 ((i + 1)) (by omega) (by omega)
        · skip
          refine g_aload_n (pc' := 19) (j := 3) hC dX2_orderTo_18 rfl rfl rfl ?_
          refine gf_X2_1 (pc' := 22) (b := c) hC (by omega : c < 6) wF_X2_15 dX2_orderTo_19 rfl ?_
          refine g_iload (pc' := 24) (j := 0) hC dX2_orderTo_22 rfl rfl ?_
          refine a_ld (pc' := 25) (k := 90 + 3 * c + 2) (i := i) hC (by have := (by omega : c < 6); show _ < 228; omega) (ct_cc g σ (by omega : c < 6)) (by omega) (by decide) dX2_orderTo_24 rfl ?_
          refine g_aload_n (pc' := 26) (j := 4) hC dX2_orderTo_25 rfl rfl rfl ?_
          refine gf_X2_1 (pc' := 29) (b := d) hC (by omega : d < 6) wF_X2_15 dX2_orderTo_26 rfl ?_
          refine g_iload (pc' := 31) (j := 0) hC dX2_orderTo_29 rfl rfl ?_
          refine a_ld (pc' := 32) (k := 90 + 3 * d + 2) (i := i) hC (by have := (by omega : d < 6); show _ < 228; omega) (ct_cc g σ (by omega : d < 6)) (by omega) (by decide) dX2_orderTo_31 rfl ?_
          refine g_icmp_le (pc' := 35) (tgt := 39) hC dX2_orderTo_32 (by decide) rfl (fun c32 => ?_) (fun c32 => ?_)
          · skip
            refine g_iconst (pc' := 40) (v := nI 0) hC dX2_orderTo_39 rfl rfl ?_
            refine g_istore_n (pc' := 41) (lv' := [(2, .int (nI 0)), (4, .int (nI i)), (3, .int (bI (gtx (σ.1 (90 + 3 * d + 2)) (σ.1 (90 + 3 * c + 2)) i))), (0, .ref (g.2.1 (90 + 3 * c))), (1, .ref (g.2.1 (90 + 3 * d)))]) hC dX2_orderTo_40 rfl rfl (by decide) rfl ?_
            refine g_iload_n (pc' := 42) (j := 2) hC dX2_orderTo_41 rfl rfl rfl ?_
            refine b_if_ne (pc' := 45) (tgt := 62) hC dX2_orderTo_42 (by decide) rfl (fun c42 => ?_) (fun c42 => ?_)
            · skip
              refine g_iconst (pc' := 63) (v := nI 1) hC dX2_orderTo_62 rfl rfl ?_
              refine g_goto (tgt := 67) hC dX2_orderTo_63 (by decide) ?_
              refine g_istore_n (pc' := 68) (lv' := [(3, .int (nI 1)), (2, .int (nI 0)), (4, .int (nI i)), (0, .ref (g.2.1 (90 + 3 * c))), (1, .ref (g.2.1 (90 + 3 * d)))]) hC dX2_orderTo_67 rfl rfl (by decide) rfl ?_
              refine g_iinc (pc' := 71) (j := 2) (u := nI (i + 1)) (lv' := [(4, .int (nI (i + 1))), (3, .int (nI 1)), (2, .int (nI 0)), (0, .ref (g.2.1 (90 + 3 * c))), (1, .ref (g.2.1 (90 + 3 * d)))]) hC dX2_orderTo_68 rfl rfl (nI_add i 1) (by decide) rfl ?_
              refine g_goto (tgt := 7) hC dX2_orderTo_71 (by decide) ?_
              refine gg_lv (lv' := [(4, .int (nI (i + 1))), (3, .int (nI 1)), (2, .int (nI 0)), (0, .ref (g.2.1 (90 + 3 * c))), (1, .ref (g.2.1 (90 + 3 * d)))]) ?_ [0, 1, 2, 3, 4] rfl
              refine gg_lve (lv' := [(4, .int (nI ((i + 1)))), (3, .int (bI (gtx (σ.1 (90 + 3 * d + 2)) (σ.1 (90 + 3 * c + 2)) ((i + 1))))), (2, .int (bI (gtx (σ.1 (90 + 3 * c + 2)) (σ.1 (90 + 3 * d + 2)) ((i + 1))))), (0, .ref (g.2.1 (90 + 3 * c))), (1, .ref (g.2.1 (90 + 3 * d)))]) (by (first | rw [bI_t (show gtx (σ.1 (90 + 3 * d + 2)) (σ.1 (90 + 3 * c + 2)) (i + 1) from gtx_s.mpr (by first | exact Or.inl c42 | exact Or.inr (Int32.not_le.mp c59)))] | rw [bI_f (show ¬ gtx (σ.1 (90 + 3 * d + 2)) (σ.1 (90 + 3 * c + 2)) (i + 1) from fun z => (gtx_s.mp z).elim c42 (fun q => absurd c59 (Int32.not_le.mpr q)))]); (first | rw [bI_t (show gtx (σ.1 (90 + 3 * c + 2)) (σ.1 (90 + 3 * d + 2)) (i + 1) from gtx_s.mpr (by first | exact Or.inl c15 | exact Or.inr (Int32.not_le.mp c32)))] | rw [bI_f (show ¬ gtx (σ.1 (90 + 3 * c + 2)) (σ.1 (90 + 3 * d + 2)) (i + 1) from fun z => (gtx_s.mp z).elim c15 (fun q => absurd c32 (Int32.not_le.mpr q)))]); try rfl) ?_
              exact ih7 ((i + 1)) (by omega) (by omega)
            · skip
              refine g_aload_n (pc' := 46) (j := 3) hC dX2_orderTo_45 rfl rfl rfl ?_
              refine gf_X2_1 (pc' := 49) (b := c) hC (by omega : c < 6) wF_X2_15 dX2_orderTo_46 rfl ?_
              refine g_iload (pc' := 51) (j := 1) hC dX2_orderTo_49 rfl rfl ?_
              refine a_ld (pc' := 52) (k := 90 + 3 * c + 2) (i := i) hC (by have := (by omega : c < 6); show _ < 228; omega) (ct_cc g σ (by omega : c < 6)) (by omega) (by decide) dX2_orderTo_51 rfl ?_
              refine g_aload_n (pc' := 53) (j := 4) hC dX2_orderTo_52 rfl rfl rfl ?_
              refine gf_X2_1 (pc' := 56) (b := d) hC (by omega : d < 6) wF_X2_15 dX2_orderTo_53 rfl ?_
              refine g_iload (pc' := 58) (j := 1) hC dX2_orderTo_56 rfl rfl ?_
              refine a_ld (pc' := 59) (k := 90 + 3 * d + 2) (i := i) hC (by have := (by omega : d < 6); show _ < 228; omega) (ct_cc g σ (by omega : d < 6)) (by omega) (by decide) dX2_orderTo_58 rfl ?_
              refine g_icmp_ge (pc' := 62) (tgt := 66) hC dX2_orderTo_59 (by decide) rfl (fun c59 => ?_) (fun c59 => ?_)
              · skip
                refine g_iconst (pc' := 67) (v := nI 0) hC dX2_orderTo_66 rfl rfl ?_
                refine g_istore_n (pc' := 68) (lv' := [(3, .int (nI 0)), (2, .int (nI 0)), (4, .int (nI i)), (0, .ref (g.2.1 (90 + 3 * c))), (1, .ref (g.2.1 (90 + 3 * d)))]) hC dX2_orderTo_67 rfl rfl (by decide) rfl ?_
                refine g_iinc (pc' := 71) (j := 2) (u := nI (i + 1)) (lv' := [(4, .int (nI (i + 1))), (3, .int (nI 0)), (2, .int (nI 0)), (0, .ref (g.2.1 (90 + 3 * c))), (1, .ref (g.2.1 (90 + 3 * d)))]) hC dX2_orderTo_68 rfl rfl (nI_add i 1) (by decide) rfl ?_
                refine g_goto (tgt := 7) hC dX2_orderTo_71 (by decide) ?_
                refine gg_lv (lv' := [(4, .int (nI (i + 1))), (3, .int (nI 0)), (2, .int (nI 0)), (0, .ref (g.2.1 (90 + 3 * c))), (1, .ref (g.2.1 (90 + 3 * d)))]) ?_ [0, 1, 2, 3, 4] rfl
                refine gg_lve (lv' := [(4, .int (nI ((i + 1)))), (3, .int (bI (gtx (σ.1 (90 + 3 * d + 2)) (σ.1 (90 + 3 * c + 2)) ((i + 1))))), (2, .int (bI (gtx (σ.1 (90 + 3 * c + 2)) (σ.1 (90 + 3 * d + 2)) ((i + 1))))), (0, .ref (g.2.1 (90 + 3 * c))), (1, .ref (g.2.1 (90 + 3 * d)))]) (by (first | rw [bI_t (show gtx (σ.1 (90 + 3 * d + 2)) (σ.1 (90 + 3 * c + 2)) (i + 1) from gtx_s.mpr (by first | exact Or.inl c42 | exact Or.inr (Int32.not_le.mp c59)))] | rw [bI_f (show ¬ gtx (σ.1 (90 + 3 * d + 2)) (σ.1 (90 + 3 * c + 2)) (i + 1) from fun z => (gtx_s.mp z).elim c42 (fun q => absurd c59 (Int32.not_le.mpr q)))]); (first | rw [bI_t (show gtx (σ.1 (90 + 3 * c + 2)) (σ.1 (90 + 3 * d + 2)) (i + 1) from gtx_s.mpr (by first | exact Or.inl c15 | exact Or.inr (Int32.not_le.mp c32)))] | rw [bI_f (show ¬ gtx (σ.1 (90 + 3 * c + 2)) (σ.1 (90 + 3 * d + 2)) (i + 1) from fun z => (gtx_s.mp z).elim c15 (fun q => absurd c32 (Int32.not_le.mpr q)))]); try rfl) ?_
                exact ih7 ((i + 1)) (by omega) (by omega)
              · skip
                refine g_iconst (pc' := 63) (v := nI 1) hC dX2_orderTo_62 rfl rfl ?_
                refine g_goto (tgt := 67) hC dX2_orderTo_63 (by decide) ?_
                refine g_istore_n (pc' := 68) (lv' := [(3, .int (nI 1)), (2, .int (nI 0)), (4, .int (nI i)), (0, .ref (g.2.1 (90 + 3 * c))), (1, .ref (g.2.1 (90 + 3 * d)))]) hC dX2_orderTo_67 rfl rfl (by decide) rfl ?_
                refine g_iinc (pc' := 71) (j := 2) (u := nI (i + 1)) (lv' := [(4, .int (nI (i + 1))), (3, .int (nI 1)), (2, .int (nI 0)), (0, .ref (g.2.1 (90 + 3 * c))), (1, .ref (g.2.1 (90 + 3 * d)))]) hC dX2_orderTo_68 rfl rfl (nI_add i 1) (by decide) rfl ?_
                refine g_goto (tgt := 7) hC dX2_orderTo_71 (by decide) ?_
                refine gg_lv (lv' := [(4, .int (nI (i + 1))), (3, .int (nI 1)), (2, .int (nI 0)), (0, .ref (g.2.1 (90 + 3 * c))), (1, .ref (g.2.1 (90 + 3 * d)))]) ?_ [0, 1, 2, 3, 4] rfl
                refine gg_lve (lv' := [(4, .int (nI ((i + 1)))), (3, .int (bI (gtx (σ.1 (90 + 3 * d + 2)) (σ.1 (90 + 3 * c + 2)) ((i + 1))))), (2, .int (bI (gtx (σ.1 (90 + 3 * c + 2)) (σ.1 (90 + 3 * d + 2)) ((i + 1))))), (0, .ref (g.2.1 (90 + 3 * c))), (1, .ref (g.2.1 (90 + 3 * d)))]) (by (first | rw [bI_t (show gtx (σ.1 (90 + 3 * d + 2)) (σ.1 (90 + 3 * c + 2)) (i + 1) from gtx_s.mpr (by first | exact Or.inl c42 | exact Or.inr (Int32.not_le.mp c59)))] | rw [bI_f (show ¬ gtx (σ.1 (90 + 3 * d + 2)) (σ.1 (90 + 3 * c + 2)) (i + 1) from fun z => (gtx_s.mp z).elim c42 (fun q => absurd c59 (Int32.not_le.mpr q)))]); (first | rw [bI_t (show gtx (σ.1 (90 + 3 * c + 2)) (σ.1 (90 + 3 * d + 2)) (i + 1) from gtx_s.mpr (by first | exact Or.inl c15 | exact Or.inr (Int32.not_le.mp c32)))] | rw [bI_f (show ¬ gtx (σ.1 (90 + 3 * c + 2)) (σ.1 (90 + 3 * d + 2)) (i + 1) from fun z => (gtx_s.mp z).elim c15 (fun q => absurd c32 (Int32.not_le.mpr q)))]); try rfl) ?_
                exact ih7 ((i + 1)) (by omega) (by omega)
          · skip
            refine g_iconst (pc' := 36) (v := nI 1) hC dX2_orderTo_35 rfl rfl ?_
            refine g_goto (tgt := 40) hC dX2_orderTo_36 (by decide) ?_
            refine g_istore_n (pc' := 41) (lv' := [(2, .int (nI 1)), (4, .int (nI i)), (3, .int (bI (gtx (σ.1 (90 + 3 * d + 2)) (σ.1 (90 + 3 * c + 2)) i))), (0, .ref (g.2.1 (90 + 3 * c))), (1, .ref (g.2.1 (90 + 3 * d)))]) hC dX2_orderTo_40 rfl rfl (by decide) rfl ?_
            refine g_iload_n (pc' := 42) (j := 2) hC dX2_orderTo_41 rfl rfl rfl ?_
            refine b_if_ne (pc' := 45) (tgt := 62) hC dX2_orderTo_42 (by decide) rfl (fun c42 => ?_) (fun c42 => ?_)
            · skip
              refine g_iconst (pc' := 63) (v := nI 1) hC dX2_orderTo_62 rfl rfl ?_
              refine g_goto (tgt := 67) hC dX2_orderTo_63 (by decide) ?_
              refine g_istore_n (pc' := 68) (lv' := [(3, .int (nI 1)), (2, .int (nI 1)), (4, .int (nI i)), (0, .ref (g.2.1 (90 + 3 * c))), (1, .ref (g.2.1 (90 + 3 * d)))]) hC dX2_orderTo_67 rfl rfl (by decide) rfl ?_
              refine g_iinc (pc' := 71) (j := 2) (u := nI (i + 1)) (lv' := [(4, .int (nI (i + 1))), (3, .int (nI 1)), (2, .int (nI 1)), (0, .ref (g.2.1 (90 + 3 * c))), (1, .ref (g.2.1 (90 + 3 * d)))]) hC dX2_orderTo_68 rfl rfl (nI_add i 1) (by decide) rfl ?_
              refine g_goto (tgt := 7) hC dX2_orderTo_71 (by decide) ?_
              refine gg_lv (lv' := [(4, .int (nI (i + 1))), (3, .int (nI 1)), (2, .int (nI 1)), (0, .ref (g.2.1 (90 + 3 * c))), (1, .ref (g.2.1 (90 + 3 * d)))]) ?_ [0, 1, 2, 3, 4] rfl
              refine gg_lve (lv' := [(4, .int (nI ((i + 1)))), (3, .int (bI (gtx (σ.1 (90 + 3 * d + 2)) (σ.1 (90 + 3 * c + 2)) ((i + 1))))), (2, .int (bI (gtx (σ.1 (90 + 3 * c + 2)) (σ.1 (90 + 3 * d + 2)) ((i + 1))))), (0, .ref (g.2.1 (90 + 3 * c))), (1, .ref (g.2.1 (90 + 3 * d)))]) (by (first | rw [bI_t (show gtx (σ.1 (90 + 3 * d + 2)) (σ.1 (90 + 3 * c + 2)) (i + 1) from gtx_s.mpr (by first | exact Or.inl c42 | exact Or.inr (Int32.not_le.mp c59)))] | rw [bI_f (show ¬ gtx (σ.1 (90 + 3 * d + 2)) (σ.1 (90 + 3 * c + 2)) (i + 1) from fun z => (gtx_s.mp z).elim c42 (fun q => absurd c59 (Int32.not_le.mpr q)))]); (first | rw [bI_t (show gtx (σ.1 (90 + 3 * c + 2)) (σ.1 (90 + 3 * d + 2)) (i + 1) from gtx_s.mpr (by first | exact Or.inl c15 | exact Or.inr (Int32.not_le.mp c32)))] | rw [bI_f (show ¬ gtx (σ.1 (90 + 3 * c + 2)) (σ.1 (90 + 3 * d + 2)) (i + 1) from fun z => (gtx_s.mp z).elim c15 (fun q => absurd c32 (Int32.not_le.mpr q)))]); try rfl) ?_
              exact ih7 ((i + 1)) (by omega) (by omega)
            · skip
              refine g_aload_n (pc' := 46) (j := 3) hC dX2_orderTo_45 rfl rfl rfl ?_
              refine gf_X2_1 (pc' := 49) (b := c) hC (by omega : c < 6) wF_X2_15 dX2_orderTo_46 rfl ?_
              refine g_iload (pc' := 51) (j := 1) hC dX2_orderTo_49 rfl rfl ?_
              refine a_ld (pc' := 52) (k := 90 + 3 * c + 2) (i := i) hC (by have := (by omega : c < 6); show _ < 228; omega) (ct_cc g σ (by omega : c < 6)) (by omega) (by decide) dX2_orderTo_51 rfl ?_
              refine g_aload_n (pc' := 53) (j := 4) hC dX2_orderTo_52 rfl rfl rfl ?_
              refine gf_X2_1 (pc' := 56) (b := d) hC (by omega : d < 6) wF_X2_15 dX2_orderTo_53 rfl ?_
              refine g_iload (pc' := 58) (j := 1) hC dX2_orderTo_56 rfl rfl ?_
              refine a_ld (pc' := 59) (k := 90 + 3 * d + 2) (i := i) hC (by have := (by omega : d < 6); show _ < 228; omega) (ct_cc g σ (by omega : d < 6)) (by omega) (by decide) dX2_orderTo_58 rfl ?_
              refine g_icmp_ge (pc' := 62) (tgt := 66) hC dX2_orderTo_59 (by decide) rfl (fun c59 => ?_) (fun c59 => ?_)
              · skip
                refine g_iconst (pc' := 67) (v := nI 0) hC dX2_orderTo_66 rfl rfl ?_
                refine g_istore_n (pc' := 68) (lv' := [(3, .int (nI 0)), (2, .int (nI 1)), (4, .int (nI i)), (0, .ref (g.2.1 (90 + 3 * c))), (1, .ref (g.2.1 (90 + 3 * d)))]) hC dX2_orderTo_67 rfl rfl (by decide) rfl ?_
                refine g_iinc (pc' := 71) (j := 2) (u := nI (i + 1)) (lv' := [(4, .int (nI (i + 1))), (3, .int (nI 0)), (2, .int (nI 1)), (0, .ref (g.2.1 (90 + 3 * c))), (1, .ref (g.2.1 (90 + 3 * d)))]) hC dX2_orderTo_68 rfl rfl (nI_add i 1) (by decide) rfl ?_
                refine g_goto (tgt := 7) hC dX2_orderTo_71 (by decide) ?_
                refine gg_lv (lv' := [(4, .int (nI (i + 1))), (3, .int (nI 0)), (2, .int (nI 1)), (0, .ref (g.2.1 (90 + 3 * c))), (1, .ref (g.2.1 (90 + 3 * d)))]) ?_ [0, 1, 2, 3, 4] rfl
                refine gg_lve (lv' := [(4, .int (nI ((i + 1)))), (3, .int (bI (gtx (σ.1 (90 + 3 * d + 2)) (σ.1 (90 + 3 * c + 2)) ((i + 1))))), (2, .int (bI (gtx (σ.1 (90 + 3 * c + 2)) (σ.1 (90 + 3 * d + 2)) ((i + 1))))), (0, .ref (g.2.1 (90 + 3 * c))), (1, .ref (g.2.1 (90 + 3 * d)))]) (by (first | rw [bI_t (show gtx (σ.1 (90 + 3 * d + 2)) (σ.1 (90 + 3 * c + 2)) (i + 1) from gtx_s.mpr (by first | exact Or.inl c42 | exact Or.inr (Int32.not_le.mp c59)))] | rw [bI_f (show ¬ gtx (σ.1 (90 + 3 * d + 2)) (σ.1 (90 + 3 * c + 2)) (i + 1) from fun z => (gtx_s.mp z).elim c42 (fun q => absurd c59 (Int32.not_le.mpr q)))]); (first | rw [bI_t (show gtx (σ.1 (90 + 3 * c + 2)) (σ.1 (90 + 3 * d + 2)) (i + 1) from gtx_s.mpr (by first | exact Or.inl c15 | exact Or.inr (Int32.not_le.mp c32)))] | rw [bI_f (show ¬ gtx (σ.1 (90 + 3 * c + 2)) (σ.1 (90 + 3 * d + 2)) (i + 1) from fun z => (gtx_s.mp z).elim c15 (fun q => absurd c32 (Int32.not_le.mpr q)))]); try rfl) ?_
                exact ih7 ((i + 1)) (by omega) (by omega)
              · skip
                refine g_iconst (pc' := 63) (v := nI 1) hC dX2_orderTo_62 rfl rfl ?_
                refine g_goto (tgt := 67) hC dX2_orderTo_63 (by decide) ?_
                refine g_istore_n (pc' := 68) (lv' := [(3, .int (nI 1)), (2, .int (nI 1)), (4, .int (nI i)), (0, .ref (g.2.1 (90 + 3 * c))), (1, .ref (g.2.1 (90 + 3 * d)))]) hC dX2_orderTo_67 rfl rfl (by decide) rfl ?_
                refine g_iinc (pc' := 71) (j := 2) (u := nI (i + 1)) (lv' := [(4, .int (nI (i + 1))), (3, .int (nI 1)), (2, .int (nI 1)), (0, .ref (g.2.1 (90 + 3 * c))), (1, .ref (g.2.1 (90 + 3 * d)))]) hC dX2_orderTo_68 rfl rfl (nI_add i 1) (by decide) rfl ?_
                refine g_goto (tgt := 7) hC dX2_orderTo_71 (by decide) ?_
                refine gg_lv (lv' := [(4, .int (nI (i + 1))), (3, .int (nI 1)), (2, .int (nI 1)), (0, .ref (g.2.1 (90 + 3 * c))), (1, .ref (g.2.1 (90 + 3 * d)))]) ?_ [0, 1, 2, 3, 4] rfl
                refine gg_lve (lv' := [(4, .int (nI ((i + 1)))), (3, .int (bI (gtx (σ.1 (90 + 3 * d + 2)) (σ.1 (90 + 3 * c + 2)) ((i + 1))))), (2, .int (bI (gtx (σ.1 (90 + 3 * c + 2)) (σ.1 (90 + 3 * d + 2)) ((i + 1))))), (0, .ref (g.2.1 (90 + 3 * c))), (1, .ref (g.2.1 (90 + 3 * d)))]) (by (first | rw [bI_t (show gtx (σ.1 (90 + 3 * d + 2)) (σ.1 (90 + 3 * c + 2)) (i + 1) from gtx_s.mpr (by first | exact Or.inl c42 | exact Or.inr (Int32.not_le.mp c59)))] | rw [bI_f (show ¬ gtx (σ.1 (90 + 3 * d + 2)) (σ.1 (90 + 3 * c + 2)) (i + 1) from fun z => (gtx_s.mp z).elim c42 (fun q => absurd c59 (Int32.not_le.mpr q)))]); (first | rw [bI_t (show gtx (σ.1 (90 + 3 * c + 2)) (σ.1 (90 + 3 * d + 2)) (i + 1) from gtx_s.mpr (by first | exact Or.inl c15 | exact Or.inr (Int32.not_le.mp c32)))] | rw [bI_f (show ¬ gtx (σ.1 (90 + 3 * c + 2)) (σ.1 (90 + 3 * d + 2)) (i + 1) from fun z => (gtx_s.mp z).elim c15 (fun q => absurd c32 (Int32.not_le.mpr q)))]); try rfl) ?_
                exact ih7 ((i + 1)) (by omega) (by omega)
  refine gg_lv (lv' := [(4, .int (nI 0)), (3, .int (nI 0)), (2, .int (nI 0)), (0, .ref (g.2.1 (90 + 3 * c))), (1, .ref (g.2.1 (90 + 3 * d)))]) ?_ [0, 1, 2, 3, 4] rfl
  refine gg_lve (lv' := [(4, .int (nI 0)), (3, .int (bI (gtx (σ.1 (90 + 3 * d + 2)) (σ.1 (90 + 3 * c + 2)) 0))), (2, .int (bI (gtx (σ.1 (90 + 3 * c + 2)) (σ.1 (90 + 3 * d + 2)) 0))), (0, .ref (g.2.1 (90 + 3 * c))), (1, .ref (g.2.1 (90 + 3 * d)))]) (by rw [bI_f (show ¬ gtx (σ.1 (90 + 3 * d + 2)) (σ.1 (90 + 3 * c + 2)) 0 from fun ⟨j, h, _⟩ => absurd h (Nat.not_lt_zero j)), bI_f (show ¬ gtx (σ.1 (90 + 3 * c + 2)) (σ.1 (90 + 3 * d + 2)) 0 from fun ⟨j, h, _⟩ => absurd h (Nat.not_lt_zero j))]; rfl) ?_
  exact L7 (6 - 0 + 1) 0 (by omega) (by omega)
set_option maxHeartbeats 4000000 in
set_option maxRecDepth 20000 in
theorem c_beginC (l : Launch) (g : Lay) (z0 : Nat) (σ : St) (c : Nat)  (hc : c < 6)  : CTv l yX2_begin cX2_begin 1 1 g z0 [.ref (g.2.1 (90 + 3 * c))] σ (FV (cbc σ c)) := by
  refine CTv.of (by decide) (Nat.le_of_ble_eq_true rfl) ?_
  intro x hxl hxa hC
  have hC : Cx x RX2 cX2_begin 1 none 1 g z0 := hC
  show GG x g z0 1 0 0 (Qv x g z0 (FV (cbc σ c))) σ 0 [(0, .ref (g.2.1 (90 + 3 * c)))] []
  refine g_aload_n (pc' := 1) (j := 0) hC dX2_begin_0 rfl rfl rfl ?_
  refine gf_X2_0 (pc' := 4) (b := c) hC (by omega : c < 6) wF_X2_9 dX2_begin_1 rfl ?_
  refine g_iconst (pc' := 5) (v := nI 0) hC dX2_begin_4 rfl rfl ?_
  refine g_iconst (pc' := 6) (v := nI 1) hC dX2_begin_5 rfl rfl ?_
  refine a_st (pc' := 7) (k := 90 + 3 * c + 1) (i := 0) hC (by have := (by omega : c < 6); show _ < 228; omega) (fun σ9 => (ct_ch g σ9 (by omega : c < 6))) (by omega) (by decide) dX2_begin_6 rfl ?_
  refine g_aload_n (pc' := 8) (j := 0) hC dX2_begin_7 rfl rfl rfl ?_
  refine gf_X2_1 (pc' := 11) (b := c) hC (by omega : c < 6) wF_X2_15 dX2_begin_8 rfl ?_
  refine g_iconst (pc' := 12) (v := nI 0) hC dX2_begin_11 rfl rfl ?_
  refine f_Sv (pc' := 15) (st := []) hC (c_fill x.2.1 g z0 (uv σ (90 + 3 * c + 1) 0 (nI 1)) c ((nI 0)) (by omega)) k_J7_fill_53178 wM_X2_18 (by decide) rfl rfl (Nat.le_of_ble_eq_true rfl) dX2_begin_12 rfl (Nat.zero_le _) (Nat.zero_le _) ?_
  refine g_aload_n (pc' := 16) (j := 0) hC dX2_begin_15 rfl rfl rfl ?_
  refine g_iconst (pc' := 17) (v := nI 0) hC dX2_begin_16 rfl rfl ?_
  refine pf_X2_2 (pc' := 20) (b := c) hC (by omega : c < 6) wF_X2_24 dX2_begin_17 rfl ?_
  refine g_aload_n (pc' := 21) (j := 0) hC dX2_begin_20 rfl rfl rfl ?_
  refine g_iconst (pc' := 22) (v := nI 0) hC dX2_begin_21 rfl rfl ?_
  refine pf_X2_3 (pc' := 25) (b := c) hC (by omega : c < 6) wF_X2_28 dX2_begin_22 rfl ?_
  refine g_aload_n (pc' := 26) (j := 0) hC dX2_begin_25 rfl rfl rfl ?_
  refine g_iconst (pc' := 27) (v := nI 0) hC dX2_begin_26 rfl rfl ?_
  refine pf_X2_4 (pc' := 30) (b := c) hC (by omega : c < 6) wF_X2_31 dX2_begin_27 rfl ?_
  refine g_aload_n (pc' := 31) (j := 0) hC dX2_begin_30 rfl rfl rfl ?_
  refine g_iconst (pc' := 32) (v := nI 0) hC dX2_begin_31 rfl rfl ?_
  refine pf_X2_5 (pc' := 35) (b := c) hC (by omega : c < 6) rfl rfl wF_X2_34 dX2_begin_32 rfl ?_
  refine g_retv hC dX2_begin_35 ?_
  exact by unfold cbc; simp (disch := omega) only [uv_fn]; exact rfl
set_option maxHeartbeats 4000000 in
set_option maxRecDepth 20000 in
theorem c_takeHistory (l : Launch) (g : Lay) (z0 : Nat) (σ : St) (c : Nat) (b : Nat) (hc : c < 6) (hb : b < 8) (hL : nb σ (34 + 7 * b) 6 200)  : CTv l yX2_takeHistory cX2_takeHistory 4 1 g z0 [.ref (g.2.1 (90 + 3 * c)), .ref (g.2.1 (34 + 7 * b))] σ (FV (cth σ c b)) := by
  refine CTv.of (by decide) (Nat.le_of_ble_eq_true rfl) ?_
  intro x hxl hxa hC
  have hC : Cx x RX2 cX2_takeHistory 4 none 1 g z0 := hC
  have hL2 := hL.2
  show GG x g z0 4 0 0 (Qv x g z0 (FV (cth σ c b))) σ 0 [(0, .ref (g.2.1 (90 + 3 * c))), (1, .ref (g.2.1 (34 + 7 * b)))] []
  refine g_aload_n (pc' := 1) (j := 0) hC dX2_takeHistory_0 rfl rfl rfl ?_
  refine g_aload_n (pc' := 2) (j := 1) hC dX2_takeHistory_1 rfl rfl rfl ?_
  refine gf_X1_6 (pc' := 5) (b := b) hC (by omega : b < 8) wF_X2_38 dX2_takeHistory_2 rfl ?_
  refine gg_topi (b := nI (rd σ (34 + 7 * b) 6)) (hL.1) ?_
  refine pf_X2_2 (pc' := 8) (b := c) hC (by omega : c < 6) wF_X2_24 dX2_takeHistory_5 rfl ?_
  refine g_aload_n (pc' := 9) (j := 1) hC dX2_takeHistory_8 rfl rfl rfl ?_
  refine gf_X1_5 (pc' := 12) (b := b) hC (by omega : b < 8) wF_X2_43 dX2_takeHistory_9 rfl ?_
  refine g_iconst (pc' := 13) (v := nI 0) hC dX2_takeHistory_12 rfl rfl ?_
  refine g_aload_n (pc' := 14) (j := 0) hC dX2_takeHistory_13 rfl rfl rfl ?_
  refine gf_X2_0 (pc' := 17) (b := c) hC (by omega : c < 6) wF_X2_9 dX2_takeHistory_14 rfl ?_
  refine g_iconst (pc' := 18) (v := nI 0) hC dX2_takeHistory_17 rfl rfl ?_
  refine g_aload_n (pc' := 19) (j := 0) hC dX2_takeHistory_18 rfl rfl rfl ?_
  refine gf_X2_2 (pc' := 22) (b := c) hC (by omega : c < 6) wF_X2_24 dX2_takeHistory_19 rfl ?_
  refine gg_topi (b := nI (rd σ (34 + 7 * b) 6)) (uv_same _ _ _ _) ?_
  refine g_iconst (pc' := 23) (v := nI 1) hC dX2_takeHistory_22 rfl rfl ?_
  refine n_iadd (pc' := 24) hC dX2_takeHistory_23 rfl ?_
  refine g_copy (pc' := 27) (k0 := 34 + 7 * b + 6) (k1 := 90 + 3 * c + 1) (st := []) hC wM_X2_44 (by decide) (by have := (by omega : b < 8); show _ < 228; omega) (by have := (by omega : c < 6); show _ < 228; omega) (ct_ba g (uv σ (90 + 3 * c) 2 (nI (rd σ (34 + 7 * b) 6))) (by omega : b < 8) (by decide) (by decide)) (fun σ9 => (ct_ch g σ9 (by omega : c < 6))) (by omega) (by omega) (by decide) (by decide) (Nat.le_of_ble_eq_true rfl) dX2_takeHistory_24 rfl ?_
  refine gg_st (σ' := (ur (uv σ (90 + 3 * c) 2 (nI (rd σ (34 + 7 * b) 6))) (90 + 3 * c + 1) (va_cpy (σ.1 (34 + 7 * b + 6)) (σ.1 (90 + 3 * c + 1)) 0 0 ((rd σ (34 + 7 * b) 6) + 1)))) (by simp (disch := omega) only [ur_fn, uv_fn]) ?_
  refine g_aload_n (pc' := 28) (j := 0) hC dX2_takeHistory_27 rfl rfl rfl ?_
  refine gf_X2_1 (pc' := 31) (b := c) hC (by omega : c < 6) wF_X2_15 dX2_takeHistory_28 rfl ?_
  refine g_iconst (pc' := 32) (v := nI 0) hC dX2_takeHistory_31 rfl rfl ?_
  refine f_Sv (pc' := 35) (st := []) hC (c_fill x.2.1 g z0 (ur (uv σ (90 + 3 * c) 2 (nI (rd σ (34 + 7 * b) 6))) (90 + 3 * c + 1) (va_cpy (σ.1 (34 + 7 * b + 6)) (σ.1 (90 + 3 * c + 1)) 0 0 ((rd σ (34 + 7 * b) 6) + 1))) c ((nI 0)) (by omega)) k_J7_fill_53178 wM_X2_18 (by decide) rfl rfl (Nat.le_of_ble_eq_true rfl) dX2_takeHistory_32 rfl (Nat.zero_le _) (Nat.zero_le _) ?_
  refine g_iconst (pc' := 36) (v := nI 1) hC dX2_takeHistory_35 rfl rfl ?_
  refine g_istore_n (pc' := 37) (lv' := [(2, .int (nI 1)), (0, .ref (g.2.1 (90 + 3 * c))), (1, .ref (g.2.1 (34 + 7 * b)))]) hC dX2_takeHistory_36 rfl rfl (by decide) rfl ?_
  have L37 : ∀ (fu : Nat) (i : Nat), (i ≤ rd σ (34 + 7 * b) 6) → (rd σ (34 + 7 * b) 6 - i) < fu → GG x g z0 4 0 0 (Qv x g z0 (FV (cth σ c b))) (ur (ur (uv σ (90 + 3 * c) 2 (nI (rd σ (34 + 7 * b) 6))) (90 + 3 * c + 1) (va_cpy (σ.1 (34 + 7 * b + 6)) (σ.1 (90 + 3 * c + 1)) 0 0 (rd σ (34 + 7 * b) 6 + 1))) (90 + 3 * c + 2) (ccn (σ.1 (34 + 7 * b + 2)) (σ.1 (90 + 3 * c + 2)) i)) 37 [(2, .int (nI (i + 1))), (0, .ref (g.2.1 (90 + 3 * c))), (1, .ref (g.2.1 (34 + 7 * b)))] [] := by
    intro fu
    induction fu with
    | zero => intro i hi hz; exact absurd hz (Nat.not_lt_zero _)
    | succ fu ih37 =>
      intro i hi hf
      refine g_iload_n (pc' := 38) (j := 0) hC dX2_takeHistory_37 rfl rfl rfl ?_
      refine g_aload_n (pc' := 39) (j := 1) hC dX2_takeHistory_38 rfl rfl rfl ?_
      refine gf_X2_2 (pc' := 42) (b := c) hC (by omega : c < 6) wF_X2_24 dX2_takeHistory_39 rfl ?_
      refine gg_topi (b := nI (rd σ (34 + 7 * b) 6)) ((ur_cell _ _ _ (by omega)).trans ((ur_cell _ _ _ (by omega)).trans (uv_same _ _ _ _))) ?_
      refine n_icmp_gt (pc' := 45) (tgt := 78) hC dX2_takeHistory_42 (by decide) rfl (by omega) (by omega) (fun c42 => ?_) (fun c42 => ?_)
      · skip
        refine g_retv hC dX2_takeHistory_78 ?_
        exact by rw [show i = rd σ (34 + 7 * b) 6 by omega]; rfl
      · skip
        refine g_aload_n (pc' := 46) (j := 2) hC dX2_takeHistory_45 rfl rfl rfl ?_
        refine gf_X1_1 (pc' := 49) (b := b) hC (by omega : b < 8) wF_X2_50 dX2_takeHistory_46 rfl ?_
        refine g_iload_n (pc' := 50) (j := 0) hC dX2_takeHistory_49 rfl rfl rfl ?_
        refine a_ld (pc' := 51) (k := 34 + 7 * b + 2) (i := i + 1) hC (by have := (by omega : b < 8); show _ < 228; omega) (ct_ba g (ur (ur (uv σ (90 + 3 * c) 2 (nI (rd σ (34 + 7 * b) 6))) (90 + 3 * c + 1) (va_cpy (σ.1 (34 + 7 * b + 6)) (σ.1 (90 + 3 * c + 1)) 0 0 (rd σ (34 + 7 * b) 6 + 1))) (90 + 3 * c + 2) (ccn (σ.1 (34 + 7 * b + 2)) (σ.1 (90 + 3 * c + 2)) i)) (by omega : b < 8) (by decide) (by decide)) (by omega) (by decide) dX2_takeHistory_50 rfl ?_
        refine gg_topi (b := σ.1 (34 + 7 * b + 2) (i + 1)) ((ur_cell _ _ _ (by omega)).trans ((ur_cell _ _ _ (by omega)).trans (uv_cell _ _ _ _ (by omega)))) ?_
        refine g_istore_n (pc' := 52) (lv' := [(3, .int (σ.1 (34 + 7 * b + 2) (i + 1))), (2, .int (nI (i + 1))), (0, .ref (g.2.1 (90 + 3 * c))), (1, .ref (g.2.1 (34 + 7 * b)))]) hC dX2_takeHistory_51 rfl rfl (by decide) rfl ?_
        refine g_iload_n (pc' := 53) (j := 0) hC dX2_takeHistory_52 rfl rfl rfl ?_
        refine g_if_lt (pc' := 56) (tgt := 72) hC dX2_takeHistory_53 (by decide) rfl (fun c53 => ?_) (fun c53 => ?_)
        · skip
          refine g_iinc (pc' := 75) (j := 1) (u := nI (i + 1 + 1)) (lv' := [(2, .int (nI (i + 1 + 1))), (3, .int (σ.1 (34 + 7 * b + 2) (i + 1))), (0, .ref (g.2.1 (90 + 3 * c))), (1, .ref (g.2.1 (34 + 7 * b)))]) hC dX2_takeHistory_72 rfl rfl (nI_add (i + 1) 1) (by decide) rfl ?_
          refine g_goto (tgt := 37) hC dX2_takeHistory_75 (by decide) ?_
          refine gg_st (σ' := (ur (ur (uv σ (90 + 3 * c) 2 (nI (rd σ (34 + 7 * b) 6))) (90 + 3 * c + 1) (va_cpy (σ.1 (34 + 7 * b + 6)) (σ.1 (90 + 3 * c + 1)) 0 0 (rd σ (34 + 7 * b) 6 + 1))) (90 + 3 * c + 2) (ccn (σ.1 (34 + 7 * b + 2)) (σ.1 (90 + 3 * c + 2)) ((i + 1))))) (by first | exact ccn_hit _ _ _ _ _ _ hA2 hA1 | exact congrArg (fun f => ur _ _ f) (ccn_miss (σ.1 (34 + 7 * b + 2)) _ i (fun a ha z => by first | exact absurd (z ▸ c53) (nI_pos (by omega)) | exact absurd (z ▸ c59) (nI_ge ha (by decide)))).symm) ?_
          refine gg_lv (lv' := [(2, .int (nI (i + 1 + 1))), (0, .ref (g.2.1 (90 + 3 * c))), (1, .ref (g.2.1 (34 + 7 * b)))]) ?_ [0, 2, 3] rfl
          exact ih37 ((i + 1)) (by omega) (by omega)
        · skip
          refine g_iload_n (pc' := 57) (j := 0) hC dX2_takeHistory_56 rfl rfl rfl ?_
          refine g_bipush (pc' := 59) (v := nI 6) hC dX2_takeHistory_57 rfl rfl ?_
          refine g_icmp_ge (pc' := 62) (tgt := 72) hC dX2_takeHistory_59 (by decide) rfl (fun c59 => ?_) (fun c59 => ?_)
          · skip
            refine g_iinc (pc' := 75) (j := 1) (u := nI (i + 1 + 1)) (lv' := [(2, .int (nI (i + 1 + 1))), (3, .int (σ.1 (34 + 7 * b + 2) (i + 1))), (0, .ref (g.2.1 (90 + 3 * c))), (1, .ref (g.2.1 (34 + 7 * b)))]) hC dX2_takeHistory_72 rfl rfl (nI_add (i + 1) 1) (by decide) rfl ?_
            refine g_goto (tgt := 37) hC dX2_takeHistory_75 (by decide) ?_
            refine gg_st (σ' := (ur (ur (uv σ (90 + 3 * c) 2 (nI (rd σ (34 + 7 * b) 6))) (90 + 3 * c + 1) (va_cpy (σ.1 (34 + 7 * b + 6)) (σ.1 (90 + 3 * c + 1)) 0 0 (rd σ (34 + 7 * b) 6 + 1))) (90 + 3 * c + 2) (ccn (σ.1 (34 + 7 * b + 2)) (σ.1 (90 + 3 * c + 2)) ((i + 1))))) (by first | exact ccn_hit _ _ _ _ _ _ hA2 hA1 | exact congrArg (fun f => ur _ _ f) (ccn_miss (σ.1 (34 + 7 * b + 2)) _ i (fun a ha z => by first | exact absurd (z ▸ c53) (nI_pos (by omega)) | exact absurd (z ▸ c59) (nI_ge ha (by decide)))).symm) ?_
            refine gg_lv (lv' := [(2, .int (nI (i + 1 + 1))), (0, .ref (g.2.1 (90 + 3 * c))), (1, .ref (g.2.1 (34 + 7 * b)))]) ?_ [0, 2, 3] rfl
            exact ih37 ((i + 1)) (by omega) (by omega)
          · skip
            obtain ⟨hA1, hA2⟩ := vl2_n (k := 6) (by decide) (show vl2 (nI 6) (σ.1 (34 + 7 * b + 2) (i + 1)) from ⟨c53, c59⟩)
            refine gg_lve (lv' := [(3, .int (nI (cn (σ.1 (34 + 7 * b + 2) (i + 1))))), (2, .int (nI (i + 1))), (0, .ref (g.2.1 (90 + 3 * c))), (1, .ref (g.2.1 (34 + 7 * b)))]) (by rw [← hA1]) ?_
            refine g_aload_n (pc' := 63) (j := 2) hC dX2_takeHistory_62 rfl rfl rfl ?_
            refine gf_X2_1 (pc' := 66) (b := c) hC (by omega : c < 6) wF_X2_15 dX2_takeHistory_63 rfl ?_
            refine g_iload_n (pc' := 67) (j := 0) hC dX2_takeHistory_66 rfl rfl rfl ?_
            refine g_dup2 (pc' := 68) hC dX2_takeHistory_67 rfl rfl rfl ?_
            refine a_ld (pc' := 69) (k := 90 + 3 * c + 2) (i := cn (σ.1 (34 + 7 * b + 2) (i + 1))) hC (by have := (by omega : c < 6); show _ < 228; omega) (ct_cc g (ur (ur (uv σ (90 + 3 * c) 2 (nI (rd σ (34 + 7 * b) 6))) (90 + 3 * c + 1) (va_cpy (σ.1 (34 + 7 * b + 6)) (σ.1 (90 + 3 * c + 1)) 0 0 (rd σ (34 + 7 * b) 6 + 1))) (90 + 3 * c + 2) (ccn (σ.1 (34 + 7 * b + 2)) (σ.1 (90 + 3 * c + 2)) i)) (by omega : c < 6)) (by omega) (by decide) dX2_takeHistory_68 rfl ?_
            refine g_iconst (pc' := 70) (v := nI 1) hC dX2_takeHistory_69 rfl rfl ?_
            refine g_iadd (pc' := 71) hC dX2_takeHistory_70 rfl ?_
            refine a_st (pc' := 72) (k := 90 + 3 * c + 2) (i := cn (σ.1 (34 + 7 * b + 2) (i + 1))) hC (by have := (by omega : c < 6); show _ < 228; omega) (fun σ9 => (ct_cc g σ9 (by omega : c < 6))) (by omega) (by decide) dX2_takeHistory_71 rfl ?_
            refine g_iinc (pc' := 75) (j := 1) (u := nI (i + 1 + 1)) (lv' := [(2, .int (nI (i + 1 + 1))), (3, .int (nI (cn (σ.1 (34 + 7 * b + 2) (i + 1))))), (0, .ref (g.2.1 (90 + 3 * c))), (1, .ref (g.2.1 (34 + 7 * b)))]) hC dX2_takeHistory_72 rfl rfl (nI_add (i + 1) 1) (by decide) rfl ?_
            refine g_goto (tgt := 37) hC dX2_takeHistory_75 (by decide) ?_
            refine gg_st (σ' := (ur (ur (uv σ (90 + 3 * c) 2 (nI (rd σ (34 + 7 * b) 6))) (90 + 3 * c + 1) (va_cpy (σ.1 (34 + 7 * b + 6)) (σ.1 (90 + 3 * c + 1)) 0 0 (rd σ (34 + 7 * b) 6 + 1))) (90 + 3 * c + 2) (ccn (σ.1 (34 + 7 * b + 2)) (σ.1 (90 + 3 * c + 2)) ((i + 1))))) (by first | exact ccn_hit _ _ _ _ _ _ hA2 hA1 | exact congrArg (fun f => ur _ _ f) (ccn_miss (σ.1 (34 + 7 * b + 2)) _ i (fun a ha z => by first | exact absurd (z ▸ c53) (nI_pos (by omega)) | exact absurd (z ▸ c59) (nI_ge ha (by decide)))).symm) ?_
            refine gg_lv (lv' := [(2, .int (nI (i + 1 + 1))), (0, .ref (g.2.1 (90 + 3 * c))), (1, .ref (g.2.1 (34 + 7 * b)))]) ?_ [0, 2, 3] rfl
            exact ih37 ((i + 1)) (by omega) (by omega)
  refine gg_st (σ' := (ur (ur (uv σ (90 + 3 * c) 2 (nI (rd σ (34 + 7 * b) 6))) (90 + 3 * c + 1) (va_cpy (σ.1 (34 + 7 * b + 6)) (σ.1 (90 + 3 * c + 1)) 0 0 (rd σ (34 + 7 * b) 6 + 1))) (90 + 3 * c + 2) (ccn (σ.1 (34 + 7 * b + 2)) (σ.1 (90 + 3 * c + 2)) 0))) (by simp (disch := omega) only [ur_fn, uv_fn]; rfl) ?_
  refine gg_lv (lv' := [(2, .int (nI 1)), (0, .ref (g.2.1 (90 + 3 * c))), (1, .ref (g.2.1 (34 + 7 * b)))]) ?_ [0, 1, 2] rfl
  exact L37 (rd σ (34 + 7 * b) 6 - 0 + 1) 0 (by omega) (by omega)
set_option maxHeartbeats 4000000 in
set_option maxRecDepth 20000 in
theorem c_hasRowa (l : Launch) (g : Lay) (z0 : Nat) (σ : St) (i : Int32) (hr : nb σ 11 3 60)  : CTi l yX4_hasRow cX4_hasRow 2 (some .boolean) 0 g z0 [.ref (g.2.1 11), .int i] σ (FI (bI (vl2 (nI (rd σ 11 3)) i)) σ) := by
  refine CTi.of (by decide) (Nat.le_of_ble_eq_true rfl) ?_
  intro x hxl hxa hC
  have hC : Cx x RX4 cX4_hasRow 2 (some .boolean) 0 g z0 := hC
  show GG x g z0 2 0 0 (Qi x g z0 (FI (bI (vl2 (nI (rd σ 11 3)) i)) σ)) σ 0 [(0, .ref (g.2.1 11)), (1, .int i)] []
  refine g_iload_n (pc' := 1) (j := 1) hC dX4_hasRow_0 rfl rfl rfl ?_
  refine g_if_lt (pc' := 4) (tgt := 16) hC dX4_hasRow_1 (by decide) rfl (fun c1 => ?_) (fun c1 => ?_)
  · skip
    refine g_iconst (pc' := 17) (v := nI 0) hC dX4_hasRow_16 rfl rfl ?_
    refine g_ret hC dX4_hasRow_17 rfl ?_
    exact ⟨(bI_f (fun z => z.1 c1)).symm, rfl⟩
  · skip
    refine g_iload_n (pc' := 5) (j := 1) hC dX4_hasRow_4 rfl rfl rfl ?_
    refine g_aload_n (pc' := 6) (j := 0) hC dX4_hasRow_5 rfl rfl rfl ?_
    refine gf_X4a_3 (pc' := 9) hC wF_X4_26 dX4_hasRow_6 rfl ?_
    refine gg_topi (b := nI (rd σ 11 3)) (hr.1) ?_
    refine g_icmp_ge (pc' := 12) (tgt := 16) hC dX4_hasRow_9 (by decide) rfl (fun c9 => ?_) (fun c9 => ?_)
    · skip
      refine g_iconst (pc' := 17) (v := nI 0) hC dX4_hasRow_16 rfl rfl ?_
      refine g_ret hC dX4_hasRow_17 rfl ?_
      exact ⟨(bI_f (fun z => z.2 c9)).symm, rfl⟩
    · skip
      refine g_iconst (pc' := 13) (v := nI 1) hC dX4_hasRow_12 rfl rfl ?_
      refine g_goto (tgt := 17) hC dX4_hasRow_13 (by decide) ?_
      refine g_ret hC dX4_hasRow_17 rfl ?_
      exact ⟨(bI_t (⟨c1, c9⟩)).symm, rfl⟩
set_option maxHeartbeats 4000000 in
set_option maxRecDepth 20000 in
theorem c_addRowa (l : Launch) (g : Lay) (z0 : Nat) (σ : St)  (hr : nb σ 11 3 60)  : CTi l yX4_addRow cX4_addRow 1 (some .int) 1 g z0 [.ref (g.2.1 11)] σ (FI (nI (crn σ 11 60)) (cr0 σ 11 60 6)) := by
  refine CTi.of (by decide) (Nat.le_of_ble_eq_true rfl) ?_
  intro x hxl hxa hC
  have hC : Cx x RX4 cX4_addRow 1 (some .int) 1 g z0 := hC
  have hr2 := hr.2
  show GG x g z0 1 0 0 (Qi x g z0 (FI (nI (crn σ 11 60)) (cr0 σ 11 60 6))) σ 0 [(0, .ref (g.2.1 11))] []
  refine g_aload_n (pc' := 1) (j := 0) hC dX4_addRow_0 rfl rfl rfl ?_
  refine gf_X4a_3 (pc' := 4) hC wF_X4_26 dX4_addRow_1 rfl ?_
  refine gg_topi (b := nI (rd σ 11 3)) (hr.1) ?_
  refine g_aload_n (pc' := 5) (j := 0) hC dX4_addRow_4 rfl rfl rfl ?_
  refine gf_X4a_0 (pc' := 8) hC wF_X4_13 dX4_addRow_5 rfl ?_
  refine gg_topi (b := nI 60) rfl ?_
  refine n_icmp_lt (pc' := 11) (tgt := 48) hC dX4_addRow_8 (by decide) rfl (by omega) (by omega) (fun c8 => ?_) (fun c8 => ?_)
  · skip
    refine g_aload_n (pc' := 49) (j := 0) hC dX4_addRow_48 rfl rfl rfl ?_
    refine g_dup (pc' := 50) hC dX4_addRow_49 rfl rfl ?_
    refine gf_X4a_3 (pc' := 53) hC wF_X4_26 dX4_addRow_50 rfl ?_
    refine gg_topi (b := nI (rd σ 11 3)) (hr.1) ?_
    refine g_iconst (pc' := 54) (v := nI 1) hC dX4_addRow_53 rfl rfl ?_
    refine n_iadd (pc' := 55) hC dX4_addRow_54 rfl ?_
    refine pf_X4a_3 (pc' := 58) hC wF_X4_26 dX4_addRow_55 rfl ?_
    refine g_aload_n (pc' := 59) (j := 0) hC dX4_addRow_58 rfl rfl rfl ?_
    refine gf_X4a_3 (pc' := 62) hC wF_X4_26 dX4_addRow_59 rfl ?_
    refine gg_topi (b := nI ((rd σ 11 3) + 1)) (uv_same _ _ _ _) ?_
    refine g_iconst (pc' := 63) (v := nI 1) hC dX4_addRow_62 rfl rfl ?_
    refine n_isub (pc' := 64) hC dX4_addRow_63 rfl (by omega) ?_
    refine g_ret hC dX4_addRow_64 rfl ?_
    exact ⟨by unfold crn; rw [if_neg (by omega)]; exact congrArg nI (by omega), by unfold cr0 crn; rw [if_neg (by omega), if_neg (by omega)]⟩
  · skip
    refine g_aload_n (pc' := 12) (j := 0) hC dX4_addRow_11 rfl rfl rfl ?_
    refine gf_X4a_2 (pc' := 15) hC wF_X4_22 dX4_addRow_12 rfl ?_
    refine g_aload_n (pc' := 16) (j := 0) hC dX4_addRow_15 rfl rfl rfl ?_
    refine gf_X4a_1 (pc' := 19) hC wF_X4_19 dX4_addRow_16 rfl ?_
    refine gg_topi (b := nI 6) rfl ?_
    refine g_aload_n (pc' := 20) (j := 0) hC dX4_addRow_19 rfl rfl rfl ?_
    refine gf_X4a_2 (pc' := 23) hC wF_X4_22 dX4_addRow_20 rfl ?_
    refine g_iconst (pc' := 24) (v := nI 0) hC dX4_addRow_23 rfl rfl ?_
    refine g_aload_n (pc' := 25) (j := 0) hC dX4_addRow_24 rfl rfl rfl ?_
    refine gf_X4a_0 (pc' := 28) hC wF_X4_13 dX4_addRow_25 rfl ?_
    refine gg_topi (b := nI 60) rfl ?_
    refine g_iconst (pc' := 29) (v := nI 1) hC dX4_addRow_28 rfl rfl ?_
    refine g_isub (pc' := 30) hC dX4_addRow_29 rfl ?_
    refine gg_topi (b := nI 59) rfl ?_
    refine g_aload_n (pc' := 31) (j := 0) hC dX4_addRow_30 rfl rfl rfl ?_
    refine gf_X4a_1 (pc' := 34) hC wF_X4_19 dX4_addRow_31 rfl ?_
    refine gg_topi (b := nI 6) rfl ?_
    refine g_imul (pc' := 35) hC dX4_addRow_34 rfl ?_
    refine gg_topi (b := nI 354) rfl ?_
    refine g_copy (pc' := 38) (k0 := 12) (k1 := 12) (st := []) hC wM_X4_29 (by decide) (by decide) (by decide) (ct_12 g σ) (fun σ9 => (ct_12 g σ9)) (by omega) (by omega) (by decide) (by decide) (Nat.le_of_ble_eq_true rfl) dX4_addRow_35 rfl ?_
    refine g_aload_n (pc' := 39) (j := 0) hC dX4_addRow_38 rfl rfl rfl ?_
    refine g_aload_n (pc' := 40) (j := 0) hC dX4_addRow_39 rfl rfl rfl ?_
    refine gf_X4a_0 (pc' := 43) hC wF_X4_13 dX4_addRow_40 rfl ?_
    refine gg_topi (b := nI 60) rfl ?_
    refine g_iconst (pc' := 44) (v := nI 1) hC dX4_addRow_43 rfl rfl ?_
    refine g_isub (pc' := 45) hC dX4_addRow_44 rfl ?_
    refine gg_topi (b := nI 59) rfl ?_
    refine pf_X4a_3 (pc' := 48) hC wF_X4_26 dX4_addRow_45 rfl ?_
    refine g_aload_n (pc' := 49) (j := 0) hC dX4_addRow_48 rfl rfl rfl ?_
    refine g_dup (pc' := 50) hC dX4_addRow_49 rfl rfl ?_
    refine gf_X4a_3 (pc' := 53) hC wF_X4_26 dX4_addRow_50 rfl ?_
    refine gg_topi (b := nI 59) (uv_same _ _ _ _) ?_
    refine g_iconst (pc' := 54) (v := nI 1) hC dX4_addRow_53 rfl rfl ?_
    refine g_iadd (pc' := 55) hC dX4_addRow_54 rfl ?_
    refine gg_topi (b := nI 60) rfl ?_
    refine pf_X4a_3 (pc' := 58) hC wF_X4_26 dX4_addRow_55 rfl ?_
    refine g_aload_n (pc' := 59) (j := 0) hC dX4_addRow_58 rfl rfl rfl ?_
    refine gf_X4a_3 (pc' := 62) hC wF_X4_26 dX4_addRow_59 rfl ?_
    refine gg_topi (b := nI 60) (uv_same _ _ _ _) ?_
    refine g_iconst (pc' := 63) (v := nI 1) hC dX4_addRow_62 rfl rfl ?_
    refine g_isub (pc' := 64) hC dX4_addRow_63 rfl ?_
    refine gg_topi (b := nI 59) rfl ?_
    refine g_ret hC dX4_addRow_64 rfl ?_
    exact ⟨by unfold crn; rw [if_pos (by omega)], by unfold cr0 crn; rw [if_pos (by omega), if_pos (by omega)]; exact uv_uv _ _ _ _ _⟩
set_option maxHeartbeats 4000000 in
set_option maxRecDepth 20000 in
theorem c_partOfa (l : Launch) (g : Lay) (z0 : Nat) (σ : St) (row : Nat) (part : Nat) (hrw : row < 60) (hpt : part < 6)  : CTi l yX4_partOf cX4_partOf 4 (some .int) 0 g z0 [.ref (g.2.1 11), .int (nI row), .int (nI part)] σ (FI (σ.1 12 (row * 6 + part)) σ) := by
  refine CTi.of (by decide) (Nat.le_of_ble_eq_true rfl) ?_
  intro x hxl hxa hC
  have hC : Cx x RX4 cX4_partOf 4 (some .int) 0 g z0 := hC
  show GG x g z0 4 0 0 (Qi x g z0 (FI (σ.1 12 (row * 6 + part)) σ)) σ 0 [(0, .ref (g.2.1 11)), (1, .int (nI row)), (2, .int (nI part))] []
  refine g_iload_n (pc' := 1) (j := 1) hC dX4_partOf_0 rfl rfl rfl ?_
  refine g_aload_n (pc' := 2) (j := 0) hC dX4_partOf_1 rfl rfl rfl ?_
  refine gf_X4a_1 (pc' := 5) hC wF_X4_19 dX4_partOf_2 rfl ?_
  refine gg_topi (b := nI 6) rfl ?_
  refine n_imul (pc' := 6) hC dX4_partOf_5 rfl ?_
  refine g_iload_n (pc' := 7) (j := 2) hC dX4_partOf_6 rfl rfl rfl ?_
  refine n_iadd (pc' := 8) hC dX4_partOf_7 rfl ?_
  refine g_istore_n (pc' := 9) (lv' := [(3, .int (nI ((row * 6) + part))), (0, .ref (g.2.1 11)), (1, .int (nI row)), (2, .int (nI part))]) hC dX4_partOf_8 rfl rfl (by decide) rfl ?_
  refine g_iload_n (pc' := 10) (j := 0) hC dX4_partOf_9 rfl rfl rfl ?_
  refine n_if_lt (pc' := 13) (tgt := 31) hC dX4_partOf_10 (by decide) rfl (by omega) (fun c10 => ?_) (fun c10 => ?_)
  · skip
    exact c10.elim
  · skip
    refine g_iload_n (pc' := 14) (j := 0) hC dX4_partOf_13 rfl rfl rfl ?_
    refine g_aload_n (pc' := 15) (j := 1) hC dX4_partOf_14 rfl rfl rfl ?_
    refine gf_X4a_2 (pc' := 18) hC wF_X4_22 dX4_partOf_15 rfl ?_
    refine g_alen (pc' := 19) (k := 12) (t := 0) (ty := .int) hC (by decide) (ct_12 g σ) rfl dX4_partOf_18 rfl ?_
    refine n_icmp_ge (pc' := 22) (tgt := 31) hC dX4_partOf_19 (by decide) rfl (by omega) (by omega) (fun c19 => ?_) (fun c19 => ?_)
    · skip
      omega
    · skip
      refine g_aload_n (pc' := 23) (j := 1) hC dX4_partOf_22 rfl rfl rfl ?_
      refine gf_X4a_2 (pc' := 26) hC wF_X4_22 dX4_partOf_23 rfl ?_
      refine g_iload_n (pc' := 27) (j := 0) hC dX4_partOf_26 rfl rfl rfl ?_
      refine a_ld (pc' := 28) (k := 12) (i := (row * 6) + part) hC (by decide) (ct_12 g σ) (by omega) (by decide) dX4_partOf_27 rfl ?_
      refine g_goto (tgt := 32) hC dX4_partOf_28 (by decide) ?_
      refine g_ret hC dX4_partOf_32 rfl ?_
      exact ⟨rfl, rfl⟩
set_option maxHeartbeats 4000000 in
set_option maxRecDepth 20000 in
theorem c_setParta (l : Launch) (g : Lay) (z0 : Nat) (σ : St) (row : Nat) (part : Nat) (v : Int32) (hrw : row < 60) (hpt : part < 6)  : CTv l yX4_setPart cX4_setPart 5 0 g z0 [.ref (g.2.1 11), .int (nI row), .int (nI part), .int v] σ (FV (uv σ 12 (row * 6 + part) v)) := by
  refine CTv.of (by decide) (Nat.le_of_ble_eq_true rfl) ?_
  intro x hxl hxa hC
  have hC : Cx x RX4 cX4_setPart 5 none 0 g z0 := hC
  show GG x g z0 5 0 0 (Qv x g z0 (FV (uv σ 12 (row * 6 + part) v))) σ 0 [(0, .ref (g.2.1 11)), (1, .int (nI row)), (2, .int (nI part)), (3, .int v)] []
  refine g_iload_n (pc' := 1) (j := 1) hC dX4_setPart_0 rfl rfl rfl ?_
  refine g_aload_n (pc' := 2) (j := 0) hC dX4_setPart_1 rfl rfl rfl ?_
  refine gf_X4a_1 (pc' := 5) hC wF_X4_19 dX4_setPart_2 rfl ?_
  refine gg_topi (b := nI 6) rfl ?_
  refine n_imul (pc' := 6) hC dX4_setPart_5 rfl ?_
  refine g_iload_n (pc' := 7) (j := 2) hC dX4_setPart_6 rfl rfl rfl ?_
  refine n_iadd (pc' := 8) hC dX4_setPart_7 rfl ?_
  refine g_istore (pc' := 10) (lv' := [(4, .int (nI ((row * 6) + part))), (0, .ref (g.2.1 11)), (1, .int (nI row)), (2, .int (nI part)), (3, .int v)]) hC dX4_setPart_8 rfl (by decide) rfl ?_
  refine g_iload (pc' := 12) (j := 0) hC dX4_setPart_10 rfl rfl ?_
  refine n_if_lt (pc' := 15) (tgt := 33) hC dX4_setPart_12 (by decide) rfl (by omega) (fun c12 => ?_) (fun c12 => ?_)
  · skip
    exact c12.elim
  · skip
    refine g_iload (pc' := 17) (j := 0) hC dX4_setPart_15 rfl rfl ?_
    refine g_aload_n (pc' := 18) (j := 1) hC dX4_setPart_17 rfl rfl rfl ?_
    refine gf_X4a_2 (pc' := 21) hC wF_X4_22 dX4_setPart_18 rfl ?_
    refine g_alen (pc' := 22) (k := 12) (t := 0) (ty := .int) hC (by decide) (ct_12 g σ) rfl dX4_setPart_21 rfl ?_
    refine n_icmp_ge (pc' := 25) (tgt := 33) hC dX4_setPart_22 (by decide) rfl (by omega) (by omega) (fun c22 => ?_) (fun c22 => ?_)
    · skip
      omega
    · skip
      refine g_aload_n (pc' := 26) (j := 1) hC dX4_setPart_25 rfl rfl rfl ?_
      refine gf_X4a_2 (pc' := 29) hC wF_X4_22 dX4_setPart_26 rfl ?_
      refine g_iload (pc' := 31) (j := 0) hC dX4_setPart_29 rfl rfl ?_
      refine g_iload_n (pc' := 32) (j := 4) hC dX4_setPart_31 rfl rfl rfl ?_
      refine a_st (pc' := 33) (k := 12) (i := (row * 6) + part) hC (by decide) (fun σ9 => (ct_12 g σ9)) (by omega) (by decide) dX4_setPart_32 rfl ?_
      refine g_retv hC dX4_setPart_33 ?_
      exact rfl
set_option maxHeartbeats 4000000 in
set_option maxRecDepth 20000 in
theorem c_hasRowb (l : Launch) (g : Lay) (z0 : Nat) (σ : St) (i : Int32) (hr : nb σ 13 3 40)  : CTi l yX4_hasRow cX4_hasRow 2 (some .boolean) 0 g z0 [.ref (g.2.1 13), .int i] σ (FI (bI (vl2 (nI (rd σ 13 3)) i)) σ) := by
  refine CTi.of (by decide) (Nat.le_of_ble_eq_true rfl) ?_
  intro x hxl hxa hC
  have hC : Cx x RX4 cX4_hasRow 2 (some .boolean) 0 g z0 := hC
  show GG x g z0 2 0 0 (Qi x g z0 (FI (bI (vl2 (nI (rd σ 13 3)) i)) σ)) σ 0 [(0, .ref (g.2.1 13)), (1, .int i)] []
  refine g_iload_n (pc' := 1) (j := 1) hC dX4_hasRow_0 rfl rfl rfl ?_
  refine g_if_lt (pc' := 4) (tgt := 16) hC dX4_hasRow_1 (by decide) rfl (fun c1 => ?_) (fun c1 => ?_)
  · skip
    refine g_iconst (pc' := 17) (v := nI 0) hC dX4_hasRow_16 rfl rfl ?_
    refine g_ret hC dX4_hasRow_17 rfl ?_
    exact ⟨(bI_f (fun z => z.1 c1)).symm, rfl⟩
  · skip
    refine g_iload_n (pc' := 5) (j := 1) hC dX4_hasRow_4 rfl rfl rfl ?_
    refine g_aload_n (pc' := 6) (j := 0) hC dX4_hasRow_5 rfl rfl rfl ?_
    refine gf_X4b_3 (pc' := 9) hC wF_X4_26 dX4_hasRow_6 rfl ?_
    refine gg_topi (b := nI (rd σ 13 3)) (hr.1) ?_
    refine g_icmp_ge (pc' := 12) (tgt := 16) hC dX4_hasRow_9 (by decide) rfl (fun c9 => ?_) (fun c9 => ?_)
    · skip
      refine g_iconst (pc' := 17) (v := nI 0) hC dX4_hasRow_16 rfl rfl ?_
      refine g_ret hC dX4_hasRow_17 rfl ?_
      exact ⟨(bI_f (fun z => z.2 c9)).symm, rfl⟩
    · skip
      refine g_iconst (pc' := 13) (v := nI 1) hC dX4_hasRow_12 rfl rfl ?_
      refine g_goto (tgt := 17) hC dX4_hasRow_13 (by decide) ?_
      refine g_ret hC dX4_hasRow_17 rfl ?_
      exact ⟨(bI_t (⟨c1, c9⟩)).symm, rfl⟩
set_option maxHeartbeats 4000000 in
set_option maxRecDepth 20000 in
theorem c_addRowb (l : Launch) (g : Lay) (z0 : Nat) (σ : St)  (hr : nb σ 13 3 40)  : CTi l yX4_addRow cX4_addRow 1 (some .int) 1 g z0 [.ref (g.2.1 13)] σ (FI (nI (crn σ 13 40)) (cr0 σ 13 40 4)) := by
  refine CTi.of (by decide) (Nat.le_of_ble_eq_true rfl) ?_
  intro x hxl hxa hC
  have hC : Cx x RX4 cX4_addRow 1 (some .int) 1 g z0 := hC
  have hr2 := hr.2
  show GG x g z0 1 0 0 (Qi x g z0 (FI (nI (crn σ 13 40)) (cr0 σ 13 40 4))) σ 0 [(0, .ref (g.2.1 13))] []
  refine g_aload_n (pc' := 1) (j := 0) hC dX4_addRow_0 rfl rfl rfl ?_
  refine gf_X4b_3 (pc' := 4) hC wF_X4_26 dX4_addRow_1 rfl ?_
  refine gg_topi (b := nI (rd σ 13 3)) (hr.1) ?_
  refine g_aload_n (pc' := 5) (j := 0) hC dX4_addRow_4 rfl rfl rfl ?_
  refine gf_X4b_0 (pc' := 8) hC wF_X4_13 dX4_addRow_5 rfl ?_
  refine gg_topi (b := nI 40) rfl ?_
  refine n_icmp_lt (pc' := 11) (tgt := 48) hC dX4_addRow_8 (by decide) rfl (by omega) (by omega) (fun c8 => ?_) (fun c8 => ?_)
  · skip
    refine g_aload_n (pc' := 49) (j := 0) hC dX4_addRow_48 rfl rfl rfl ?_
    refine g_dup (pc' := 50) hC dX4_addRow_49 rfl rfl ?_
    refine gf_X4b_3 (pc' := 53) hC wF_X4_26 dX4_addRow_50 rfl ?_
    refine gg_topi (b := nI (rd σ 13 3)) (hr.1) ?_
    refine g_iconst (pc' := 54) (v := nI 1) hC dX4_addRow_53 rfl rfl ?_
    refine n_iadd (pc' := 55) hC dX4_addRow_54 rfl ?_
    refine pf_X4b_3 (pc' := 58) hC wF_X4_26 dX4_addRow_55 rfl ?_
    refine g_aload_n (pc' := 59) (j := 0) hC dX4_addRow_58 rfl rfl rfl ?_
    refine gf_X4b_3 (pc' := 62) hC wF_X4_26 dX4_addRow_59 rfl ?_
    refine gg_topi (b := nI ((rd σ 13 3) + 1)) (uv_same _ _ _ _) ?_
    refine g_iconst (pc' := 63) (v := nI 1) hC dX4_addRow_62 rfl rfl ?_
    refine n_isub (pc' := 64) hC dX4_addRow_63 rfl (by omega) ?_
    refine g_ret hC dX4_addRow_64 rfl ?_
    exact ⟨by unfold crn; rw [if_neg (by omega)]; exact congrArg nI (by omega), by unfold cr0 crn; rw [if_neg (by omega), if_neg (by omega)]⟩
  · skip
    refine g_aload_n (pc' := 12) (j := 0) hC dX4_addRow_11 rfl rfl rfl ?_
    refine gf_X4b_2 (pc' := 15) hC wF_X4_22 dX4_addRow_12 rfl ?_
    refine g_aload_n (pc' := 16) (j := 0) hC dX4_addRow_15 rfl rfl rfl ?_
    refine gf_X4b_1 (pc' := 19) hC wF_X4_19 dX4_addRow_16 rfl ?_
    refine gg_topi (b := nI 4) rfl ?_
    refine g_aload_n (pc' := 20) (j := 0) hC dX4_addRow_19 rfl rfl rfl ?_
    refine gf_X4b_2 (pc' := 23) hC wF_X4_22 dX4_addRow_20 rfl ?_
    refine g_iconst (pc' := 24) (v := nI 0) hC dX4_addRow_23 rfl rfl ?_
    refine g_aload_n (pc' := 25) (j := 0) hC dX4_addRow_24 rfl rfl rfl ?_
    refine gf_X4b_0 (pc' := 28) hC wF_X4_13 dX4_addRow_25 rfl ?_
    refine gg_topi (b := nI 40) rfl ?_
    refine g_iconst (pc' := 29) (v := nI 1) hC dX4_addRow_28 rfl rfl ?_
    refine g_isub (pc' := 30) hC dX4_addRow_29 rfl ?_
    refine gg_topi (b := nI 39) rfl ?_
    refine g_aload_n (pc' := 31) (j := 0) hC dX4_addRow_30 rfl rfl rfl ?_
    refine gf_X4b_1 (pc' := 34) hC wF_X4_19 dX4_addRow_31 rfl ?_
    refine gg_topi (b := nI 4) rfl ?_
    refine g_imul (pc' := 35) hC dX4_addRow_34 rfl ?_
    refine gg_topi (b := nI 156) rfl ?_
    refine g_copy (pc' := 38) (k0 := 14) (k1 := 14) (st := []) hC wM_X4_29 (by decide) (by decide) (by decide) (ct_14 g σ) (fun σ9 => (ct_14 g σ9)) (by omega) (by omega) (by decide) (by decide) (Nat.le_of_ble_eq_true rfl) dX4_addRow_35 rfl ?_
    refine g_aload_n (pc' := 39) (j := 0) hC dX4_addRow_38 rfl rfl rfl ?_
    refine g_aload_n (pc' := 40) (j := 0) hC dX4_addRow_39 rfl rfl rfl ?_
    refine gf_X4b_0 (pc' := 43) hC wF_X4_13 dX4_addRow_40 rfl ?_
    refine gg_topi (b := nI 40) rfl ?_
    refine g_iconst (pc' := 44) (v := nI 1) hC dX4_addRow_43 rfl rfl ?_
    refine g_isub (pc' := 45) hC dX4_addRow_44 rfl ?_
    refine gg_topi (b := nI 39) rfl ?_
    refine pf_X4b_3 (pc' := 48) hC wF_X4_26 dX4_addRow_45 rfl ?_
    refine g_aload_n (pc' := 49) (j := 0) hC dX4_addRow_48 rfl rfl rfl ?_
    refine g_dup (pc' := 50) hC dX4_addRow_49 rfl rfl ?_
    refine gf_X4b_3 (pc' := 53) hC wF_X4_26 dX4_addRow_50 rfl ?_
    refine gg_topi (b := nI 39) (uv_same _ _ _ _) ?_
    refine g_iconst (pc' := 54) (v := nI 1) hC dX4_addRow_53 rfl rfl ?_
    refine g_iadd (pc' := 55) hC dX4_addRow_54 rfl ?_
    refine gg_topi (b := nI 40) rfl ?_
    refine pf_X4b_3 (pc' := 58) hC wF_X4_26 dX4_addRow_55 rfl ?_
    refine g_aload_n (pc' := 59) (j := 0) hC dX4_addRow_58 rfl rfl rfl ?_
    refine gf_X4b_3 (pc' := 62) hC wF_X4_26 dX4_addRow_59 rfl ?_
    refine gg_topi (b := nI 40) (uv_same _ _ _ _) ?_
    refine g_iconst (pc' := 63) (v := nI 1) hC dX4_addRow_62 rfl rfl ?_
    refine g_isub (pc' := 64) hC dX4_addRow_63 rfl ?_
    refine gg_topi (b := nI 39) rfl ?_
    refine g_ret hC dX4_addRow_64 rfl ?_
    exact ⟨by unfold crn; rw [if_pos (by omega)], by unfold cr0 crn; rw [if_pos (by omega), if_pos (by omega)]; exact uv_uv _ _ _ _ _⟩
set_option maxHeartbeats 4000000 in
set_option maxRecDepth 20000 in
theorem c_partOfb (l : Launch) (g : Lay) (z0 : Nat) (σ : St) (row : Nat) (part : Nat) (hrw : row < 40) (hpt : part < 4)  : CTi l yX4_partOf cX4_partOf 4 (some .int) 0 g z0 [.ref (g.2.1 13), .int (nI row), .int (nI part)] σ (FI (σ.1 14 (row * 4 + part)) σ) := by
  refine CTi.of (by decide) (Nat.le_of_ble_eq_true rfl) ?_
  intro x hxl hxa hC
  have hC : Cx x RX4 cX4_partOf 4 (some .int) 0 g z0 := hC
  show GG x g z0 4 0 0 (Qi x g z0 (FI (σ.1 14 (row * 4 + part)) σ)) σ 0 [(0, .ref (g.2.1 13)), (1, .int (nI row)), (2, .int (nI part))] []
  refine g_iload_n (pc' := 1) (j := 1) hC dX4_partOf_0 rfl rfl rfl ?_
  refine g_aload_n (pc' := 2) (j := 0) hC dX4_partOf_1 rfl rfl rfl ?_
  refine gf_X4b_1 (pc' := 5) hC wF_X4_19 dX4_partOf_2 rfl ?_
  refine gg_topi (b := nI 4) rfl ?_
  refine n_imul (pc' := 6) hC dX4_partOf_5 rfl ?_
  refine g_iload_n (pc' := 7) (j := 2) hC dX4_partOf_6 rfl rfl rfl ?_
  refine n_iadd (pc' := 8) hC dX4_partOf_7 rfl ?_
  refine g_istore_n (pc' := 9) (lv' := [(3, .int (nI ((row * 4) + part))), (0, .ref (g.2.1 13)), (1, .int (nI row)), (2, .int (nI part))]) hC dX4_partOf_8 rfl rfl (by decide) rfl ?_
  refine g_iload_n (pc' := 10) (j := 0) hC dX4_partOf_9 rfl rfl rfl ?_
  refine n_if_lt (pc' := 13) (tgt := 31) hC dX4_partOf_10 (by decide) rfl (by omega) (fun c10 => ?_) (fun c10 => ?_)
  · skip
    exact c10.elim
  · skip
    refine g_iload_n (pc' := 14) (j := 0) hC dX4_partOf_13 rfl rfl rfl ?_
    refine g_aload_n (pc' := 15) (j := 1) hC dX4_partOf_14 rfl rfl rfl ?_
    refine gf_X4b_2 (pc' := 18) hC wF_X4_22 dX4_partOf_15 rfl ?_
    refine g_alen (pc' := 19) (k := 14) (t := 0) (ty := .int) hC (by decide) (ct_14 g σ) rfl dX4_partOf_18 rfl ?_
    refine n_icmp_ge (pc' := 22) (tgt := 31) hC dX4_partOf_19 (by decide) rfl (by omega) (by omega) (fun c19 => ?_) (fun c19 => ?_)
    · skip
      omega
    · skip
      refine g_aload_n (pc' := 23) (j := 1) hC dX4_partOf_22 rfl rfl rfl ?_
      refine gf_X4b_2 (pc' := 26) hC wF_X4_22 dX4_partOf_23 rfl ?_
      refine g_iload_n (pc' := 27) (j := 0) hC dX4_partOf_26 rfl rfl rfl ?_
      refine a_ld (pc' := 28) (k := 14) (i := (row * 4) + part) hC (by decide) (ct_14 g σ) (by omega) (by decide) dX4_partOf_27 rfl ?_
      refine g_goto (tgt := 32) hC dX4_partOf_28 (by decide) ?_
      refine g_ret hC dX4_partOf_32 rfl ?_
      exact ⟨rfl, rfl⟩
set_option maxHeartbeats 4000000 in
set_option maxRecDepth 20000 in
theorem c_setPartb (l : Launch) (g : Lay) (z0 : Nat) (σ : St) (row : Nat) (part : Nat) (v : Int32) (hrw : row < 40) (hpt : part < 4)  : CTv l yX4_setPart cX4_setPart 5 0 g z0 [.ref (g.2.1 13), .int (nI row), .int (nI part), .int v] σ (FV (uv σ 14 (row * 4 + part) v)) := by
  refine CTv.of (by decide) (Nat.le_of_ble_eq_true rfl) ?_
  intro x hxl hxa hC
  have hC : Cx x RX4 cX4_setPart 5 none 0 g z0 := hC
  show GG x g z0 5 0 0 (Qv x g z0 (FV (uv σ 14 (row * 4 + part) v))) σ 0 [(0, .ref (g.2.1 13)), (1, .int (nI row)), (2, .int (nI part)), (3, .int v)] []
  refine g_iload_n (pc' := 1) (j := 1) hC dX4_setPart_0 rfl rfl rfl ?_
  refine g_aload_n (pc' := 2) (j := 0) hC dX4_setPart_1 rfl rfl rfl ?_
  refine gf_X4b_1 (pc' := 5) hC wF_X4_19 dX4_setPart_2 rfl ?_
  refine gg_topi (b := nI 4) rfl ?_
  refine n_imul (pc' := 6) hC dX4_setPart_5 rfl ?_
  refine g_iload_n (pc' := 7) (j := 2) hC dX4_setPart_6 rfl rfl rfl ?_
  refine n_iadd (pc' := 8) hC dX4_setPart_7 rfl ?_
  refine g_istore (pc' := 10) (lv' := [(4, .int (nI ((row * 4) + part))), (0, .ref (g.2.1 13)), (1, .int (nI row)), (2, .int (nI part)), (3, .int v)]) hC dX4_setPart_8 rfl (by decide) rfl ?_
  refine g_iload (pc' := 12) (j := 0) hC dX4_setPart_10 rfl rfl ?_
  refine n_if_lt (pc' := 15) (tgt := 33) hC dX4_setPart_12 (by decide) rfl (by omega) (fun c12 => ?_) (fun c12 => ?_)
  · skip
    exact c12.elim
  · skip
    refine g_iload (pc' := 17) (j := 0) hC dX4_setPart_15 rfl rfl ?_
    refine g_aload_n (pc' := 18) (j := 1) hC dX4_setPart_17 rfl rfl rfl ?_
    refine gf_X4b_2 (pc' := 21) hC wF_X4_22 dX4_setPart_18 rfl ?_
    refine g_alen (pc' := 22) (k := 14) (t := 0) (ty := .int) hC (by decide) (ct_14 g σ) rfl dX4_setPart_21 rfl ?_
    refine n_icmp_ge (pc' := 25) (tgt := 33) hC dX4_setPart_22 (by decide) rfl (by omega) (by omega) (fun c22 => ?_) (fun c22 => ?_)
    · skip
      omega
    · skip
      refine g_aload_n (pc' := 26) (j := 1) hC dX4_setPart_25 rfl rfl rfl ?_
      refine gf_X4b_2 (pc' := 29) hC wF_X4_22 dX4_setPart_26 rfl ?_
      refine g_iload (pc' := 31) (j := 0) hC dX4_setPart_29 rfl rfl ?_
      refine g_iload_n (pc' := 32) (j := 4) hC dX4_setPart_31 rfl rfl rfl ?_
      refine a_st (pc' := 33) (k := 14) (i := (row * 4) + part) hC (by decide) (fun σ9 => (ct_14 g σ9)) (by omega) (by decide) dX4_setPart_32 rfl ?_
      refine g_retv hC dX4_setPart_33 ?_
      exact rfl
