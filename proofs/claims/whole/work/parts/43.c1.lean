set_option maxHeartbeats 4000000 in
set_option maxRecDepth 20000 in
theorem c_firstDifference (l : Launch) (g : Lay) (z0 : Nat) (σ : St) (ka : Nat) (kb : Nat) (last : Nat) (A_ka : A2 g ka) (A_kb : A2 g kb) (hl : last ≤ 200)  : CTi l yX9_firstDifference cX9_firstDifference 4 (some .int) 0 g z0 [.ref (g.2.1 ka), .ref (g.2.1 kb), .int (nI last)] σ (FI (nI (fdf (σ.1 ka) (σ.1 kb) last)) σ) := by
  refine CTi.of (by decide) (Nat.le_of_ble_eq_true rfl) ?_
  intro x hxl hxa hC
  have hC : Cx x RX9 cX9_firstDifference 4 (some .int) 0 g z0 := hC
  show GG x g z0 4 0 0 (Qi x g z0 (FI (nI (fdf (σ.1 ka) (σ.1 kb) last)) σ)) σ 0 [(0, .ref (g.2.1 ka)), (1, .ref (g.2.1 kb)), (2, .int (nI last))] []
  refine g_iconst (pc' := 1) (v := nI 0) hC dX9_firstDifference_0 rfl rfl ?_
  refine g_istore_n (pc' := 2) (lv' := [(3, .int (nI 0)), (0, .ref (g.2.1 ka)), (1, .ref (g.2.1 kb)), (2, .int (nI last))]) hC dX9_firstDifference_1 rfl rfl (by decide) rfl ?_
  have L2 : ∀ (fu : Nat) (i : Nat), (i ≤ last + 1) → (∀ j, j < i → σ.1 ka j = σ.1 kb j) → (last + 1 - i) < fu → GG x g z0 4 0 0 (Qi x g z0 (FI (nI (fdf (σ.1 ka) (σ.1 kb) last)) σ)) σ 2 [(3, .int (nI i)), (0, .ref (g.2.1 ka)), (1, .ref (g.2.1 kb)), (2, .int (nI last))] [] := by
    intro fu
    induction fu with
    | zero => intro i hi hj hz; exact absurd hz (Nat.not_lt_zero _)
    | succ fu ih2 =>
      intro i hi hj hf
      have hj0 := hj
      refine g_iload_n (pc' := 3) (j := 0) hC dX9_firstDifference_2 rfl rfl rfl ?_
      refine g_iload_n (pc' := 4) (j := 3) hC dX9_firstDifference_3 rfl rfl rfl ?_
      refine n_icmp_gt (pc' := 7) (tgt := 31) hC dX9_firstDifference_4 (by decide) rfl (by omega) (by omega) (fun c4 => ?_) (fun c4 => ?_)
      · skip
        refine g_iload_n (pc' := 32) (j := 3) hC dX9_firstDifference_31 rfl rfl rfl ?_
        refine g_iconst (pc' := 33) (v := nI 1) hC dX9_firstDifference_32 rfl rfl ?_
        refine n_iadd (pc' := 34) hC dX9_firstDifference_33 rfl ?_
        refine g_ret hC dX9_firstDifference_34 rfl ?_
        exact ⟨congrArg nI ((by omega : last + 1 = i).trans (lst_eq (Or.inl (by omega)) (fun j hj => fun z => z.elim (fun q => by omega) (fun q => q (hj0 j hj)))).symm), rfl⟩
      · skip
        refine g_iload_n (pc' := 8) (j := 0) hC dX9_firstDifference_7 rfl rfl rfl ?_
        refine g_sipush (pc' := 11) (v := nI 200) hC dX9_firstDifference_8 rfl rfl ?_
        refine n_icmp_gt (pc' := 14) (tgt := 31) hC dX9_firstDifference_11 (by decide) rfl (by omega) (by omega) (fun c11 => ?_) (fun c11 => ?_)
        · skip
          omega
        · skip
          refine g_aload_n (pc' := 15) (j := 1) hC dX9_firstDifference_14 rfl rfl rfl ?_
          refine g_iload_n (pc' := 16) (j := 0) hC dX9_firstDifference_15 rfl rfl rfl ?_
          refine a_ld (pc' := 17) (k := ka) (i := i) hC A_ka.1 (A_ka.2 σ) (by omega) (by decide) dX9_firstDifference_16 rfl ?_
          refine g_aload_n (pc' := 18) (j := 2) hC dX9_firstDifference_17 rfl rfl rfl ?_
          refine g_iload_n (pc' := 19) (j := 0) hC dX9_firstDifference_18 rfl rfl rfl ?_
          refine a_ld (pc' := 20) (k := kb) (i := i) hC A_kb.1 (A_kb.2 σ) (by omega) (by decide) dX9_firstDifference_19 rfl ?_
          refine g_icmp_eq (pc' := 23) (tgt := 25) hC dX9_firstDifference_20 (by decide) rfl (fun c20 => ?_) (fun c20 => ?_)
          · skip
            refine g_iinc (pc' := 28) (j := 0) (u := nI (i + 1)) (lv' := [(3, .int (nI (i + 1))), (0, .ref (g.2.1 ka)), (1, .ref (g.2.1 kb)), (2, .int (nI last))]) hC dX9_firstDifference_25 rfl rfl (nI_add i 1) (by decide) rfl ?_
            refine g_goto (tgt := 2) hC dX9_firstDifference_28 (by decide) ?_
            refine gg_lv (lv' := [(3, .int (nI (i + 1))), (0, .ref (g.2.1 ka)), (1, .ref (g.2.1 kb)), (2, .int (nI last))]) ?_ [0, 1, 2, 3] rfl
            exact ih2 ((i + 1)) (by omega) (fun j hj => (Nat.lt_or_eq_of_le (Nat.le_of_lt_succ hj)).elim (hj0 j) (fun e => e ▸ c20)) (by omega)
          · skip
            refine g_iload_n (pc' := 24) (j := 0) hC dX9_firstDifference_23 rfl rfl rfl ?_
            refine g_ret hC dX9_firstDifference_24 rfl ?_
            exact ⟨congrArg nI (lst_eq (Or.inr c20) (fun j hj => fun z => z.elim (fun q => by omega) (fun q => q (hj0 j hj)))).symm, rfl⟩
  refine gg_lv (lv' := [(3, .int (nI 0)), (0, .ref (g.2.1 ka)), (1, .ref (g.2.1 kb)), (2, .int (nI last))]) ?_ [0, 1, 2, 3] rfl
  exact L2 (last + 1 - 0 + 1) 0 (by omega) (fun j hj => absurd hj (Nat.not_lt_zero j)) (by omega)
set_option maxHeartbeats 4000000 in
set_option maxRecDepth 20000 in
theorem c_isFull (l : Launch) (g : Lay) (z0 : Nat) (σ : St) (b : Nat)  (hb : b < 8) (hL : nb σ (34 + 7 * b) 6 200)  : CTi l yX1_isFull cX1_isFull 1 (some .boolean) 0 g z0 [.ref (g.2.1 (34 + 7 * b))] σ (FI (bI (200 ≤ rd σ (34 + 7 * b) 6)) σ) := by
  refine CTi.of (by decide) (Nat.le_of_ble_eq_true rfl) ?_
  intro x hxl hxa hC
  have hC : Cx x RX1 cX1_isFull 1 (some .boolean) 0 g z0 := hC
  have hL2 := hL.2
  show GG x g z0 1 0 0 (Qi x g z0 (FI (bI (200 ≤ rd σ (34 + 7 * b) 6)) σ)) σ 0 [(0, .ref (g.2.1 (34 + 7 * b)))] []
  refine g_aload_n (pc' := 1) (j := 0) hC dX1_isFull_0 rfl rfl rfl ?_
  refine gf_X1_6 (pc' := 4) (b := b) hC (by omega : b < 8) wF_X1_30 dX1_isFull_1 rfl ?_
  refine gg_topi (b := nI (rd σ (34 + 7 * b) 6)) (hL.1) ?_
  refine g_sipush (pc' := 7) (v := nI 200) hC dX1_isFull_4 rfl rfl ?_
  refine n_icmp_lt (pc' := 10) (tgt := 14) hC dX1_isFull_7 (by decide) rfl (by omega) (by omega) (fun c7 => ?_) (fun c7 => ?_)
  · skip
    refine g_iconst (pc' := 15) (v := nI 0) hC dX1_isFull_14 rfl rfl ?_
    refine g_ret hC dX1_isFull_15 rfl ?_
    exact ⟨(bI_f (by omega)).symm, rfl⟩
  · skip
    refine g_iconst (pc' := 11) (v := nI 1) hC dX1_isFull_10 rfl rfl ?_
    refine g_goto (tgt := 15) hC dX1_isFull_11 (by decide) ?_
    refine g_ret hC dX1_isFull_15 rfl ?_
    exact ⟨(bI_t (by omega)).symm, rfl⟩
set_option maxHeartbeats 4000000 in
set_option maxRecDepth 20000 in
theorem c_hasEntry (l : Launch) (g : Lay) (z0 : Nat) (σ : St) (b : Nat) (p : Int32) (hb : b < 8) (hL : nb σ (34 + 7 * b) 6 200)  : CTi l yX1_hasEntry cX1_hasEntry 2 (some .boolean) 0 g z0 [.ref (g.2.1 (34 + 7 * b)), .int p] σ (FI (bI (cen σ b p)) σ) := by
  refine CTi.of (by decide) (Nat.le_of_ble_eq_true rfl) ?_
  intro x hxl hxa hC
  have hC : Cx x RX1 cX1_hasEntry 2 (some .boolean) 0 g z0 := hC
  show GG x g z0 2 0 0 (Qi x g z0 (FI (bI (cen σ b p)) σ)) σ 0 [(0, .ref (g.2.1 (34 + 7 * b))), (1, .int p)] []
  refine g_iload_n (pc' := 1) (j := 1) hC dX1_hasEntry_0 rfl rfl rfl ?_
  refine g_iconst (pc' := 2) (v := nI 1) hC dX1_hasEntry_1 rfl rfl ?_
  refine g_icmp_lt (pc' := 5) (tgt := 17) hC dX1_hasEntry_2 (by decide) rfl (fun c2 => ?_) (fun c2 => ?_)
  · skip
    refine g_iconst (pc' := 18) (v := nI 0) hC dX1_hasEntry_17 rfl rfl ?_
    refine g_ret hC dX1_hasEntry_18 rfl ?_
    exact ⟨(bI_f (fun z => z.1 c2)).symm, rfl⟩
  · skip
    refine g_iload_n (pc' := 6) (j := 1) hC dX1_hasEntry_5 rfl rfl rfl ?_
    refine g_aload_n (pc' := 7) (j := 0) hC dX1_hasEntry_6 rfl rfl rfl ?_
    refine gf_X1_6 (pc' := 10) (b := b) hC (by omega : b < 8) wF_X1_30 dX1_hasEntry_7 rfl ?_
    refine gg_topi (b := nI (rd σ (34 + 7 * b) 6)) (hL.1) ?_
    refine g_icmp_gt (pc' := 13) (tgt := 17) hC dX1_hasEntry_10 (by decide) rfl (fun c10 => ?_) (fun c10 => ?_)
    · skip
      refine g_iconst (pc' := 18) (v := nI 0) hC dX1_hasEntry_17 rfl rfl ?_
      refine g_ret hC dX1_hasEntry_18 rfl ?_
      exact ⟨(bI_f (fun z => z.2 c10)).symm, rfl⟩
    · skip
      refine g_iconst (pc' := 14) (v := nI 1) hC dX1_hasEntry_13 rfl rfl ?_
      refine g_goto (tgt := 18) hC dX1_hasEntry_14 (by decide) ?_
      refine g_ret hC dX1_hasEntry_18 rfl ?_
      exact ⟨(bI_t (⟨c2, c10⟩)).symm, rfl⟩
set_option maxHeartbeats 4000000 in
set_option maxRecDepth 20000 in
theorem c_lastHashB (l : Launch) (g : Lay) (z0 : Nat) (σ : St) (b : Nat)  (hb : b < 8) (hL : nb σ (34 + 7 * b) 6 200)  : CTi l yX1_lastHash cX1_lastHash 1 (some .int) 0 g z0 [.ref (g.2.1 (34 + 7 * b))] σ (FI (σ.1 (34 + 7 * b + 6) (rd σ (34 + 7 * b) 6)) σ) := by
  refine CTi.of (by decide) (Nat.le_of_ble_eq_true rfl) ?_
  intro x hxl hxa hC
  have hC : Cx x RX1 cX1_lastHash 1 (some .int) 0 g z0 := hC
  have hL2 := hL.2
  show GG x g z0 1 0 0 (Qi x g z0 (FI (σ.1 (34 + 7 * b + 6) (rd σ (34 + 7 * b) 6)) σ)) σ 0 [(0, .ref (g.2.1 (34 + 7 * b)))] []
  refine g_aload_n (pc' := 1) (j := 0) hC dX1_lastHash_0 rfl rfl rfl ?_
  refine gf_X1_5 (pc' := 4) (b := b) hC (by omega : b < 8) wF_X1_27 dX1_lastHash_1 rfl ?_
  refine g_aload_n (pc' := 5) (j := 0) hC dX1_lastHash_4 rfl rfl rfl ?_
  refine gf_X1_6 (pc' := 8) (b := b) hC (by omega : b < 8) wF_X1_30 dX1_lastHash_5 rfl ?_
  refine gg_topi (b := nI (rd σ (34 + 7 * b) 6)) (hL.1) ?_
  refine a_ld (pc' := 9) (k := 34 + 7 * b + 6) (i := rd σ (34 + 7 * b) 6) hC (by have := (by omega : b < 8); show _ < 228; omega) (ct_ba g σ (by omega : b < 8) (by decide) (by decide)) (by omega) (by decide) dX1_lastHash_8 rfl ?_
  refine g_ret hC dX1_lastHash_9 rfl ?_
  exact ⟨rfl, rfl⟩
set_option maxHeartbeats 4000000 in
set_option maxRecDepth 20000 in
theorem c_computedHash (l : Launch) (g : Lay) (z0 : Nat) (σ : St) (b : Nat) (n : Nat) (hb : b < 8) (hL : nb σ (34 + 7 * b) 6 200) (h1 : 1 ≤ n) (h2 : n ≤ rd σ (34 + 7 * b) 6)  : CTi l yX1_computedHash cX1_computedHash 4 (some .int) 0 g z0 [.ref (g.2.1 (34 + 7 * b)), .int (nI n)] σ (FI (ccm σ b n) σ) := by
  refine CTi.of (by decide) (Nat.le_of_ble_eq_true rfl) ?_
  intro x hxl hxa hC
  have hC : Cx x RX1 cX1_computedHash 4 (some .int) 0 g z0 := hC
  have hL2 := hL.2
  show GG x g z0 4 0 0 (Qi x g z0 (FI (ccm σ b n) σ)) σ 0 [(0, .ref (g.2.1 (34 + 7 * b))), (1, .int (nI n))] []
  refine g_iload_n (pc' := 1) (j := 1) hC dX1_computedHash_0 rfl rfl rfl ?_
  refine g_iconst (pc' := 2) (v := nI 1) hC dX1_computedHash_1 rfl rfl ?_
  refine n_icmp_lt (pc' := 5) (tgt := 13) hC dX1_computedHash_2 (by decide) rfl (by omega) (by omega) (fun c2 => ?_) (fun c2 => ?_)
  · skip
    omega
  · skip
    refine g_iload_n (pc' := 6) (j := 1) hC dX1_computedHash_5 rfl rfl rfl ?_
    refine g_aload_n (pc' := 7) (j := 0) hC dX1_computedHash_6 rfl rfl rfl ?_
    refine gf_X1_6 (pc' := 10) (b := b) hC (by omega : b < 8) wF_X1_30 dX1_computedHash_7 rfl ?_
    refine gg_topi (b := nI (rd σ (34 + 7 * b) 6)) (hL.1) ?_
    refine n_icmp_le (pc' := 13) (tgt := 15) hC dX1_computedHash_10 (by decide) rfl (by omega) (by omega) (fun c10 => ?_) (fun c10 => ?_)
    · skip
      refine g_aload_n (pc' := 16) (j := 0) hC dX1_computedHash_15 rfl rfl rfl ?_
      refine gf_X1_5 (pc' := 19) (b := b) hC (by omega : b < 8) wF_X1_27 dX1_computedHash_16 rfl ?_
      refine g_iload_n (pc' := 20) (j := 1) hC dX1_computedHash_19 rfl rfl rfl ?_
      refine g_iconst (pc' := 21) (v := nI 1) hC dX1_computedHash_20 rfl rfl ?_
      refine n_isub (pc' := 22) hC dX1_computedHash_21 rfl (by omega) ?_
      refine a_ld (pc' := 23) (k := 34 + 7 * b + 6) (i := n - 1) hC (by have := (by omega : b < 8); show _ < 228; omega) (ct_ba g σ (by omega : b < 8) (by decide) (by decide)) (by omega) (by decide) dX1_computedHash_22 rfl ?_
      refine g_i2l (pc' := 24) hC dX1_computedHash_23 rfl ?_
      refine g_ldc2 (pc' := 27) (v := 1000003) hC wC_X1_52 dX1_computedHash_24 rfl ?_
      refine g_lmul (pc' := 28) hC dX1_computedHash_27 rfl ?_
      refine g_iload_n (pc' := 29) (j := 1) hC dX1_computedHash_28 rfl rfl rfl ?_
      refine g_i2l (pc' := 30) hC dX1_computedHash_29 rfl ?_
      refine g_ladd (pc' := 31) hC dX1_computedHash_30 rfl ?_
      refine g_lstore_n (pc' := 32) (lv' := [(2, .long ((((σ.1 (34 + 7 * b + 6) (n - 1)).toInt64) * 1000003) + ((nI n).toInt64))), (0, .ref (g.2.1 (34 + 7 * b))), (1, .int (nI n))]) hC dX1_computedHash_31 rfl rfl (by decide) rfl ?_
      refine g_aload_n (pc' := 33) (j := 1) hC dX1_computedHash_32 rfl rfl rfl ?_
      refine gf_X1_0 (pc' := 36) (b := b) hC (by omega : b < 8) wF_X1_9 dX1_computedHash_33 rfl ?_
      refine g_iload_n (pc' := 37) (j := 2) hC dX1_computedHash_36 rfl rfl rfl ?_
      refine a_ld (pc' := 38) (k := 34 + 7 * b + 1) (i := n) hC (by have := (by omega : b < 8); show _ < 228; omega) (ct_ba g σ (by omega : b < 8) (by decide) (by decide)) (by omega) (by decide) dX1_computedHash_37 rfl ?_
      refine g_iconst (pc' := 39) (v := nI 2) hC dX1_computedHash_38 rfl rfl ?_
      refine g_icmp_ne (pc' := 42) (tgt := 59) hC dX1_computedHash_39 (by decide) rfl (fun c39 => ?_) (fun c39 => ?_)
      · skip
        refine g_lload_n (pc' := 60) (j := 0) hC dX1_computedHash_59 rfl rfl rfl ?_
        refine g_aload_n (pc' := 61) (j := 1) hC dX1_computedHash_60 rfl rfl rfl ?_
        refine gf_X1_1 (pc' := 64) (b := b) hC (by omega : b < 8) wF_X1_15 dX1_computedHash_61 rfl ?_
        refine g_iload_n (pc' := 65) (j := 2) hC dX1_computedHash_64 rfl rfl rfl ?_
        refine a_ld (pc' := 66) (k := 34 + 7 * b + 2) (i := n) hC (by have := (by omega : b < 8); show _ < 228; omega) (ct_ba g σ (by omega : b < 8) (by decide) (by decide)) (by omega) (by decide) dX1_computedHash_65 rfl ?_
        refine g_i2l (pc' := 67) hC dX1_computedHash_66 rfl ?_
        refine g_ldc2 (pc' := 70) (v := 7919) hC wC_X1_56 dX1_computedHash_67 rfl ?_
        refine g_lmul (pc' := 71) hC dX1_computedHash_70 rfl ?_
        refine g_aload_n (pc' := 72) (j := 1) hC dX1_computedHash_71 rfl rfl rfl ?_
        refine gf_X1_2 (pc' := 75) (b := b) hC (by omega : b < 8) wF_X1_18 dX1_computedHash_72 rfl ?_
        refine g_iload_n (pc' := 76) (j := 2) hC dX1_computedHash_75 rfl rfl rfl ?_
        refine a_ld (pc' := 77) (k := 34 + 7 * b + 3) (i := n) hC (by have := (by omega : b < 8); show _ < 228; omega) (ct_ba g σ (by omega : b < 8) (by decide) (by decide)) (by omega) (by decide) dX1_computedHash_76 rfl ?_
        refine g_i2l (pc' := 78) hC dX1_computedHash_77 rfl ?_
        refine g_ldc2 (pc' := 81) (v := 104729) hC wC_X1_58 dX1_computedHash_78 rfl ?_
        refine g_lmul (pc' := 82) hC dX1_computedHash_81 rfl ?_
        refine g_ladd (pc' := 83) hC dX1_computedHash_82 rfl ?_
        refine g_ladd (pc' := 84) hC dX1_computedHash_83 rfl ?_
        refine g_lstore_n (pc' := 85) (lv' := [(2, .long (((((σ.1 (34 + 7 * b + 6) (n - 1)).toInt64) * 1000003) + ((nI n).toInt64)) + ((((σ.1 (34 + 7 * b + 2) n).toInt64) * 7919) + (((σ.1 (34 + 7 * b + 3) n).toInt64) * 104729)))), (0, .ref (g.2.1 (34 + 7 * b))), (1, .int (nI n))]) hC dX1_computedHash_84 rfl rfl (by decide) rfl ?_
        refine g_aload_n (pc' := 86) (j := 1) hC dX1_computedHash_85 rfl rfl rfl ?_
        refine gf_X1_0 (pc' := 89) (b := b) hC (by omega : b < 8) wF_X1_9 dX1_computedHash_86 rfl ?_
        refine g_iload_n (pc' := 90) (j := 2) hC dX1_computedHash_89 rfl rfl rfl ?_
        refine a_ld (pc' := 91) (k := 34 + 7 * b + 1) (i := n) hC (by have := (by omega : b < 8); show _ < 228; omega) (ct_ba g σ (by omega : b < 8) (by decide) (by decide)) (by omega) (by decide) dX1_computedHash_90 rfl ?_
        refine g_iconst (pc' := 92) (v := nI 1) hC dX1_computedHash_91 rfl rfl ?_
        refine g_icmp_ne (pc' := 95) (tgt := 111) hC dX1_computedHash_92 (by decide) rfl (fun c92 => ?_) (fun c92 => ?_)
        · skip
          refine g_lload_n (pc' := 112) (j := 0) hC dX1_computedHash_111 rfl rfl rfl ?_
          refine g_ldc2 (pc' := 115) (v := 2147483647) hC wC_X1_62 dX1_computedHash_112 rfl ?_
          refine g_lrem (pc' := 116) hC dX1_computedHash_115 rfl (by decide) ?_
          refine g_l2i (pc' := 117) hC dX1_computedHash_116 rfl ?_
          refine g_ret hC dX1_computedHash_117 rfl ?_
          exact ⟨by unfold ccm hq2 rs; rw [if_neg c39, if_neg c92], rfl⟩
        · skip
          refine g_lload_n (pc' := 96) (j := 0) hC dX1_computedHash_95 rfl rfl rfl ?_
          refine g_aload_n (pc' := 97) (j := 1) hC dX1_computedHash_96 rfl rfl rfl ?_
          refine gf_X1_3 (pc' := 100) (b := b) hC (by omega : b < 8) wF_X1_21 dX1_computedHash_97 rfl ?_
          refine g_iload_n (pc' := 101) (j := 2) hC dX1_computedHash_100 rfl rfl rfl ?_
          refine a_ld (pc' := 102) (k := 34 + 7 * b + 4) (i := n) hC (by have := (by omega : b < 8); show _ < 228; omega) (ct_ba g σ (by omega : b < 8) (by decide) (by decide)) (by omega) (by decide) dX1_computedHash_101 rfl ?_
          refine g_iconst (pc' := 103) (v := nI 1) hC dX1_computedHash_102 rfl rfl ?_
          refine g_iadd (pc' := 104) hC dX1_computedHash_103 rfl ?_
          refine g_i2l (pc' := 105) hC dX1_computedHash_104 rfl ?_
          refine g_ldc2 (pc' := 108) (v := 15485863) hC wC_X1_60 dX1_computedHash_105 rfl ?_
          refine g_lmul (pc' := 109) hC dX1_computedHash_108 rfl ?_
          refine g_ladd (pc' := 110) hC dX1_computedHash_109 rfl ?_
          refine g_lstore_n (pc' := 111) (lv' := [(2, .long ((((((σ.1 (34 + 7 * b + 6) (n - 1)).toInt64) * 1000003) + ((nI n).toInt64)) + ((((σ.1 (34 + 7 * b + 2) n).toInt64) * 7919) + (((σ.1 (34 + 7 * b + 3) n).toInt64) * 104729))) + ((((σ.1 (34 + 7 * b + 4) n) + (nI 1)).toInt64) * 15485863))), (0, .ref (g.2.1 (34 + 7 * b))), (1, .int (nI n))]) hC dX1_computedHash_110 rfl rfl (by decide) rfl ?_
          refine g_lload_n (pc' := 112) (j := 0) hC dX1_computedHash_111 rfl rfl rfl ?_
          refine g_ldc2 (pc' := 115) (v := 2147483647) hC wC_X1_62 dX1_computedHash_112 rfl ?_
          refine g_lrem (pc' := 116) hC dX1_computedHash_115 rfl (by decide) ?_
          refine g_l2i (pc' := 117) hC dX1_computedHash_116 rfl ?_
          refine g_ret hC dX1_computedHash_117 rfl ?_
          exact ⟨by unfold ccm hq2 rs; rw [if_neg c39, if_pos c92], rfl⟩
      · skip
        refine g_lload_n (pc' := 43) (j := 0) hC dX1_computedHash_42 rfl rfl rfl ?_
        refine g_aload_n (pc' := 44) (j := 1) hC dX1_computedHash_43 rfl rfl rfl ?_
        refine gf_X1_4 (pc' := 47) (b := b) hC (by omega : b < 8) wF_X1_24 dX1_computedHash_44 rfl ?_
        refine g_iload_n (pc' := 48) (j := 2) hC dX1_computedHash_47 rfl rfl rfl ?_
        refine a_ld (pc' := 49) (k := 34 + 7 * b + 5) (i := n) hC (by have := (by omega : b < 8); show _ < 228; omega) (ct_ba g σ (by omega : b < 8) (by decide) (by decide)) (by omega) (by decide) dX1_computedHash_48 rfl ?_
        refine g_i2l (pc' := 50) hC dX1_computedHash_49 rfl ?_
        refine g_ldc2 (pc' := 53) (v := 1299709) hC wC_X1_54 dX1_computedHash_50 rfl ?_
        refine g_lmul (pc' := 54) hC dX1_computedHash_53 rfl ?_
        refine g_ladd (pc' := 55) hC dX1_computedHash_54 rfl ?_
        refine g_lstore_n (pc' := 56) (lv' := [(2, .long (((((σ.1 (34 + 7 * b + 6) (n - 1)).toInt64) * 1000003) + ((nI n).toInt64)) + (((σ.1 (34 + 7 * b + 5) n).toInt64) * 1299709))), (0, .ref (g.2.1 (34 + 7 * b))), (1, .int (nI n))]) hC dX1_computedHash_55 rfl rfl (by decide) rfl ?_
        refine g_goto (tgt := 85) hC dX1_computedHash_56 (by decide) ?_
        refine g_aload_n (pc' := 86) (j := 1) hC dX1_computedHash_85 rfl rfl rfl ?_
        refine gf_X1_0 (pc' := 89) (b := b) hC (by omega : b < 8) wF_X1_9 dX1_computedHash_86 rfl ?_
        refine g_iload_n (pc' := 90) (j := 2) hC dX1_computedHash_89 rfl rfl rfl ?_
        refine a_ld (pc' := 91) (k := 34 + 7 * b + 1) (i := n) hC (by have := (by omega : b < 8); show _ < 228; omega) (ct_ba g σ (by omega : b < 8) (by decide) (by decide)) (by omega) (by decide) dX1_computedHash_90 rfl ?_
        refine g_iconst (pc' := 92) (v := nI 1) hC dX1_computedHash_91 rfl rfl ?_
        refine g_icmp_ne (pc' := 95) (tgt := 111) hC dX1_computedHash_92 (by decide) rfl (fun c92 => ?_) (fun c92 => ?_)
        · skip
          refine g_lload_n (pc' := 112) (j := 0) hC dX1_computedHash_111 rfl rfl rfl ?_
          refine g_ldc2 (pc' := 115) (v := 2147483647) hC wC_X1_62 dX1_computedHash_112 rfl ?_
          refine g_lrem (pc' := 116) hC dX1_computedHash_115 rfl (by decide) ?_
          refine g_l2i (pc' := 117) hC dX1_computedHash_116 rfl ?_
          refine g_ret hC dX1_computedHash_117 rfl ?_
          exact ⟨by unfold ccm hq2 rs; rw [if_pos c39], rfl⟩
        · skip
          exact absurd (c39.symm.trans c92) (by decide)
    · skip
      omega
set_option maxHeartbeats 4000000 in
set_option maxRecDepth 20000 in
theorem c_append (l : Launch) (g : Lay) (z0 : Nat) (σ : St) (b : Nat) (kd : Int32) (au : Int32) (bl : Int32) (va : Int32) (li : Int32) (hb : b < 8) (hL : nb σ (34 + 7 * b) 6 200) (hF : rd σ (34 + 7 * b) 6 < 200)  : CTv l yX1_append cX1_append 6 1 g z0 [.ref (g.2.1 (34 + 7 * b)), .int kd, .int au, .int bl, .int va, .int li] σ (FV (cap σ b kd au bl va li)) := by
  refine CTv.of (by decide) (Nat.le_of_ble_eq_true rfl) ?_
  intro x hxl hxa hC
  have hC : Cx x RX1 cX1_append 6 none 1 g z0 := hC
  have hL2 := hL.2
  have hL9 := cap6_size σ b kd au bl va li hF
  have hL92 := hL9.2
  show GG x g z0 6 0 0 (Qv x g z0 (FV (cap σ b kd au bl va li))) σ 0 [(0, .ref (g.2.1 (34 + 7 * b))), (1, .int kd), (2, .int au), (3, .int bl), (4, .int va), (5, .int li)] []
  refine g_aload_n (pc' := 1) (j := 0) hC dX1_append_0 rfl rfl rfl ?_
  refine f_Vi (pc' := 4) (k := 34 + 7 * b) (st := []) hC (c_isFull x.2.1 g z0 σ b (by omega) (by first | exact hL | (simp (disch := decide) only [nb, rd_uv, rd_ur, uv_cell, ur_cell]; exact hL) | omega)) k_X1_isFull wM_X1_40 (by decide) (by have := (by omega : b < 8); show _ < 228; omega) (ct_br g σ (by omega : b < 8)) rfl rfl rfl rfl (Nat.le_of_ble_eq_true rfl) dX1_append_1 rfl (Nat.zero_le _) (Nat.zero_le _) ?_
  refine b_if_eq (pc' := 7) (tgt := 8) hC dX1_append_4 (by decide) rfl (fun c4 => ?_) (fun c4 => ?_)
  · skip
    refine g_aload_n (pc' := 9) (j := 0) hC dX1_append_8 rfl rfl rfl ?_
    refine g_dup (pc' := 10) hC dX1_append_9 rfl rfl ?_
    refine gf_X1_6 (pc' := 13) (b := b) hC (by omega : b < 8) wF_X1_30 dX1_append_10 rfl ?_
    refine gg_topi (b := nI (rd σ (34 + 7 * b) 6)) (hL.1) ?_
    refine g_iconst (pc' := 14) (v := nI 1) hC dX1_append_13 rfl rfl ?_
    refine n_iadd (pc' := 15) hC dX1_append_14 rfl ?_
    refine pf_X1_6 (pc' := 18) (b := b) hC (by omega : b < 8) wF_X1_30 dX1_append_15 rfl ?_
    refine g_aload_n (pc' := 19) (j := 0) hC dX1_append_18 rfl rfl rfl ?_
    refine gf_X1_0 (pc' := 22) (b := b) hC (by omega : b < 8) wF_X1_9 dX1_append_19 rfl ?_
    refine g_aload_n (pc' := 23) (j := 0) hC dX1_append_22 rfl rfl rfl ?_
    refine gf_X1_6 (pc' := 26) (b := b) hC (by omega : b < 8) wF_X1_30 dX1_append_23 rfl ?_
    refine gg_topi (b := nI ((rd σ (34 + 7 * b) 6) + 1)) (uv_same _ _ _ _) ?_
    refine g_iload_n (pc' := 27) (j := 1) hC dX1_append_26 rfl rfl rfl ?_
    refine a_st (pc' := 28) (k := 34 + 7 * b + 1) (i := (rd σ (34 + 7 * b) 6) + 1) hC (by have := (by omega : b < 8); show _ < 228; omega) (fun σ9 => (ct_ba g σ9 (by omega : b < 8) (by decide) (by decide))) (by omega) (by decide) dX1_append_27 rfl ?_
    refine g_aload_n (pc' := 29) (j := 0) hC dX1_append_28 rfl rfl rfl ?_
    refine gf_X1_1 (pc' := 32) (b := b) hC (by omega : b < 8) wF_X1_15 dX1_append_29 rfl ?_
    refine g_aload_n (pc' := 33) (j := 0) hC dX1_append_32 rfl rfl rfl ?_
    refine gf_X1_6 (pc' := 36) (b := b) hC (by omega : b < 8) wF_X1_30 dX1_append_33 rfl ?_
    refine gg_topi (b := nI ((rd σ (34 + 7 * b) 6) + 1)) ((uv_cell _ _ _ _ (by omega)).trans (uv_same _ _ _ _)) ?_
    refine g_iload_n (pc' := 37) (j := 2) hC dX1_append_36 rfl rfl rfl ?_
    refine a_st (pc' := 38) (k := 34 + 7 * b + 2) (i := (rd σ (34 + 7 * b) 6) + 1) hC (by have := (by omega : b < 8); show _ < 228; omega) (fun σ9 => (ct_ba g σ9 (by omega : b < 8) (by decide) (by decide))) (by omega) (by decide) dX1_append_37 rfl ?_
    refine g_aload_n (pc' := 39) (j := 0) hC dX1_append_38 rfl rfl rfl ?_
    refine gf_X1_2 (pc' := 42) (b := b) hC (by omega : b < 8) wF_X1_18 dX1_append_39 rfl ?_
    refine g_aload_n (pc' := 43) (j := 0) hC dX1_append_42 rfl rfl rfl ?_
    refine gf_X1_6 (pc' := 46) (b := b) hC (by omega : b < 8) wF_X1_30 dX1_append_43 rfl ?_
    refine gg_topi (b := nI ((rd σ (34 + 7 * b) 6) + 1)) ((uv_cell _ _ _ _ (by omega)).trans ((uv_cell _ _ _ _ (by omega)).trans (uv_same _ _ _ _))) ?_
    refine g_iload_n (pc' := 47) (j := 3) hC dX1_append_46 rfl rfl rfl ?_
    refine a_st (pc' := 48) (k := 34 + 7 * b + 3) (i := (rd σ (34 + 7 * b) 6) + 1) hC (by have := (by omega : b < 8); show _ < 228; omega) (fun σ9 => (ct_ba g σ9 (by omega : b < 8) (by decide) (by decide))) (by omega) (by decide) dX1_append_47 rfl ?_
    refine g_aload_n (pc' := 49) (j := 0) hC dX1_append_48 rfl rfl rfl ?_
    refine gf_X1_3 (pc' := 52) (b := b) hC (by omega : b < 8) wF_X1_21 dX1_append_49 rfl ?_
    refine g_aload_n (pc' := 53) (j := 0) hC dX1_append_52 rfl rfl rfl ?_
    refine gf_X1_6 (pc' := 56) (b := b) hC (by omega : b < 8) wF_X1_30 dX1_append_53 rfl ?_
    refine gg_topi (b := nI ((rd σ (34 + 7 * b) 6) + 1)) ((uv_cell _ _ _ _ (by omega)).trans ((uv_cell _ _ _ _ (by omega)).trans ((uv_cell _ _ _ _ (by omega)).trans (uv_same _ _ _ _)))) ?_
    refine g_iload (pc' := 58) (j := 4) hC dX1_append_56 rfl rfl ?_
    refine a_st (pc' := 59) (k := 34 + 7 * b + 4) (i := (rd σ (34 + 7 * b) 6) + 1) hC (by have := (by omega : b < 8); show _ < 228; omega) (fun σ9 => (ct_ba g σ9 (by omega : b < 8) (by decide) (by decide))) (by omega) (by decide) dX1_append_58 rfl ?_
    refine g_aload_n (pc' := 60) (j := 0) hC dX1_append_59 rfl rfl rfl ?_
    refine gf_X1_4 (pc' := 63) (b := b) hC (by omega : b < 8) wF_X1_24 dX1_append_60 rfl ?_
    refine g_aload_n (pc' := 64) (j := 0) hC dX1_append_63 rfl rfl rfl ?_
    refine gf_X1_6 (pc' := 67) (b := b) hC (by omega : b < 8) wF_X1_30 dX1_append_64 rfl ?_
    refine gg_topi (b := nI ((rd σ (34 + 7 * b) 6) + 1)) ((uv_cell _ _ _ _ (by omega)).trans ((uv_cell _ _ _ _ (by omega)).trans ((uv_cell _ _ _ _ (by omega)).trans ((uv_cell _ _ _ _ (by omega)).trans (uv_same _ _ _ _))))) ?_
    refine g_iload (pc' := 69) (j := 5) hC dX1_append_67 rfl rfl ?_
    refine a_st (pc' := 70) (k := 34 + 7 * b + 5) (i := (rd σ (34 + 7 * b) 6) + 1) hC (by have := (by omega : b < 8); show _ < 228; omega) (fun σ9 => (ct_ba g σ9 (by omega : b < 8) (by decide) (by decide))) (by omega) (by decide) dX1_append_69 rfl ?_
    refine g_aload_n (pc' := 71) (j := 0) hC dX1_append_70 rfl rfl rfl ?_
    refine gf_X1_5 (pc' := 74) (b := b) hC (by omega : b < 8) wF_X1_27 dX1_append_71 rfl ?_
    refine g_aload_n (pc' := 75) (j := 0) hC dX1_append_74 rfl rfl rfl ?_
    refine gf_X1_6 (pc' := 78) (b := b) hC (by omega : b < 8) wF_X1_30 dX1_append_75 rfl ?_
    refine gg_topi (b := nI ((rd σ (34 + 7 * b) 6) + 1)) ((uv_cell _ _ _ _ (by omega)).trans ((uv_cell _ _ _ _ (by omega)).trans ((uv_cell _ _ _ _ (by omega)).trans ((uv_cell _ _ _ _ (by omega)).trans ((uv_cell _ _ _ _ (by omega)).trans (uv_same _ _ _ _)))))) ?_
    refine g_aload_n (pc' := 79) (j := 0) hC dX1_append_78 rfl rfl rfl ?_
    refine g_aload_n (pc' := 80) (j := 0) hC dX1_append_79 rfl rfl rfl ?_
    refine gf_X1_6 (pc' := 83) (b := b) hC (by omega : b < 8) wF_X1_30 dX1_append_80 rfl ?_
    refine gg_topi (b := nI ((rd σ (34 + 7 * b) 6) + 1)) ((uv_cell _ _ _ _ (by omega)).trans ((uv_cell _ _ _ _ (by omega)).trans ((uv_cell _ _ _ _ (by omega)).trans ((uv_cell _ _ _ _ (by omega)).trans ((uv_cell _ _ _ _ (by omega)).trans (uv_same _ _ _ _)))))) ?_
    refine f_Vi (pc' := 86) (k := 34 + 7 * b) (st := [.int (nI ((rd σ (34 + 7 * b) 6) + 1)), .ref (g.2.1 (34 + 7 * b + 6))]) hC (c_computedHash x.2.1 g z0 (uv (uv (uv (uv (uv (uv σ (34 + 7 * b) 6 (nI ((rd σ (34 + 7 * b) 6) + 1))) (34 + 7 * b + 1) ((rd σ (34 + 7 * b) 6) + 1) kd) (34 + 7 * b + 2) ((rd σ (34 + 7 * b) 6) + 1) au) (34 + 7 * b + 3) ((rd σ (34 + 7 * b) 6) + 1) bl) (34 + 7 * b + 4) ((rd σ (34 + 7 * b) 6) + 1) va) (34 + 7 * b + 5) ((rd σ (34 + 7 * b) 6) + 1) li) b (((rd σ (34 + 7 * b) 6) + 1)) (by omega) (hL9.1) (by omega) (Nat.le_of_eq hL92.symm)) k_X1_computedHash wM_X1_44 (by decide) (by have := (by omega : b < 8); show _ < 228; omega) (ct_br g (uv (uv (uv (uv (uv (uv σ (34 + 7 * b) 6 (nI ((rd σ (34 + 7 * b) 6) + 1))) (34 + 7 * b + 1) ((rd σ (34 + 7 * b) 6) + 1) kd) (34 + 7 * b + 2) ((rd σ (34 + 7 * b) 6) + 1) au) (34 + 7 * b + 3) ((rd σ (34 + 7 * b) 6) + 1) bl) (34 + 7 * b + 4) ((rd σ (34 + 7 * b) 6) + 1) va) (34 + 7 * b + 5) ((rd σ (34 + 7 * b) 6) + 1) li) (by omega : b < 8)) rfl rfl rfl rfl (Nat.le_of_ble_eq_true rfl) dX1_append_83 rfl (Nat.zero_le _) (Nat.zero_le _) ?_
    refine a_st (pc' := 87) (k := 34 + 7 * b + 6) (i := (rd σ (34 + 7 * b) 6) + 1) hC (by have := (by omega : b < 8); show _ < 228; omega) (fun σ9 => (ct_ba g σ9 (by omega : b < 8) (by decide) (by decide))) (by omega) (by decide) dX1_append_86 rfl ?_
    refine g_retv hC dX1_append_87 ?_
    exact rfl
  · skip
    omega
set_option maxHeartbeats 4000000 in
set_option maxRecDepth 20000 in
theorem c_appendMerge (l : Launch) (g : Lay) (z0 : Nat) (σ : St) (b : Nat) (li : Int32) (hb : b < 8) (hL : nb σ (34 + 7 * b) 6 200) (hF : rd σ (34 + 7 * b) 6 < 200)  : CTv l yX1_appendMerge cX1_appendMerge 2 2 g z0 [.ref (g.2.1 (34 + 7 * b)), .int li] σ (FV (cap σ b (nI 2) (-1) (-1) (nI 0) li)) := by
  refine CTv.of (by decide) (Nat.le_of_ble_eq_true rfl) ?_
  intro x hxl hxa hC
  have hC : Cx x RX1 cX1_appendMerge 2 none 2 g z0 := hC
  show GG x g z0 2 0 0 (Qv x g z0 (FV (cap σ b (nI 2) (-1) (-1) (nI 0) li))) σ 0 [(0, .ref (g.2.1 (34 + 7 * b))), (1, .int li)] []
  refine g_aload_n (pc' := 1) (j := 0) hC dX1_appendMerge_0 rfl rfl rfl ?_
  refine g_iconst (pc' := 2) (v := nI 2) hC dX1_appendMerge_1 rfl rfl ?_
  refine g_iconst (pc' := 3) (v := (-1)) hC dX1_appendMerge_2 rfl rfl ?_
  refine g_iconst (pc' := 4) (v := (-1)) hC dX1_appendMerge_3 rfl rfl ?_
  refine g_iconst (pc' := 5) (v := nI 0) hC dX1_appendMerge_4 rfl rfl ?_
  refine g_iload_n (pc' := 6) (j := 1) hC dX1_appendMerge_5 rfl rfl rfl ?_
  refine f_Vv (pc' := 9) (k := 34 + 7 * b) (st := []) hC (c_append x.2.1 g z0 σ b ((nI 2)) (((-1))) (((-1))) ((nI 0)) li (by omega) (by first | exact hL | (simp (disch := decide) only [nb, rd_uv, rd_ur, uv_cell, ur_cell]; exact hL) | omega) (by first | exact hF | (simp (disch := decide) only [nb, rd_uv, rd_ur, uv_cell, ur_cell]; exact hF) | omega)) k_X1_append wM_X1_48 (by decide) (by have := (by omega : b < 8); show _ < 228; omega) (ct_br g σ (by omega : b < 8)) rfl rfl rfl rfl (Nat.le_of_ble_eq_true rfl) dX1_appendMerge_6 rfl (Nat.zero_le _) (Nat.zero_le _) ?_
  refine g_retv hC dX1_appendMerge_9 ?_
  exact rfl
set_option maxHeartbeats 4000000 in
set_option maxRecDepth 20000 in
theorem c_appendOwn (l : Launch) (g : Lay) (z0 : Nat) (σ : St) (b : Nat) (o : Nat) (lo : Nat) (hb : b < 8) (hL : nb σ (34 + 7 * b) 6 200) (ho : o < 8) (hob : o ≠ b) (hO : nb σ (34 + 7 * o) 6 200) (hlo : lo ≤ rd σ (34 + 7 * o) 6) (hF : rd σ (34 + 7 * b) 6 + (rd σ (34 + 7 * o) 6 - lo) ≤ 200)  : CTv l yX1_appendOwn cX1_appendOwn 4 2 g z0 [.ref (g.2.1 (34 + 7 * b)), .ref (g.2.1 (34 + 7 * o)), .int (nI lo)] σ (FV (cho σ b o lo (rd σ (34 + 7 * o) 6 - lo))) := by
  refine CTv.of (by decide) (Nat.le_of_ble_eq_true rfl) ?_
  intro x hxl hxa hC
  have hC : Cx x RX1 cX1_appendOwn 4 none 2 g z0 := hC
  have hL2 := hL.2
  have hO2 := hO.2
  show GG x g z0 4 0 0 (Qv x g z0 (FV (cho σ b o lo (rd σ (34 + 7 * o) 6 - lo)))) σ 0 [(0, .ref (g.2.1 (34 + 7 * b))), (1, .ref (g.2.1 (34 + 7 * o))), (2, .int (nI lo))] []
  refine g_iload_n (pc' := 1) (j := 2) hC dX1_appendOwn_0 rfl rfl rfl ?_
  refine g_iconst (pc' := 2) (v := nI 1) hC dX1_appendOwn_1 rfl rfl ?_
  refine n_iadd (pc' := 3) hC dX1_appendOwn_2 rfl ?_
  refine g_istore_n (pc' := 4) (lv' := [(3, .int (nI (lo + 1))), (0, .ref (g.2.1 (34 + 7 * b))), (1, .ref (g.2.1 (34 + 7 * o))), (2, .int (nI lo))]) hC dX1_appendOwn_3 rfl rfl (by decide) rfl ?_
  have L4 : ∀ (fu : Nat) (i : Nat), (lo + i ≤ rd σ (34 + 7 * o) 6) → (rd σ (34 + 7 * o) 6 - i) < fu → GG x g z0 4 0 0 (Qv x g z0 (FV (cho σ b o lo (rd σ (34 + 7 * o) 6 - lo)))) (cho σ b o lo i) 4 [(3, .int (nI (lo + 1 + i))), (0, .ref (g.2.1 (34 + 7 * b))), (1, .ref (g.2.1 (34 + 7 * o))), (2, .int (nI lo))] [] := by
    intro fu
    induction fu with
    | zero => intro i hi hz; exact absurd hz (Nat.not_lt_zero _)
    | succ fu ih4 =>
      intro i hi hf
      obtain ⟨hz1, hz2⟩ := cho_size o lo hL i (by omega)
      refine g_iload_n (pc' := 5) (j := 0) hC dX1_appendOwn_4 rfl rfl rfl ?_
      refine g_aload_n (pc' := 6) (j := 2) hC dX1_appendOwn_5 rfl rfl rfl ?_
      refine gf_X1_6 (pc' := 9) (b := o) hC (by omega : o < 8) wF_X1_30 dX1_appendOwn_6 rfl ?_
      refine gg_topi (b := nI (rd σ (34 + 7 * o) 6)) ((cho_o σ b o lo i _ (by omega)).trans hO.1) ?_
      refine n_icmp_gt (pc' := 12) (tgt := 52) hC dX1_appendOwn_9 (by decide) rfl (by omega) (by omega) (fun c9 => ?_) (fun c9 => ?_)
      · skip
        refine g_retv hC dX1_appendOwn_52 ?_
        exact congrArg _ (by omega)
      · skip
        refine g_aload_n (pc' := 13) (j := 1) hC dX1_appendOwn_12 rfl rfl rfl ?_
        refine g_aload_n (pc' := 14) (j := 2) hC dX1_appendOwn_13 rfl rfl rfl ?_
        refine gf_X1_0 (pc' := 17) (b := o) hC (by omega : o < 8) wF_X1_9 dX1_appendOwn_14 rfl ?_
        refine g_iload_n (pc' := 18) (j := 0) hC dX1_appendOwn_17 rfl rfl rfl ?_
        refine a_ld (pc' := 19) (k := 34 + 7 * o + 1) (i := lo + 1 + i) hC (by have := (by omega : o < 8); show _ < 228; omega) (ct_ba g (cho σ b o lo i) (by omega : o < 8) (by decide) (by decide)) (by omega) (by decide) dX1_appendOwn_18 rfl ?_
        refine g_aload_n (pc' := 20) (j := 2) hC dX1_appendOwn_19 rfl rfl rfl ?_
        refine gf_X1_1 (pc' := 23) (b := o) hC (by omega : o < 8) wF_X1_15 dX1_appendOwn_20 rfl ?_
        refine g_iload_n (pc' := 24) (j := 0) hC dX1_appendOwn_23 rfl rfl rfl ?_
        refine a_ld (pc' := 25) (k := 34 + 7 * o + 2) (i := lo + 1 + i) hC (by have := (by omega : o < 8); show _ < 228; omega) (ct_ba g (cho σ b o lo i) (by omega : o < 8) (by decide) (by decide)) (by omega) (by decide) dX1_appendOwn_24 rfl ?_
        refine g_aload_n (pc' := 26) (j := 2) hC dX1_appendOwn_25 rfl rfl rfl ?_
        refine gf_X1_2 (pc' := 29) (b := o) hC (by omega : o < 8) wF_X1_18 dX1_appendOwn_26 rfl ?_
        refine g_iload_n (pc' := 30) (j := 0) hC dX1_appendOwn_29 rfl rfl rfl ?_
        refine a_ld (pc' := 31) (k := 34 + 7 * o + 3) (i := lo + 1 + i) hC (by have := (by omega : o < 8); show _ < 228; omega) (ct_ba g (cho σ b o lo i) (by omega : o < 8) (by decide) (by decide)) (by omega) (by decide) dX1_appendOwn_30 rfl ?_
        refine g_aload_n (pc' := 32) (j := 2) hC dX1_appendOwn_31 rfl rfl rfl ?_
        refine gf_X1_3 (pc' := 35) (b := o) hC (by omega : o < 8) wF_X1_21 dX1_appendOwn_32 rfl ?_
        refine g_iload_n (pc' := 36) (j := 0) hC dX1_appendOwn_35 rfl rfl rfl ?_
        refine a_ld (pc' := 37) (k := 34 + 7 * o + 4) (i := lo + 1 + i) hC (by have := (by omega : o < 8); show _ < 228; omega) (ct_ba g (cho σ b o lo i) (by omega : o < 8) (by decide) (by decide)) (by omega) (by decide) dX1_appendOwn_36 rfl ?_
        refine g_aload_n (pc' := 38) (j := 2) hC dX1_appendOwn_37 rfl rfl rfl ?_
        refine gf_X1_4 (pc' := 41) (b := o) hC (by omega : o < 8) wF_X1_24 dX1_appendOwn_38 rfl ?_
        refine g_iload_n (pc' := 42) (j := 0) hC dX1_appendOwn_41 rfl rfl rfl ?_
        refine a_ld (pc' := 43) (k := 34 + 7 * o + 5) (i := lo + 1 + i) hC (by have := (by omega : o < 8); show _ < 228; omega) (ct_ba g (cho σ b o lo i) (by omega : o < 8) (by decide) (by decide)) (by omega) (by decide) dX1_appendOwn_42 rfl ?_
        refine f_Vv (pc' := 46) (k := 34 + 7 * b) (st := []) hC (c_append x.2.1 g z0 (cho σ b o lo i) b (((cho σ b o lo i).1 (34 + 7 * o + 1) (lo + 1 + i))) (((cho σ b o lo i).1 (34 + 7 * o + 2) (lo + 1 + i))) (((cho σ b o lo i).1 (34 + 7 * o + 3) (lo + 1 + i))) (((cho σ b o lo i).1 (34 + 7 * o + 4) (lo + 1 + i))) (((cho σ b o lo i).1 (34 + 7 * o + 5) (lo + 1 + i))) (by omega) (hz1) (by omega)) k_X1_append wM_X1_48 (by decide) (by have := (by omega : b < 8); show _ < 228; omega) (ct_br g (cho σ b o lo i) (by omega : b < 8)) rfl rfl rfl rfl (Nat.le_of_ble_eq_true rfl) dX1_appendOwn_43 rfl (Nat.zero_le _) (Nat.zero_le _) ?_
        refine g_iinc (pc' := 49) (j := 0) (u := nI (lo + 1 + i + 1)) (lv' := [(3, .int (nI (lo + 1 + i + 1))), (0, .ref (g.2.1 (34 + 7 * b))), (1, .ref (g.2.1 (34 + 7 * o))), (2, .int (nI lo))]) hC dX1_appendOwn_46 rfl rfl (nI_add (lo + 1 + i) 1) (by decide) rfl ?_
        refine g_goto (tgt := 4) hC dX1_appendOwn_49 (by decide) ?_
        refine gg_st (σ' := (cho σ b o lo ((i + 1)))) (rfl) ?_
        refine gg_lv (lv' := [(3, .int (nI (lo + 1 + i + 1))), (0, .ref (g.2.1 (34 + 7 * b))), (1, .ref (g.2.1 (34 + 7 * o))), (2, .int (nI lo))]) ?_ [0, 1, 2, 3] rfl
        exact ih4 ((i + 1)) (by omega) (by omega)
  refine gg_st (σ' := (cho σ b o lo 0)) (rfl) ?_
  refine gg_lv (lv' := [(3, .int (nI (lo + 1))), (0, .ref (g.2.1 (34 + 7 * b))), (1, .ref (g.2.1 (34 + 7 * o))), (2, .int (nI lo))]) ?_ [0, 1, 2, 3] rfl
  exact L4 (rd σ (34 + 7 * o) 6 - 0 + 1) 0 (by omega) (by omega)
set_option maxHeartbeats 4000000 in
set_option maxRecDepth 20000 in
theorem c_copyFrom (l : Launch) (g : Lay) (z0 : Nat) (σ : St) (b : Nat) (o : Nat) (hb : b < 8) (ho : o < 8) (hob : o ≠ b) (hO : nb σ (34 + 7 * o) 6 200)  : CTv l yX1_copyFrom cX1_copyFrom 3 1 g z0 [.ref (g.2.1 (34 + 7 * b)), .ref (g.2.1 (34 + 7 * o))] σ (FV (ccp σ b o)) := by
  refine CTv.of (by decide) (Nat.le_of_ble_eq_true rfl) ?_
  intro x hxl hxa hC
  have hC : Cx x RX1 cX1_copyFrom 3 none 1 g z0 := hC
  have hO2 := hO.2
  show GG x g z0 3 0 0 (Qv x g z0 (FV (ccp σ b o))) σ 0 [(0, .ref (g.2.1 (34 + 7 * b))), (1, .ref (g.2.1 (34 + 7 * o)))] []
  refine g_aload_n (pc' := 1) (j := 1) hC dX1_copyFrom_0 rfl rfl rfl ?_
  refine gf_X1_6 (pc' := 4) (b := o) hC (by omega : o < 8) wF_X1_30 dX1_copyFrom_1 rfl ?_
  refine gg_topi (b := nI (rd σ (34 + 7 * o) 6)) (hO.1) ?_
  refine g_iconst (pc' := 5) (v := nI 1) hC dX1_copyFrom_4 rfl rfl ?_
  refine n_iadd (pc' := 6) hC dX1_copyFrom_5 rfl ?_
  refine g_istore_n (pc' := 7) (lv' := [(2, .int (nI ((rd σ (34 + 7 * o) 6) + 1))), (0, .ref (g.2.1 (34 + 7 * b))), (1, .ref (g.2.1 (34 + 7 * o)))]) hC dX1_copyFrom_6 rfl rfl (by decide) rfl ?_
  refine g_aload_n (pc' := 8) (j := 2) hC dX1_copyFrom_7 rfl rfl rfl ?_
  refine gf_X1_0 (pc' := 11) (b := o) hC (by omega : o < 8) wF_X1_9 dX1_copyFrom_8 rfl ?_
  refine g_iconst (pc' := 12) (v := nI 0) hC dX1_copyFrom_11 rfl rfl ?_
  refine g_aload_n (pc' := 13) (j := 1) hC dX1_copyFrom_12 rfl rfl rfl ?_
  refine gf_X1_0 (pc' := 16) (b := b) hC (by omega : b < 8) wF_X1_9 dX1_copyFrom_13 rfl ?_
  refine g_iconst (pc' := 17) (v := nI 0) hC dX1_copyFrom_16 rfl rfl ?_
  refine g_iload_n (pc' := 18) (j := 0) hC dX1_copyFrom_17 rfl rfl rfl ?_
  refine g_copy (pc' := 21) (k0 := 34 + 7 * o + 1) (k1 := 34 + 7 * b + 1) (st := []) hC wM_X1_34 (by decide) (by have := (by omega : o < 8); show _ < 228; omega) (by have := (by omega : b < 8); show _ < 228; omega) (ct_ba g σ (by omega : o < 8) (by decide) (by decide)) (fun σ9 => (ct_ba g σ9 (by omega : b < 8) (by decide) (by decide))) (by omega) (by omega) (by decide) (by decide) (Nat.le_of_ble_eq_true rfl) dX1_copyFrom_18 rfl ?_
  refine g_aload_n (pc' := 22) (j := 2) hC dX1_copyFrom_21 rfl rfl rfl ?_
  refine gf_X1_1 (pc' := 25) (b := o) hC (by omega : o < 8) wF_X1_15 dX1_copyFrom_22 rfl ?_
  refine g_iconst (pc' := 26) (v := nI 0) hC dX1_copyFrom_25 rfl rfl ?_
  refine g_aload_n (pc' := 27) (j := 1) hC dX1_copyFrom_26 rfl rfl rfl ?_
  refine gf_X1_1 (pc' := 30) (b := b) hC (by omega : b < 8) wF_X1_15 dX1_copyFrom_27 rfl ?_
  refine g_iconst (pc' := 31) (v := nI 0) hC dX1_copyFrom_30 rfl rfl ?_
  refine g_iload_n (pc' := 32) (j := 0) hC dX1_copyFrom_31 rfl rfl rfl ?_
  refine g_copy (pc' := 35) (k0 := 34 + 7 * o + 2) (k1 := 34 + 7 * b + 2) (st := []) hC wM_X1_34 (by decide) (by have := (by omega : o < 8); show _ < 228; omega) (by have := (by omega : b < 8); show _ < 228; omega) (ct_ba g (ur σ (34 + 7 * b + 1) (va_cpy (σ.1 (34 + 7 * o + 1)) (σ.1 (34 + 7 * b + 1)) 0 0 ((rd σ (34 + 7 * o) 6) + 1))) (by omega : o < 8) (by decide) (by decide)) (fun σ9 => (ct_ba g σ9 (by omega : b < 8) (by decide) (by decide))) (by omega) (by omega) (by decide) (by decide) (Nat.le_of_ble_eq_true rfl) dX1_copyFrom_32 rfl ?_
  refine gg_st (σ' := (ur (ur σ (34 + 7 * b + 1) (va_cpy (σ.1 (34 + 7 * o + 1)) (σ.1 (34 + 7 * b + 1)) 0 0 ((rd σ (34 + 7 * o) 6) + 1))) (34 + 7 * b + 2) (va_cpy (σ.1 (34 + 7 * o + 2)) (σ.1 (34 + 7 * b + 2)) 0 0 ((rd σ (34 + 7 * o) 6) + 1)))) (by simp (disch := omega) only [ur_fn, uv_fn]) ?_
  refine g_aload_n (pc' := 36) (j := 2) hC dX1_copyFrom_35 rfl rfl rfl ?_
  refine gf_X1_2 (pc' := 39) (b := o) hC (by omega : o < 8) wF_X1_18 dX1_copyFrom_36 rfl ?_
  refine g_iconst (pc' := 40) (v := nI 0) hC dX1_copyFrom_39 rfl rfl ?_
  refine g_aload_n (pc' := 41) (j := 1) hC dX1_copyFrom_40 rfl rfl rfl ?_
  refine gf_X1_2 (pc' := 44) (b := b) hC (by omega : b < 8) wF_X1_18 dX1_copyFrom_41 rfl ?_
  refine g_iconst (pc' := 45) (v := nI 0) hC dX1_copyFrom_44 rfl rfl ?_
  refine g_iload_n (pc' := 46) (j := 0) hC dX1_copyFrom_45 rfl rfl rfl ?_
  refine g_copy (pc' := 49) (k0 := 34 + 7 * o + 3) (k1 := 34 + 7 * b + 3) (st := []) hC wM_X1_34 (by decide) (by have := (by omega : o < 8); show _ < 228; omega) (by have := (by omega : b < 8); show _ < 228; omega) (ct_ba g (ur (ur σ (34 + 7 * b + 1) (va_cpy (σ.1 (34 + 7 * o + 1)) (σ.1 (34 + 7 * b + 1)) 0 0 ((rd σ (34 + 7 * o) 6) + 1))) (34 + 7 * b + 2) (va_cpy (σ.1 (34 + 7 * o + 2)) (σ.1 (34 + 7 * b + 2)) 0 0 ((rd σ (34 + 7 * o) 6) + 1))) (by omega : o < 8) (by decide) (by decide)) (fun σ9 => (ct_ba g σ9 (by omega : b < 8) (by decide) (by decide))) (by omega) (by omega) (by decide) (by decide) (Nat.le_of_ble_eq_true rfl) dX1_copyFrom_46 rfl ?_
  refine gg_st (σ' := (ur (ur (ur σ (34 + 7 * b + 1) (va_cpy (σ.1 (34 + 7 * o + 1)) (σ.1 (34 + 7 * b + 1)) 0 0 ((rd σ (34 + 7 * o) 6) + 1))) (34 + 7 * b + 2) (va_cpy (σ.1 (34 + 7 * o + 2)) (σ.1 (34 + 7 * b + 2)) 0 0 ((rd σ (34 + 7 * o) 6) + 1))) (34 + 7 * b + 3) (va_cpy (σ.1 (34 + 7 * o + 3)) (σ.1 (34 + 7 * b + 3)) 0 0 ((rd σ (34 + 7 * o) 6) + 1)))) (by simp (disch := omega) only [ur_fn, uv_fn]) ?_
  refine g_aload_n (pc' := 50) (j := 2) hC dX1_copyFrom_49 rfl rfl rfl ?_
  refine gf_X1_3 (pc' := 53) (b := o) hC (by omega : o < 8) wF_X1_21 dX1_copyFrom_50 rfl ?_
  refine g_iconst (pc' := 54) (v := nI 0) hC dX1_copyFrom_53 rfl rfl ?_
  refine g_aload_n (pc' := 55) (j := 1) hC dX1_copyFrom_54 rfl rfl rfl ?_
  refine gf_X1_3 (pc' := 58) (b := b) hC (by omega : b < 8) wF_X1_21 dX1_copyFrom_55 rfl ?_
  refine g_iconst (pc' := 59) (v := nI 0) hC dX1_copyFrom_58 rfl rfl ?_
  refine g_iload_n (pc' := 60) (j := 0) hC dX1_copyFrom_59 rfl rfl rfl ?_
  refine g_copy (pc' := 63) (k0 := 34 + 7 * o + 4) (k1 := 34 + 7 * b + 4) (st := []) hC wM_X1_34 (by decide) (by have := (by omega : o < 8); show _ < 228; omega) (by have := (by omega : b < 8); show _ < 228; omega) (ct_ba g (ur (ur (ur σ (34 + 7 * b + 1) (va_cpy (σ.1 (34 + 7 * o + 1)) (σ.1 (34 + 7 * b + 1)) 0 0 ((rd σ (34 + 7 * o) 6) + 1))) (34 + 7 * b + 2) (va_cpy (σ.1 (34 + 7 * o + 2)) (σ.1 (34 + 7 * b + 2)) 0 0 ((rd σ (34 + 7 * o) 6) + 1))) (34 + 7 * b + 3) (va_cpy (σ.1 (34 + 7 * o + 3)) (σ.1 (34 + 7 * b + 3)) 0 0 ((rd σ (34 + 7 * o) 6) + 1))) (by omega : o < 8) (by decide) (by decide)) (fun σ9 => (ct_ba g σ9 (by omega : b < 8) (by decide) (by decide))) (by omega) (by omega) (by decide) (by decide) (Nat.le_of_ble_eq_true rfl) dX1_copyFrom_60 rfl ?_
  refine gg_st (σ' := (ur (ur (ur (ur σ (34 + 7 * b + 1) (va_cpy (σ.1 (34 + 7 * o + 1)) (σ.1 (34 + 7 * b + 1)) 0 0 ((rd σ (34 + 7 * o) 6) + 1))) (34 + 7 * b + 2) (va_cpy (σ.1 (34 + 7 * o + 2)) (σ.1 (34 + 7 * b + 2)) 0 0 ((rd σ (34 + 7 * o) 6) + 1))) (34 + 7 * b + 3) (va_cpy (σ.1 (34 + 7 * o + 3)) (σ.1 (34 + 7 * b + 3)) 0 0 ((rd σ (34 + 7 * o) 6) + 1))) (34 + 7 * b + 4) (va_cpy (σ.1 (34 + 7 * o + 4)) (σ.1 (34 + 7 * b + 4)) 0 0 ((rd σ (34 + 7 * o) 6) + 1)))) (by simp (disch := omega) only [ur_fn, uv_fn]) ?_
  refine g_aload_n (pc' := 64) (j := 2) hC dX1_copyFrom_63 rfl rfl rfl ?_
  refine gf_X1_4 (pc' := 67) (b := o) hC (by omega : o < 8) wF_X1_24 dX1_copyFrom_64 rfl ?_
  refine g_iconst (pc' := 68) (v := nI 0) hC dX1_copyFrom_67 rfl rfl ?_
  refine g_aload_n (pc' := 69) (j := 1) hC dX1_copyFrom_68 rfl rfl rfl ?_
  refine gf_X1_4 (pc' := 72) (b := b) hC (by omega : b < 8) wF_X1_24 dX1_copyFrom_69 rfl ?_
  refine g_iconst (pc' := 73) (v := nI 0) hC dX1_copyFrom_72 rfl rfl ?_
  refine g_iload_n (pc' := 74) (j := 0) hC dX1_copyFrom_73 rfl rfl rfl ?_
  refine g_copy (pc' := 77) (k0 := 34 + 7 * o + 5) (k1 := 34 + 7 * b + 5) (st := []) hC wM_X1_34 (by decide) (by have := (by omega : o < 8); show _ < 228; omega) (by have := (by omega : b < 8); show _ < 228; omega) (ct_ba g (ur (ur (ur (ur σ (34 + 7 * b + 1) (va_cpy (σ.1 (34 + 7 * o + 1)) (σ.1 (34 + 7 * b + 1)) 0 0 ((rd σ (34 + 7 * o) 6) + 1))) (34 + 7 * b + 2) (va_cpy (σ.1 (34 + 7 * o + 2)) (σ.1 (34 + 7 * b + 2)) 0 0 ((rd σ (34 + 7 * o) 6) + 1))) (34 + 7 * b + 3) (va_cpy (σ.1 (34 + 7 * o + 3)) (σ.1 (34 + 7 * b + 3)) 0 0 ((rd σ (34 + 7 * o) 6) + 1))) (34 + 7 * b + 4) (va_cpy (σ.1 (34 + 7 * o + 4)) (σ.1 (34 + 7 * b + 4)) 0 0 ((rd σ (34 + 7 * o) 6) + 1))) (by omega : o < 8) (by decide) (by decide)) (fun σ9 => (ct_ba g σ9 (by omega : b < 8) (by decide) (by decide))) (by omega) (by omega) (by decide) (by decide) (Nat.le_of_ble_eq_true rfl) dX1_copyFrom_74 rfl ?_
  refine gg_st (σ' := (ur (ur (ur (ur (ur σ (34 + 7 * b + 1) (va_cpy (σ.1 (34 + 7 * o + 1)) (σ.1 (34 + 7 * b + 1)) 0 0 ((rd σ (34 + 7 * o) 6) + 1))) (34 + 7 * b + 2) (va_cpy (σ.1 (34 + 7 * o + 2)) (σ.1 (34 + 7 * b + 2)) 0 0 ((rd σ (34 + 7 * o) 6) + 1))) (34 + 7 * b + 3) (va_cpy (σ.1 (34 + 7 * o + 3)) (σ.1 (34 + 7 * b + 3)) 0 0 ((rd σ (34 + 7 * o) 6) + 1))) (34 + 7 * b + 4) (va_cpy (σ.1 (34 + 7 * o + 4)) (σ.1 (34 + 7 * b + 4)) 0 0 ((rd σ (34 + 7 * o) 6) + 1))) (34 + 7 * b + 5) (va_cpy (σ.1 (34 + 7 * o + 5)) (σ.1 (34 + 7 * b + 5)) 0 0 ((rd σ (34 + 7 * o) 6) + 1)))) (by simp (disch := omega) only [ur_fn, uv_fn]) ?_
  refine g_aload_n (pc' := 78) (j := 2) hC dX1_copyFrom_77 rfl rfl rfl ?_
  refine gf_X1_5 (pc' := 81) (b := o) hC (by omega : o < 8) wF_X1_27 dX1_copyFrom_78 rfl ?_
  refine g_iconst (pc' := 82) (v := nI 0) hC dX1_copyFrom_81 rfl rfl ?_
  refine g_aload_n (pc' := 83) (j := 1) hC dX1_copyFrom_82 rfl rfl rfl ?_
  refine gf_X1_5 (pc' := 86) (b := b) hC (by omega : b < 8) wF_X1_27 dX1_copyFrom_83 rfl ?_
  refine g_iconst (pc' := 87) (v := nI 0) hC dX1_copyFrom_86 rfl rfl ?_
  refine g_iload_n (pc' := 88) (j := 0) hC dX1_copyFrom_87 rfl rfl rfl ?_
  refine g_copy (pc' := 91) (k0 := 34 + 7 * o + 6) (k1 := 34 + 7 * b + 6) (st := []) hC wM_X1_34 (by decide) (by have := (by omega : o < 8); show _ < 228; omega) (by have := (by omega : b < 8); show _ < 228; omega) (ct_ba g (ur (ur (ur (ur (ur σ (34 + 7 * b + 1) (va_cpy (σ.1 (34 + 7 * o + 1)) (σ.1 (34 + 7 * b + 1)) 0 0 ((rd σ (34 + 7 * o) 6) + 1))) (34 + 7 * b + 2) (va_cpy (σ.1 (34 + 7 * o + 2)) (σ.1 (34 + 7 * b + 2)) 0 0 ((rd σ (34 + 7 * o) 6) + 1))) (34 + 7 * b + 3) (va_cpy (σ.1 (34 + 7 * o + 3)) (σ.1 (34 + 7 * b + 3)) 0 0 ((rd σ (34 + 7 * o) 6) + 1))) (34 + 7 * b + 4) (va_cpy (σ.1 (34 + 7 * o + 4)) (σ.1 (34 + 7 * b + 4)) 0 0 ((rd σ (34 + 7 * o) 6) + 1))) (34 + 7 * b + 5) (va_cpy (σ.1 (34 + 7 * o + 5)) (σ.1 (34 + 7 * b + 5)) 0 0 ((rd σ (34 + 7 * o) 6) + 1))) (by omega : o < 8) (by decide) (by decide)) (fun σ9 => (ct_ba g σ9 (by omega : b < 8) (by decide) (by decide))) (by omega) (by omega) (by decide) (by decide) (Nat.le_of_ble_eq_true rfl) dX1_copyFrom_88 rfl ?_
  refine gg_st (σ' := (ur (ur (ur (ur (ur (ur σ (34 + 7 * b + 1) (va_cpy (σ.1 (34 + 7 * o + 1)) (σ.1 (34 + 7 * b + 1)) 0 0 ((rd σ (34 + 7 * o) 6) + 1))) (34 + 7 * b + 2) (va_cpy (σ.1 (34 + 7 * o + 2)) (σ.1 (34 + 7 * b + 2)) 0 0 ((rd σ (34 + 7 * o) 6) + 1))) (34 + 7 * b + 3) (va_cpy (σ.1 (34 + 7 * o + 3)) (σ.1 (34 + 7 * b + 3)) 0 0 ((rd σ (34 + 7 * o) 6) + 1))) (34 + 7 * b + 4) (va_cpy (σ.1 (34 + 7 * o + 4)) (σ.1 (34 + 7 * b + 4)) 0 0 ((rd σ (34 + 7 * o) 6) + 1))) (34 + 7 * b + 5) (va_cpy (σ.1 (34 + 7 * o + 5)) (σ.1 (34 + 7 * b + 5)) 0 0 ((rd σ (34 + 7 * o) 6) + 1))) (34 + 7 * b + 6) (va_cpy (σ.1 (34 + 7 * o + 6)) (σ.1 (34 + 7 * b + 6)) 0 0 ((rd σ (34 + 7 * o) 6) + 1)))) (by simp (disch := omega) only [ur_fn, uv_fn]) ?_
  refine g_aload_n (pc' := 92) (j := 1) hC dX1_copyFrom_91 rfl rfl rfl ?_
  refine g_aload_n (pc' := 93) (j := 2) hC dX1_copyFrom_92 rfl rfl rfl ?_
  refine gf_X1_6 (pc' := 96) (b := o) hC (by omega : o < 8) wF_X1_30 dX1_copyFrom_93 rfl ?_
  refine gg_topi (b := nI (rd σ (34 + 7 * o) 6)) ((ur_cell _ _ _ (by omega)).trans ((ur_cell _ _ _ (by omega)).trans ((ur_cell _ _ _ (by omega)).trans ((ur_cell _ _ _ (by omega)).trans ((ur_cell _ _ _ (by omega)).trans ((ur_cell _ _ _ (by omega)).trans (hO.1))))))) ?_
  refine pf_X1_6 (pc' := 99) (b := b) hC (by omega : b < 8) wF_X1_30 dX1_copyFrom_96 rfl ?_
  refine g_retv hC dX1_copyFrom_99 ?_
  exact rfl
set_option maxHeartbeats 4000000 in
set_option maxRecDepth 20000 in
theorem c_firstUnsound (l : Launch) (g : Lay) (z0 : Nat) (σ : St) (b : Nat) (lo : Nat) (hb : b < 8) (hL : nb σ (34 + 7 * b) 6 200) (hlo : lo ≤ rd σ (34 + 7 * b) 6)  : CTi l yX1_firstUnsound cX1_firstUnsound 3 (some .int) 1 g z0 [.ref (g.2.1 (34 + 7 * b)), .int (nI lo)] σ (FI (nI (cun σ b lo)) σ) := by
  refine CTi.of (by decide) (Nat.le_of_ble_eq_true rfl) ?_
  intro x hxl hxa hC
  have hC : Cx x RX1 cX1_firstUnsound 3 (some .int) 1 g z0 := hC
  have hL2 := hL.2
  show GG x g z0 3 0 0 (Qi x g z0 (FI (nI (cun σ b lo)) σ)) σ 0 [(0, .ref (g.2.1 (34 + 7 * b))), (1, .int (nI lo))] []
  refine g_iload_n (pc' := 1) (j := 1) hC dX1_firstUnsound_0 rfl rfl rfl ?_
  refine g_iconst (pc' := 2) (v := nI 1) hC dX1_firstUnsound_1 rfl rfl ?_
  refine n_iadd (pc' := 3) hC dX1_firstUnsound_2 rfl ?_
  refine g_istore_n (pc' := 4) (lv' := [(2, .int (nI (lo + 1))), (0, .ref (g.2.1 (34 + 7 * b))), (1, .int (nI lo))]) hC dX1_firstUnsound_3 rfl rfl (by decide) rfl ?_
  have L4 : ∀ (fu : Nat) (i : Nat), (lo < i) → (i ≤ rd σ (34 + 7 * b) 6 + 1) → (∀ j, lo < j → j < i → σ.1 (34 + 7 * b + 6) j = ccm σ b j) → (rd σ (34 + 7 * b) 6 + 1 - i) < fu → GG x g z0 3 0 0 (Qi x g z0 (FI (nI (cun σ b lo)) σ)) σ 4 [(2, .int (nI i)), (0, .ref (g.2.1 (34 + 7 * b))), (1, .int (nI lo))] [] := by
    intro fu
    induction fu with
    | zero => intro i hi hi2 hj hz; exact absurd hz (Nat.not_lt_zero _)
    | succ fu ih4 =>
      intro i hi hi2 hj hf
      have hj0 := hj
      refine g_iload_n (pc' := 5) (j := 0) hC dX1_firstUnsound_4 rfl rfl rfl ?_
      refine g_aload_n (pc' := 6) (j := 1) hC dX1_firstUnsound_5 rfl rfl rfl ?_
      refine gf_X1_6 (pc' := 9) (b := b) hC (by omega : b < 8) wF_X1_30 dX1_firstUnsound_6 rfl ?_
      refine gg_topi (b := nI (rd σ (34 + 7 * b) 6)) (hL.1) ?_
      refine n_icmp_gt (pc' := 12) (tgt := 34) hC dX1_firstUnsound_9 (by decide) rfl (by omega) (by omega) (fun c9 => ?_) (fun c9 => ?_)
      · skip
        refine g_aload_n (pc' := 35) (j := 1) hC dX1_firstUnsound_34 rfl rfl rfl ?_
        refine gf_X1_6 (pc' := 38) (b := b) hC (by omega : b < 8) wF_X1_30 dX1_firstUnsound_35 rfl ?_
        refine gg_topi (b := nI (rd σ (34 + 7 * b) 6)) (hL.1) ?_
        refine g_iconst (pc' := 39) (v := nI 1) hC dX1_firstUnsound_38 rfl rfl ?_
        refine n_iadd (pc' := 40) hC dX1_firstUnsound_39 rfl ?_
        refine g_ret hC dX1_firstUnsound_40 rfl ?_
        exact ⟨congrArg nI ((by omega : rd σ (34 + 7 * b) 6 + 1 = i).trans (lst_eq ⟨by omega, Or.inl (by omega)⟩ (fun j hj => fun z => z.2.elim (fun q => by omega) (fun q => q (hj0 j z.1 hj)))).symm), rfl⟩
      · skip
        refine g_aload_n (pc' := 13) (j := 1) hC dX1_firstUnsound_12 rfl rfl rfl ?_
        refine gf_X1_5 (pc' := 16) (b := b) hC (by omega : b < 8) wF_X1_27 dX1_firstUnsound_13 rfl ?_
        refine g_iload_n (pc' := 17) (j := 0) hC dX1_firstUnsound_16 rfl rfl rfl ?_
        refine a_ld (pc' := 18) (k := 34 + 7 * b + 6) (i := i) hC (by have := (by omega : b < 8); show _ < 228; omega) (ct_ba g σ (by omega : b < 8) (by decide) (by decide)) (by omega) (by decide) dX1_firstUnsound_17 rfl ?_
        refine g_aload_n (pc' := 19) (j := 1) hC dX1_firstUnsound_18 rfl rfl rfl ?_
        refine g_iload_n (pc' := 20) (j := 0) hC dX1_firstUnsound_19 rfl rfl rfl ?_
        refine f_Vi (pc' := 23) (k := 34 + 7 * b) (st := [.int (σ.1 (34 + 7 * b + 6) i)]) hC (c_computedHash x.2.1 g z0 σ b i (by omega) (by first | exact hL | (simp (disch := decide) only [nb, rd_uv, rd_ur, uv_cell, ur_cell]; exact hL) | omega) (by omega) (by first | exact h2 | (simp (disch := decide) only [nb, rd_uv, rd_ur, uv_cell, ur_cell]; exact h2) | omega)) k_X1_computedHash wM_X1_44 (by decide) (by have := (by omega : b < 8); show _ < 228; omega) (ct_br g σ (by omega : b < 8)) rfl rfl rfl rfl (Nat.le_of_ble_eq_true rfl) dX1_firstUnsound_20 rfl (Nat.zero_le _) (Nat.zero_le _) ?_
        refine g_icmp_eq (pc' := 26) (tgt := 28) hC dX1_firstUnsound_23 (by decide) rfl (fun c23 => ?_) (fun c23 => ?_)
        · skip
          refine g_iinc (pc' := 31) (j := 0) (u := nI (i + 1)) (lv' := [(2, .int (nI (i + 1))), (0, .ref (g.2.1 (34 + 7 * b))), (1, .int (nI lo))]) hC dX1_firstUnsound_28 rfl rfl (nI_add i 1) (by decide) rfl ?_
          refine g_goto (tgt := 4) hC dX1_firstUnsound_31 (by decide) ?_
          refine gg_lv (lv' := [(2, .int (nI (i + 1))), (0, .ref (g.2.1 (34 + 7 * b))), (1, .int (nI lo))]) ?_ [0, 1, 2] rfl
          exact ih4 ((i + 1)) (by omega) (by omega) (fun j a b => (Nat.lt_or_eq_of_le (Nat.le_of_lt_succ b)).elim (hj0 j a) (fun e => e ▸ c23)) (by omega)
        · skip
          refine g_iload_n (pc' := 27) (j := 0) hC dX1_firstUnsound_26 rfl rfl rfl ?_
          refine g_ret hC dX1_firstUnsound_27 rfl ?_
          exact ⟨congrArg nI (lst_eq ⟨by omega, Or.inr c23⟩ (fun j hj => fun z => z.2.elim (fun q => by omega) (fun q => q (hj0 j z.1 hj)))).symm, rfl⟩
  refine gg_lv (lv' := [(2, .int (nI (lo + 1))), (0, .ref (g.2.1 (34 + 7 * b))), (1, .int (nI lo))]) ?_ [0, 1, 2] rfl
  exact L4 (rd σ (34 + 7 * b) 6 + 1 - ((lo + 1)) + 1) ((lo + 1)) (by omega) (by omega) (fun j a b => absurd b (by omega)) (by omega)
set_option maxHeartbeats 4000000 in
set_option maxRecDepth 20000 in
theorem c_lastValue (l : Launch) (g : Lay) (z0 : Nat) (σ : St) (b : Nat) (w : Int32) (hb : b < 8) (hL : nb σ (34 + 7 * b) 6 200)  : CTi l yX1_lastValue cX1_lastValue 3 (some .int) 0 g z0 [.ref (g.2.1 (34 + 7 * b)), .int w] σ (FI (cval σ b w (rd σ (34 + 7 * b) 6)) σ) := by
  refine CTi.of (by decide) (Nat.le_of_ble_eq_true rfl) ?_
  intro x hxl hxa hC
  have hC : Cx x RX1 cX1_lastValue 3 (some .int) 0 g z0 := hC
  have hL2 := hL.2
  show GG x g z0 3 0 0 (Qi x g z0 (FI (cval σ b w (rd σ (34 + 7 * b) 6)) σ)) σ 0 [(0, .ref (g.2.1 (34 + 7 * b))), (1, .int w)] []
  refine g_aload_n (pc' := 1) (j := 0) hC dX1_lastValue_0 rfl rfl rfl ?_
  refine gf_X1_6 (pc' := 4) (b := b) hC (by omega : b < 8) wF_X1_30 dX1_lastValue_1 rfl ?_
  refine gg_topi (b := nI (rd σ (34 + 7 * b) 6)) (hL.1) ?_
  refine g_istore_n (pc' := 5) (lv' := [(2, .int (nI (rd σ (34 + 7 * b) 6))), (0, .ref (g.2.1 (34 + 7 * b))), (1, .int w)]) hC dX1_lastValue_4 rfl rfl (by decide) rfl ?_
  have L5 : ∀ (fu : Nat) (i : Nat), (i ≤ 200) → (cval σ b w (rd σ (34 + 7 * b) 6) = cval σ b w i) → i < fu → GG x g z0 3 0 0 (Qi x g z0 (FI (cval σ b w (rd σ (34 + 7 * b) 6)) σ)) σ 5 [(2, .int (nI i)), (0, .ref (g.2.1 (34 + 7 * b))), (1, .int w)] [] := by
    intro fu
    induction fu with
    | zero => intro i hi he hz; exact absurd hz (Nat.not_lt_zero _)
    | succ fu ih5 =>
      intro i hi he hf
      refine g_iload_n (pc' := 6) (j := 0) hC dX1_lastValue_5 rfl rfl rfl ?_
      refine g_iconst (pc' := 7) (v := nI 1) hC dX1_lastValue_6 rfl rfl ?_
      refine n_icmp_lt (pc' := 10) (tgt := 43) hC dX1_lastValue_7 (by decide) rfl (by omega) (by omega) (fun c7 => ?_) (fun c7 => ?_)
      · skip
        refine g_iconst (pc' := 44) (v := nI 0) hC dX1_lastValue_43 rfl rfl ?_
        refine g_ret hC dX1_lastValue_44 rfl ?_
        exact ⟨(he.trans (by rw [show i = 0 by omega]; rfl)).symm, rfl⟩
      · skip
        refine g_aload_n (pc' := 11) (j := 1) hC dX1_lastValue_10 rfl rfl rfl ?_
        refine gf_X1_0 (pc' := 14) (b := b) hC (by omega : b < 8) wF_X1_9 dX1_lastValue_11 rfl ?_
        refine g_iload_n (pc' := 15) (j := 0) hC dX1_lastValue_14 rfl rfl rfl ?_
        refine a_ld (pc' := 16) (k := 34 + 7 * b + 1) (i := i) hC (by have := (by omega : b < 8); show _ < 228; omega) (ct_ba g σ (by omega : b < 8) (by decide) (by decide)) (by omega) (by decide) dX1_lastValue_15 rfl ?_
        refine g_iconst (pc' := 17) (v := nI 1) hC dX1_lastValue_16 rfl rfl ?_
        refine g_icmp_ne (pc' := 20) (tgt := 37) hC dX1_lastValue_17 (by decide) rfl (fun c17 => ?_) (fun c17 => ?_)
        · skip
          refine g_iinc (pc' := 40) (j := 0) (u := nI (i - 1)) (lv' := [(2, .int (nI (i - 1))), (0, .ref (g.2.1 (34 + 7 * b))), (1, .int w)]) hC dX1_lastValue_37 rfl rfl (sb_m1 (by omega)) (by decide) rfl ?_
          refine g_goto (tgt := 5) hC dX1_lastValue_40 (by decide) ?_
          refine gg_lv (lv' := [(2, .int (nI (i - 1))), (0, .ref (g.2.1 (34 + 7 * b))), (1, .int w)]) ?_ [0, 1, 2] rfl
          exact ih5 ((i - 1)) (by omega) (he.trans (cval_step σ b w i (by omega) (by first | exact Or.inr c27 | exact Or.inl c17))) (by omega)
        · skip
          refine g_aload_n (pc' := 21) (j := 1) hC dX1_lastValue_20 rfl rfl rfl ?_
          refine gf_X1_2 (pc' := 24) (b := b) hC (by omega : b < 8) wF_X1_18 dX1_lastValue_21 rfl ?_
          refine g_iload_n (pc' := 25) (j := 0) hC dX1_lastValue_24 rfl rfl rfl ?_
          refine a_ld (pc' := 26) (k := 34 + 7 * b + 3) (i := i) hC (by have := (by omega : b < 8); show _ < 228; omega) (ct_ba g σ (by omega : b < 8) (by decide) (by decide)) (by omega) (by decide) dX1_lastValue_25 rfl ?_
          refine g_iload_n (pc' := 27) (j := 2) hC dX1_lastValue_26 rfl rfl rfl ?_
          refine g_icmp_ne (pc' := 30) (tgt := 37) hC dX1_lastValue_27 (by decide) rfl (fun c27 => ?_) (fun c27 => ?_)
          · skip
            refine g_iinc (pc' := 40) (j := 0) (u := nI (i - 1)) (lv' := [(2, .int (nI (i - 1))), (0, .ref (g.2.1 (34 + 7 * b))), (1, .int w)]) hC dX1_lastValue_37 rfl rfl (sb_m1 (by omega)) (by decide) rfl ?_
            refine g_goto (tgt := 5) hC dX1_lastValue_40 (by decide) ?_
            refine gg_lv (lv' := [(2, .int (nI (i - 1))), (0, .ref (g.2.1 (34 + 7 * b))), (1, .int w)]) ?_ [0, 1, 2] rfl
            exact ih5 ((i - 1)) (by omega) (he.trans (cval_step σ b w i (by omega) (by first | exact Or.inr c27 | exact Or.inl c17))) (by omega)
          · skip
            refine g_aload_n (pc' := 31) (j := 1) hC dX1_lastValue_30 rfl rfl rfl ?_
            refine gf_X1_3 (pc' := 34) (b := b) hC (by omega : b < 8) wF_X1_21 dX1_lastValue_31 rfl ?_
            refine g_iload_n (pc' := 35) (j := 0) hC dX1_lastValue_34 rfl rfl rfl ?_
            refine a_ld (pc' := 36) (k := 34 + 7 * b + 4) (i := i) hC (by have := (by omega : b < 8); show _ < 228; omega) (ct_ba g σ (by omega : b < 8) (by decide) (by decide)) (by omega) (by decide) dX1_lastValue_35 rfl ?_
            refine g_ret hC dX1_lastValue_36 rfl ?_
            exact ⟨(he.trans (cval_hit σ b w i (by omega) c17 c27)).symm, rfl⟩
  refine gg_lv (lv' := [(2, .int (nI (rd σ (34 + 7 * b) 6))), (0, .ref (g.2.1 (34 + 7 * b))), (1, .int w)]) ?_ [0, 1, 2] rfl
  exact L5 ((rd σ (34 + 7 * b) 6) + 1) ((rd σ (34 + 7 * b) 6)) (by omega) (rfl) (by omega)
set_option maxHeartbeats 4000000 in
set_option maxRecDepth 20000 in
theorem c_partOfB (l : Launch) (g : Lay) (z0 : Nat) (σ : St) (b : Nat) (n : Nat) (w : Int32) (hb : b < 8) (hL : nb σ (34 + 7 * b) 6 200) (h1 : 1 ≤ n) (h2 : n ≤ rd σ (34 + 7 * b) 6)  : CTi l yX1_partOf cX1_partOf 3 (some .int) 1 g z0 [.ref (g.2.1 (34 + 7 * b)), .int (nI n), .int w] σ (FI (cpt σ b n w) σ) := by
  refine CTi.of (by decide) (Nat.le_of_ble_eq_true rfl) ?_
  intro x hxl hxa hC
  have hC : Cx x RX1 cX1_partOf 3 (some .int) 1 g z0 := hC
  have hL2 := hL.2
  have hce : cen σ b (nI n) := ⟨fun z => absurd ((nI_ltI (by omega) (by omega)).mp z) (by omega), fun z => absurd ((nI_ltI (by omega) (by omega)).mp z) (by omega)⟩
  show GG x g z0 3 0 0 (Qi x g z0 (FI (cpt σ b n w) σ)) σ 0 [(0, .ref (g.2.1 (34 + 7 * b))), (1, .int (nI n)), (2, .int w)] []
  refine g_aload_n (pc' := 1) (j := 0) hC dX1_partOf_0 rfl rfl rfl ?_
  refine g_iload_n (pc' := 2) (j := 1) hC dX1_partOf_1 rfl rfl rfl ?_
  refine f_Vi (pc' := 5) (k := 34 + 7 * b) (st := []) hC (c_hasEntry x.2.1 g z0 σ b ((nI n)) (by omega) (by first | exact hL | (simp (disch := decide) only [nb, rd_uv, rd_ur, uv_cell, ur_cell]; exact hL) | omega)) k_X1_hasEntry wM_X1_64 (by decide) (by have := (by omega : b < 8); show _ < 228; omega) (ct_br g σ (by omega : b < 8)) rfl rfl rfl rfl (Nat.le_of_ble_eq_true rfl) dX1_partOf_2 rfl (Nat.zero_le _) (Nat.zero_le _) ?_
  refine b_if_ne (pc' := 8) (tgt := 10) hC dX1_partOf_5 (by decide) rfl (fun c5 => ?_) (fun c5 => ?_)
  · skip
    refine g_iload_n (pc' := 11) (j := 2) hC dX1_partOf_10 rfl rfl rfl ?_
    by_cases t11_0 : w = nI 0
    · skip
      refine gg_topi t11_0 ?_
      refine n_tswIn (tgt := 48) hC dX1_partOf_11 rfl (by decide) (by decide) (by decide) rfl (by decide) ?_
      refine g_aload_n (pc' := 49) (j := 0) hC dX1_partOf_48 rfl rfl rfl ?_
      refine gf_X1_0 (pc' := 52) (b := b) hC (by omega : b < 8) wF_X1_9 dX1_partOf_49 rfl ?_
      refine g_iload_n (pc' := 53) (j := 1) hC dX1_partOf_52 rfl rfl rfl ?_
      refine a_ld (pc' := 54) (k := 34 + 7 * b + 1) (i := n) hC (by have := (by omega : b < 8); show _ < 228; omega) (ct_ba g σ (by omega : b < 8) (by decide) (by decide)) (by omega) (by decide) dX1_partOf_53 rfl ?_
      refine g_ret hC dX1_partOf_54 rfl ?_
      exact ⟨by unfold cpt; rw [cI_t t11_0], rfl⟩
    by_cases t11_1 : w = nI 1
    · skip
      refine gg_topi t11_1 ?_
      refine n_tswIn (tgt := 55) hC dX1_partOf_11 rfl (by decide) (by decide) (by decide) rfl (by decide) ?_
      refine g_aload_n (pc' := 56) (j := 0) hC dX1_partOf_55 rfl rfl rfl ?_
      refine gf_X1_1 (pc' := 59) (b := b) hC (by omega : b < 8) wF_X1_15 dX1_partOf_56 rfl ?_
      refine g_iload_n (pc' := 60) (j := 1) hC dX1_partOf_59 rfl rfl rfl ?_
      refine a_ld (pc' := 61) (k := 34 + 7 * b + 2) (i := n) hC (by have := (by omega : b < 8); show _ < 228; omega) (ct_ba g σ (by omega : b < 8) (by decide) (by decide)) (by omega) (by decide) dX1_partOf_60 rfl ?_
      refine g_ret hC dX1_partOf_61 rfl ?_
      exact ⟨by unfold cpt; rw [cI_f t11_0, cI_t t11_1], rfl⟩
    by_cases t11_2 : w = nI 2
    · skip
      refine gg_topi t11_2 ?_
      refine n_tswIn (tgt := 62) hC dX1_partOf_11 rfl (by decide) (by decide) (by decide) rfl (by decide) ?_
      refine g_aload_n (pc' := 63) (j := 0) hC dX1_partOf_62 rfl rfl rfl ?_
      refine gf_X1_2 (pc' := 66) (b := b) hC (by omega : b < 8) wF_X1_18 dX1_partOf_63 rfl ?_
      refine g_iload_n (pc' := 67) (j := 1) hC dX1_partOf_66 rfl rfl rfl ?_
      refine a_ld (pc' := 68) (k := 34 + 7 * b + 3) (i := n) hC (by have := (by omega : b < 8); show _ < 228; omega) (ct_ba g σ (by omega : b < 8) (by decide) (by decide)) (by omega) (by decide) dX1_partOf_67 rfl ?_
      refine g_ret hC dX1_partOf_68 rfl ?_
      exact ⟨by unfold cpt; rw [cI_f t11_0, cI_f t11_1, cI_t t11_2], rfl⟩
    by_cases t11_3 : w = nI 3
    · skip
      refine gg_topi t11_3 ?_
      refine n_tswIn (tgt := 69) hC dX1_partOf_11 rfl (by decide) (by decide) (by decide) rfl (by decide) ?_
      refine g_aload_n (pc' := 70) (j := 0) hC dX1_partOf_69 rfl rfl rfl ?_
      refine gf_X1_3 (pc' := 73) (b := b) hC (by omega : b < 8) wF_X1_21 dX1_partOf_70 rfl ?_
      refine g_iload_n (pc' := 74) (j := 1) hC dX1_partOf_73 rfl rfl rfl ?_
      refine a_ld (pc' := 75) (k := 34 + 7 * b + 4) (i := n) hC (by have := (by omega : b < 8); show _ < 228; omega) (ct_ba g σ (by omega : b < 8) (by decide) (by decide)) (by omega) (by decide) dX1_partOf_74 rfl ?_
      refine g_ret hC dX1_partOf_75 rfl ?_
      exact ⟨by unfold cpt; rw [cI_f t11_0, cI_f t11_1, cI_f t11_2, cI_t t11_3], rfl⟩
    by_cases t11_4 : w = nI 4
    · skip
      refine gg_topi t11_4 ?_
      refine n_tswIn (tgt := 76) hC dX1_partOf_11 rfl (by decide) (by decide) (by decide) rfl (by decide) ?_
      refine g_aload_n (pc' := 77) (j := 0) hC dX1_partOf_76 rfl rfl rfl ?_
      refine gf_X1_5 (pc' := 80) (b := b) hC (by omega : b < 8) wF_X1_27 dX1_partOf_77 rfl ?_
      refine g_iload_n (pc' := 81) (j := 1) hC dX1_partOf_80 rfl rfl rfl ?_
      refine a_ld (pc' := 82) (k := 34 + 7 * b + 6) (i := n) hC (by have := (by omega : b < 8); show _ < 228; omega) (ct_ba g σ (by omega : b < 8) (by decide) (by decide)) (by omega) (by decide) dX1_partOf_81 rfl ?_
      refine g_ret hC dX1_partOf_82 rfl ?_
      exact ⟨by unfold cpt; rw [cI_f t11_0, cI_f t11_1, cI_f t11_2, cI_f t11_3, cI_t t11_4], rfl⟩
    by_cases t11_5 : w = nI 5
    · skip
      refine gg_topi t11_5 ?_
      refine n_tswIn (tgt := 83) hC dX1_partOf_11 rfl (by decide) (by decide) (by decide) rfl (by decide) ?_
      refine g_aload_n (pc' := 84) (j := 0) hC dX1_partOf_83 rfl rfl rfl ?_
      refine gf_X1_4 (pc' := 87) (b := b) hC (by omega : b < 8) wF_X1_24 dX1_partOf_84 rfl ?_
      refine g_iload_n (pc' := 88) (j := 1) hC dX1_partOf_87 rfl rfl rfl ?_
      refine a_ld (pc' := 89) (k := 34 + 7 * b + 5) (i := n) hC (by have := (by omega : b < 8); show _ < 228; omega) (ct_ba g σ (by omega : b < 8) (by decide) (by decide)) (by omega) (by decide) dX1_partOf_88 rfl ?_
      refine g_ret hC dX1_partOf_89 rfl ?_
      exact ⟨by unfold cpt; rw [cI_f t11_0, cI_f t11_1, cI_f t11_2, cI_f t11_3, cI_f t11_4, cI_t t11_5], rfl⟩
    refine g_tswOut (tgt := 90) hC dX1_partOf_11 (tsw_out 5 (by decide) (by intro j hj; rcases (show j = 0 ∨ j = 1 ∨ j = 2 ∨ j = 3 ∨ j = 4 ∨ j = 5 by omega) with rfl | rfl | rfl | rfl | rfl | rfl <;> assumption)) (by decide) ?_
    refine g_aload_n (pc' := 91) (j := 0) hC dX1_partOf_90 rfl rfl rfl ?_
    refine gf_X1_5 (pc' := 94) (b := b) hC (by omega : b < 8) wF_X1_27 dX1_partOf_91 rfl ?_
    refine g_iload_n (pc' := 95) (j := 1) hC dX1_partOf_94 rfl rfl rfl ?_
    refine a_ld (pc' := 96) (k := 34 + 7 * b + 6) (i := n) hC (by have := (by omega : b < 8); show _ < 228; omega) (ct_ba g σ (by omega : b < 8) (by decide) (by decide)) (by omega) (by decide) dX1_partOf_95 rfl ?_
    refine g_aload_n (pc' := 97) (j := 0) hC dX1_partOf_96 rfl rfl rfl ?_
    refine g_iload_n (pc' := 98) (j := 1) hC dX1_partOf_97 rfl rfl rfl ?_
    refine f_Vi (pc' := 101) (k := 34 + 7 * b) (st := [.int (σ.1 (34 + 7 * b + 6) n)]) hC (c_computedHash x.2.1 g z0 σ b n (by omega) (by first | exact hL | (simp (disch := decide) only [nb, rd_uv, rd_ur, uv_cell, ur_cell]; exact hL) | omega) (by omega) (by first | exact h2 | (simp (disch := decide) only [nb, rd_uv, rd_ur, uv_cell, ur_cell]; exact h2) | omega)) k_X1_computedHash wM_X1_44 (by decide) (by have := (by omega : b < 8); show _ < 228; omega) (ct_br g σ (by omega : b < 8)) rfl rfl rfl rfl (Nat.le_of_ble_eq_true rfl) dX1_partOf_98 rfl (Nat.zero_le _) (Nat.zero_le _) ?_
    refine g_icmp_ne (pc' := 104) (tgt := 108) hC dX1_partOf_101 (by decide) rfl (fun c101 => ?_) (fun c101 => ?_)
    · skip
      refine g_iconst (pc' := 109) (v := nI 0) hC dX1_partOf_108 rfl rfl ?_
      refine g_ret hC dX1_partOf_109 rfl ?_
      exact ⟨by unfold cpt; rw [cI_f t11_0, cI_f t11_1, cI_f t11_2, cI_f t11_3, cI_f t11_4, cI_f t11_5]; exact (bI_f c101).symm, rfl⟩
    · skip
      refine g_iconst (pc' := 105) (v := nI 1) hC dX1_partOf_104 rfl rfl ?_
      refine g_goto (tgt := 109) hC dX1_partOf_105 (by decide) ?_
      refine g_ret hC dX1_partOf_109 rfl ?_
      exact ⟨by unfold cpt; rw [cI_f t11_0, cI_f t11_1, cI_f t11_2, cI_f t11_3, cI_f t11_4, cI_f t11_5]; exact (bI_t c101).symm, rfl⟩
  · skip
    exact absurd hce c5
set_option maxHeartbeats 4000000 in
set_option maxRecDepth 20000 in
theorem c_sharedWith (l : Launch) (g : Lay) (z0 : Nat) (σ : St) (b : Nat) (o : Nat) (hG : GX g) (hb : b < 8) (hL : nb σ (34 + 7 * b) 6 200) (ho : o < 8) (hO : nb σ (34 + 7 * o) 6 200) (h0 : σ.1 (34 + 7 * b + 6) 0 = σ.1 (34 + 7 * o + 6) 0)  : CTi l yX1_sharedWith cX1_sharedWith 2 (some .int) 1 g z0 [.ref (g.2.1 (34 + 7 * b)), .ref (g.2.1 (34 + 7 * o))] σ (FI (nI (csh σ b o)) σ) := by
  refine CTi.of (by decide) (Nat.le_of_ble_eq_true rfl) ?_
  intro x hxl hxa hC
  have hC : Cx x RX1 cX1_sharedWith 2 (some .int) 1 g z0 := hC
  have hL2 := hL.2
  have hO2 := hO.2
  have hk := csh_ok h0
  show GG x g z0 2 0 0 (Qi x g z0 (FI (nI (csh σ b o)) σ)) σ 0 [(0, .ref (g.2.1 (34 + 7 * b))), (1, .ref (g.2.1 (34 + 7 * o)))] []
  refine g_aload_n (pc' := 1) (j := 0) hC dX1_sharedWith_0 rfl rfl rfl ?_
  refine gf_X1_5 (pc' := 4) (b := b) hC (by omega : b < 8) wF_X1_27 dX1_sharedWith_1 rfl ?_
  refine g_aload_n (pc' := 5) (j := 1) hC dX1_sharedWith_4 rfl rfl rfl ?_
  refine gf_X1_5 (pc' := 8) (b := o) hC (by omega : o < 8) wF_X1_27 dX1_sharedWith_5 rfl ?_
  refine g_aload_n (pc' := 9) (j := 0) hC dX1_sharedWith_8 rfl rfl rfl ?_
  refine gf_X1_6 (pc' := 12) (b := b) hC (by omega : b < 8) wF_X1_30 dX1_sharedWith_9 rfl ?_
  refine gg_topi (b := nI (rd σ (34 + 7 * b) 6)) (hL.1) ?_
  refine g_aload_n (pc' := 13) (j := 1) hC dX1_sharedWith_12 rfl rfl rfl ?_
  refine gf_X1_6 (pc' := 16) (b := o) hC (by omega : o < 8) wF_X1_30 dX1_sharedWith_13 rfl ?_
  refine gg_topi (b := nI (rd σ (34 + 7 * o) 6)) (hO.1) ?_
  refine n_min (pc' := 19) (st := [.ref (g.2.1 (34 + 7 * o + 6)), .ref (g.2.1 (34 + 7 * b + 6))]) hC wM_X1_68 (by decide) (by omega) (by omega) (Nat.le_of_ble_eq_true rfl) dX1_sharedWith_16 rfl (Nat.zero_le _) (Nat.zero_le _) ?_
  refine f_Ni (pc' := 22) (st := []) hC (c_firstDifference x.2.1 g z0 σ ((34 + 7 * b + 6)) ((34 + 7 * o + 6)) ((min (rd σ (34 + 7 * b) 6) (rd σ (34 + 7 * o) 6))) (A2_ba g (by omega : b < 8) (by decide) (by decide)) (A2_ba g (by omega : o < 8) (by decide) (by decide)) (by omega)) k_X9_firstDifference (wN_X1_74 hG hC) (by decide) rfl rfl (Nat.le_of_ble_eq_true rfl) dX1_sharedWith_19 rfl (Nat.zero_le _) (Nat.zero_le _) ?_
  refine g_iconst (pc' := 23) (v := nI 1) hC dX1_sharedWith_22 rfl rfl ?_
  refine n_isub (pc' := 24) hC dX1_sharedWith_23 rfl (hk.1) ?_
  refine g_ret hC dX1_sharedWith_24 rfl ?_
  exact ⟨rfl, rfl⟩
set_option maxHeartbeats 4000000 in
set_option maxRecDepth 20000 in
theorem c_blocksOf (l : Launch) (g : Lay) (z0 : Nat) (σ : St) (b : Nat) (k : Int32) (lo : Nat) (hb : b < 8) (hL : nb σ (34 + 7 * b) 6 200) (hlo : lo ≤ rd σ (34 + 7 * b) 6)  : CTi l yX1_blocksOf cX1_blocksOf 5 (some .int) 0 g z0 [.ref (g.2.1 (34 + 7 * b)), .int k, .int (nI lo)] σ (FI (cbs (σ.1 (34 + 7 * b + 1)) (σ.1 (34 + 7 * b + 3)) k lo (rd σ (34 + 7 * b) 6 - lo)) σ) := by
  refine CTi.of (by decide) (Nat.le_of_ble_eq_true rfl) ?_
  intro x hxl hxa hC
  have hC : Cx x RX1 cX1_blocksOf 5 (some .int) 0 g z0 := hC
  have hL2 := hL.2
  show GG x g z0 5 0 0 (Qi x g z0 (FI (cbs (σ.1 (34 + 7 * b + 1)) (σ.1 (34 + 7 * b + 3)) k lo (rd σ (34 + 7 * b) 6 - lo)) σ)) σ 0 [(0, .ref (g.2.1 (34 + 7 * b))), (1, .int k), (2, .int (nI lo))] []
  refine g_iconst (pc' := 1) (v := nI 0) hC dX1_blocksOf_0 rfl rfl ?_
  refine g_istore_n (pc' := 2) (lv' := [(3, .int (nI 0)), (0, .ref (g.2.1 (34 + 7 * b))), (1, .int k), (2, .int (nI lo))]) hC dX1_blocksOf_1 rfl rfl (by decide) rfl ?_
  refine g_iload_n (pc' := 3) (j := 3) hC dX1_blocksOf_2 rfl rfl rfl ?_
  refine g_iconst (pc' := 4) (v := nI 1) hC dX1_blocksOf_3 rfl rfl ?_
  refine n_iadd (pc' := 5) hC dX1_blocksOf_4 rfl ?_
  refine g_istore (pc' := 7) (lv' := [(4, .int (nI (lo + 1))), (3, .int (nI 0)), (0, .ref (g.2.1 (34 + 7 * b))), (1, .int k), (2, .int (nI lo))]) hC dX1_blocksOf_5 rfl (by decide) rfl ?_
  have L7 : ∀ (fu : Nat) (i : Nat) (set : Int32), (lo + i ≤ rd σ (34 + 7 * b) 6) → (set = cbs (σ.1 (34 + 7 * b + 1)) (σ.1 (34 + 7 * b + 3)) k lo i) → (rd σ (34 + 7 * b) 6 - i) < fu → GG x g z0 5 0 0 (Qi x g z0 (FI (cbs (σ.1 (34 + 7 * b + 1)) (σ.1 (34 + 7 * b + 3)) k lo (rd σ (34 + 7 * b) 6 - lo)) σ)) σ 7 [(4, .int (nI (lo + 1 + i))), (3, .int set), (0, .ref (g.2.1 (34 + 7 * b))), (1, .int k), (2, .int (nI lo))] [] := by
    intro fu
    induction fu with
    | zero => intro i set hi hs hz; exact absurd hz (Nat.not_lt_zero _)
    | succ fu ih7 =>
      intro i set hi hs hf
      refine g_iload (pc' := 9) (j := 0) hC dX1_blocksOf_7 rfl rfl ?_
      refine g_aload_n (pc' := 10) (j := 2) hC dX1_blocksOf_9 rfl rfl rfl ?_
      refine gf_X1_6 (pc' := 13) (b := b) hC (by omega : b < 8) wF_X1_30 dX1_blocksOf_10 rfl ?_
      refine gg_topi (b := nI (rd σ (34 + 7 * b) 6)) (hL.1) ?_
      refine n_icmp_gt (pc' := 16) (tgt := 45) hC dX1_blocksOf_13 (by decide) rfl (by omega) (by omega) (fun c13 => ?_) (fun c13 => ?_)
      · skip
        refine g_iload_n (pc' := 46) (j := 1) hC dX1_blocksOf_45 rfl rfl rfl ?_
        refine g_ret hC dX1_blocksOf_46 rfl ?_
        exact ⟨by rw [hs, show rd σ (34 + 7 * b) 6 - lo = i by omega], rfl⟩
      · skip
        refine g_aload_n (pc' := 17) (j := 2) hC dX1_blocksOf_16 rfl rfl rfl ?_
        refine gf_X1_0 (pc' := 20) (b := b) hC (by omega : b < 8) wF_X1_9 dX1_blocksOf_17 rfl ?_
        refine g_iload (pc' := 22) (j := 0) hC dX1_blocksOf_20 rfl rfl ?_
        refine a_ld (pc' := 23) (k := 34 + 7 * b + 1) (i := lo + 1 + i) hC (by have := (by omega : b < 8); show _ < 228; omega) (ct_ba g σ (by omega : b < 8) (by decide) (by decide)) (by omega) (by decide) dX1_blocksOf_22 rfl ?_
        refine g_iload_n (pc' := 24) (j := 3) hC dX1_blocksOf_23 rfl rfl rfl ?_
        refine g_icmp_ne (pc' := 27) (tgt := 39) hC dX1_blocksOf_24 (by decide) rfl (fun c24 => ?_) (fun c24 => ?_)
        · skip
          refine g_iinc (pc' := 42) (j := 0) (u := nI (lo + 1 + i + 1)) (lv' := [(4, .int (nI (lo + 1 + i + 1))), (3, .int set), (0, .ref (g.2.1 (34 + 7 * b))), (1, .int k), (2, .int (nI lo))]) hC dX1_blocksOf_39 rfl rfl (nI_add (lo + 1 + i) 1) (by decide) rfl ?_
          refine g_goto (tgt := 7) hC dX1_blocksOf_42 (by decide) ?_
          refine gg_lv (lv' := [(4, .int (nI (lo + 1 + i + 1))), (3, .int set), (0, .ref (g.2.1 (34 + 7 * b))), (1, .int k), (2, .int (nI lo))]) ?_ [0, 1, 2, 3, 4] rfl
          exact ih7 ((i + 1)) set (by omega) (by first | exact hs ▸ cbs_t c24 | exact hs.trans (cbs_f c24)) (by omega)
        · skip
          refine g_iload_n (pc' := 28) (j := 1) hC dX1_blocksOf_27 rfl rfl rfl ?_
          refine g_iconst (pc' := 29) (v := nI 1) hC dX1_blocksOf_28 rfl rfl ?_
          refine g_aload_n (pc' := 30) (j := 2) hC dX1_blocksOf_29 rfl rfl rfl ?_
          refine gf_X1_2 (pc' := 33) (b := b) hC (by omega : b < 8) wF_X1_18 dX1_blocksOf_30 rfl ?_
          refine g_iload (pc' := 35) (j := 0) hC dX1_blocksOf_33 rfl rfl ?_
          refine a_ld (pc' := 36) (k := 34 + 7 * b + 3) (i := lo + 1 + i) hC (by have := (by omega : b < 8); show _ < 228; omega) (ct_ba g σ (by omega : b < 8) (by decide) (by decide)) (by omega) (by decide) dX1_blocksOf_35 rfl ?_
          refine g_ishl (pc' := 37) hC dX1_blocksOf_36 rfl ?_
          refine g_ior (pc' := 38) hC dX1_blocksOf_37 rfl ?_
          refine g_istore_n (pc' := 39) (lv' := [(3, .int (set ||| ((nI 1) <<< ((σ.1 (34 + 7 * b + 3) (lo + 1 + i)) &&& 31)))), (4, .int (nI (lo + 1 + i))), (0, .ref (g.2.1 (34 + 7 * b))), (1, .int k), (2, .int (nI lo))]) hC dX1_blocksOf_38 rfl rfl (by decide) rfl ?_
          refine g_iinc (pc' := 42) (j := 1) (u := nI (lo + 1 + i + 1)) (lv' := [(4, .int (nI (lo + 1 + i + 1))), (3, .int (set ||| ((nI 1) <<< ((σ.1 (34 + 7 * b + 3) (lo + 1 + i)) &&& 31)))), (0, .ref (g.2.1 (34 + 7 * b))), (1, .int k), (2, .int (nI lo))]) hC dX1_blocksOf_39 rfl rfl (nI_add (lo + 1 + i) 1) (by decide) rfl ?_
          refine g_goto (tgt := 7) hC dX1_blocksOf_42 (by decide) ?_
          refine gg_lv (lv' := [(4, .int (nI (lo + 1 + i + 1))), (3, .int (set ||| ((nI 1) <<< ((σ.1 (34 + 7 * b + 3) (lo + 1 + i)) &&& 31)))), (0, .ref (g.2.1 (34 + 7 * b))), (1, .int k), (2, .int (nI lo))]) ?_ [0, 1, 2, 3, 4] rfl
          exact ih7 ((i + 1)) (set ||| ((nI 1) <<< ((σ.1 (34 + 7 * b + 3) (lo + 1 + i)) &&& 31))) (by omega) (by first | exact hs ▸ cbs_t c24 | exact hs.trans (cbs_f c24)) (by omega)
  refine gg_lv (lv' := [(4, .int (nI (lo + 1))), (3, .int (nI 0)), (0, .ref (g.2.1 (34 + 7 * b))), (1, .int k), (2, .int (nI lo))]) ?_ [0, 1, 2, 3, 4] rfl
  exact L7 (rd σ (34 + 7 * b) 6 - 0 + 1) 0 ((nI 0)) (by omega) (rfl) (by omega)
set_option maxHeartbeats 4000000 in
set_option maxRecDepth 20000 in
theorem c_conflictsWith (l : Launch) (g : Lay) (z0 : Nat) (σ : St) (b : Nat) (o : Nat) (hG : GX g) (hb : b < 8) (hL : nb σ (34 + 7 * b) 6 200) (ho : o < 8) (hO : nb σ (34 + 7 * o) 6 200) (h0 : σ.1 (34 + 7 * b + 6) 0 = σ.1 (34 + 7 * o + 6) 0)  : CTi l yX1_conflictsWith cX1_conflictsWith 7 (some .int) 2 g z0 [.ref (g.2.1 (34 + 7 * b)), .ref (g.2.1 (34 + 7 * o))] σ (FI (ccf σ b o) σ) := by
  refine CTi.of (by decide) (Nat.le_of_ble_eq_true rfl) ?_
  intro x hxl hxa hC
  have hC : Cx x RX1 cX1_conflictsWith 7 (some .int) 2 g z0 := hC
  have hL2 := hL.2
  have hO2 := hO.2
  have hk := csh_ok h0
  show GG x g z0 7 0 0 (Qi x g z0 (FI (ccf σ b o) σ)) σ 0 [(0, .ref (g.2.1 (34 + 7 * b))), (1, .ref (g.2.1 (34 + 7 * o)))] []
  refine g_aload_n (pc' := 1) (j := 0) hC dX1_conflictsWith_0 rfl rfl rfl ?_
  refine g_aload_n (pc' := 2) (j := 1) hC dX1_conflictsWith_1 rfl rfl rfl ?_
  refine f_Vi (pc' := 5) (k := 34 + 7 * b) (st := []) hC (c_sharedWith x.2.1 g z0 σ b o (hG) (by omega) (by first | exact hL | (simp (disch := decide) only [nb, rd_uv, rd_ur, uv_cell, ur_cell]; exact hL) | omega) (by omega) (by first | exact hO | (simp (disch := decide) only [nb, rd_uv, rd_ur, uv_cell, ur_cell]; exact hO) | omega) (by first | exact h0 | (simp (disch := decide) only [nb, rd_uv, rd_ur, uv_cell, ur_cell]; exact h0) | omega)) k_X1_sharedWith wM_X1_78 (by decide) (by have := (by omega : b < 8); show _ < 228; omega) (ct_br g σ (by omega : b < 8)) rfl rfl rfl rfl (Nat.le_of_ble_eq_true rfl) dX1_conflictsWith_2 rfl (Nat.zero_le _) (Nat.zero_le _) ?_
  refine g_istore_n (pc' := 6) (lv' := [(2, .int (nI (csh σ b o))), (0, .ref (g.2.1 (34 + 7 * b))), (1, .ref (g.2.1 (34 + 7 * o)))]) hC dX1_conflictsWith_5 rfl rfl (by decide) rfl ?_
  refine g_aload_n (pc' := 7) (j := 1) hC dX1_conflictsWith_6 rfl rfl rfl ?_
  refine g_iconst (pc' := 8) (v := nI 1) hC dX1_conflictsWith_7 rfl rfl ?_
  refine g_iload_n (pc' := 9) (j := 0) hC dX1_conflictsWith_8 rfl rfl rfl ?_
  refine f_Vi (pc' := 12) (k := 34 + 7 * b) (st := []) hC (c_blocksOf x.2.1 g z0 σ b ((nI 1)) ((csh σ b o)) (by omega) (by first | exact hL | (simp (disch := decide) only [nb, rd_uv, rd_ur, uv_cell, ur_cell]; exact hL) | omega) (hk.2.1)) k_X1_blocksOf wM_X1_82 (by decide) (by have := (by omega : b < 8); show _ < 228; omega) (ct_br g σ (by omega : b < 8)) rfl rfl rfl rfl (Nat.le_of_ble_eq_true rfl) dX1_conflictsWith_9 rfl (Nat.zero_le _) (Nat.zero_le _) ?_
  refine g_istore_n (pc' := 13) (lv' := [(3, .int (cbs (σ.1 (34 + 7 * b + 1)) (σ.1 (34 + 7 * b + 3)) (nI 1) (csh σ b o) (rd σ (34 + 7 * b) 6 - (csh σ b o)))), (2, .int (nI (csh σ b o))), (0, .ref (g.2.1 (34 + 7 * b))), (1, .ref (g.2.1 (34 + 7 * o)))]) hC dX1_conflictsWith_12 rfl rfl (by decide) rfl ?_
  refine g_aload_n (pc' := 14) (j := 3) hC dX1_conflictsWith_13 rfl rfl rfl ?_
  refine g_iconst (pc' := 15) (v := nI 1) hC dX1_conflictsWith_14 rfl rfl ?_
  refine g_iload_n (pc' := 16) (j := 1) hC dX1_conflictsWith_15 rfl rfl rfl ?_
  refine f_Vi (pc' := 19) (k := 34 + 7 * o) (st := []) hC (c_blocksOf x.2.1 g z0 σ o ((nI 1)) ((csh σ b o)) (ho) (hO) (hk.2.2)) k_X1_blocksOf wM_X1_82 (by decide) (by have := (by omega : o < 8); show _ < 228; omega) (ct_br g σ (by omega : o < 8)) rfl rfl rfl rfl (Nat.le_of_ble_eq_true rfl) dX1_conflictsWith_16 rfl (Nat.zero_le _) (Nat.zero_le _) ?_
  refine g_istore (pc' := 21) (lv' := [(4, .int (cbs (σ.1 (34 + 7 * o + 1)) (σ.1 (34 + 7 * o + 3)) (nI 1) (csh σ b o) (rd σ (34 + 7 * o) 6 - (csh σ b o)))), (3, .int (cbs (σ.1 (34 + 7 * b + 1)) (σ.1 (34 + 7 * b + 3)) (nI 1) (csh σ b o) (rd σ (34 + 7 * b) 6 - (csh σ b o)))), (2, .int (nI (csh σ b o))), (0, .ref (g.2.1 (34 + 7 * b))), (1, .ref (g.2.1 (34 + 7 * o)))]) hC dX1_conflictsWith_19 rfl (by decide) rfl ?_
  refine g_iload_n (pc' := 22) (j := 1) hC dX1_conflictsWith_21 rfl rfl rfl ?_
  refine g_aload_n (pc' := 23) (j := 3) hC dX1_conflictsWith_22 rfl rfl rfl ?_
  refine g_iconst (pc' := 24) (v := nI 0) hC dX1_conflictsWith_23 rfl rfl ?_
  refine g_iload_n (pc' := 25) (j := 2) hC dX1_conflictsWith_24 rfl rfl rfl ?_
  refine f_Vi (pc' := 28) (k := 34 + 7 * b) (st := [.int (cbs (σ.1 (34 + 7 * b + 1)) (σ.1 (34 + 7 * b + 3)) (nI 1) (csh σ b o) (rd σ (34 + 7 * b) 6 - (csh σ b o)))]) hC (c_blocksOf x.2.1 g z0 σ b ((nI 0)) ((csh σ b o)) (by omega) (by first | exact hL | (simp (disch := decide) only [nb, rd_uv, rd_ur, uv_cell, ur_cell]; exact hL) | omega) (hk.2.1)) k_X1_blocksOf wM_X1_82 (by decide) (by have := (by omega : b < 8); show _ < 228; omega) (ct_br g σ (by omega : b < 8)) rfl rfl rfl rfl (Nat.le_of_ble_eq_true rfl) dX1_conflictsWith_25 rfl (Nat.zero_le _) (Nat.zero_le _) ?_
  refine g_ior (pc' := 29) hC dX1_conflictsWith_28 rfl ?_
  refine g_istore (pc' := 31) (lv' := [(5, .int ((cbs (σ.1 (34 + 7 * b + 1)) (σ.1 (34 + 7 * b + 3)) (nI 1) (csh σ b o) (rd σ (34 + 7 * b) 6 - (csh σ b o))) ||| (cbs (σ.1 (34 + 7 * b + 1)) (σ.1 (34 + 7 * b + 3)) (nI 0) (csh σ b o) (rd σ (34 + 7 * b) 6 - (csh σ b o))))), (4, .int (cbs (σ.1 (34 + 7 * o + 1)) (σ.1 (34 + 7 * o + 3)) (nI 1) (csh σ b o) (rd σ (34 + 7 * o) 6 - (csh σ b o)))), (3, .int (cbs (σ.1 (34 + 7 * b + 1)) (σ.1 (34 + 7 * b + 3)) (nI 1) (csh σ b o) (rd σ (34 + 7 * b) 6 - (csh σ b o)))), (2, .int (nI (csh σ b o))), (0, .ref (g.2.1 (34 + 7 * b))), (1, .ref (g.2.1 (34 + 7 * o)))]) hC dX1_conflictsWith_29 rfl (by decide) rfl ?_
  refine g_iload (pc' := 33) (j := 1) hC dX1_conflictsWith_31 rfl rfl ?_
  refine g_aload_n (pc' := 34) (j := 5) hC dX1_conflictsWith_33 rfl rfl rfl ?_
  refine g_iconst (pc' := 35) (v := nI 0) hC dX1_conflictsWith_34 rfl rfl ?_
  refine g_iload_n (pc' := 36) (j := 3) hC dX1_conflictsWith_35 rfl rfl rfl ?_
  refine f_Vi (pc' := 39) (k := 34 + 7 * o) (st := [.int (cbs (σ.1 (34 + 7 * o + 1)) (σ.1 (34 + 7 * o + 3)) (nI 1) (csh σ b o) (rd σ (34 + 7 * o) 6 - (csh σ b o)))]) hC (c_blocksOf x.2.1 g z0 σ o ((nI 0)) ((csh σ b o)) (ho) (hO) (hk.2.2)) k_X1_blocksOf wM_X1_82 (by decide) (by have := (by omega : o < 8); show _ < 228; omega) (ct_br g σ (by omega : o < 8)) rfl rfl rfl rfl (Nat.le_of_ble_eq_true rfl) dX1_conflictsWith_36 rfl (Nat.zero_le _) (Nat.zero_le _) ?_
  refine g_ior (pc' := 40) hC dX1_conflictsWith_39 rfl ?_
  refine g_istore (pc' := 42) (lv' := [(6, .int ((cbs (σ.1 (34 + 7 * o + 1)) (σ.1 (34 + 7 * o + 3)) (nI 1) (csh σ b o) (rd σ (34 + 7 * o) 6 - (csh σ b o))) ||| (cbs (σ.1 (34 + 7 * o + 1)) (σ.1 (34 + 7 * o + 3)) (nI 0) (csh σ b o) (rd σ (34 + 7 * o) 6 - (csh σ b o))))), (5, .int ((cbs (σ.1 (34 + 7 * b + 1)) (σ.1 (34 + 7 * b + 3)) (nI 1) (csh σ b o) (rd σ (34 + 7 * b) 6 - (csh σ b o))) ||| (cbs (σ.1 (34 + 7 * b + 1)) (σ.1 (34 + 7 * b + 3)) (nI 0) (csh σ b o) (rd σ (34 + 7 * b) 6 - (csh σ b o))))), (4, .int (cbs (σ.1 (34 + 7 * o + 1)) (σ.1 (34 + 7 * o + 3)) (nI 1) (csh σ b o) (rd σ (34 + 7 * o) 6 - (csh σ b o)))), (3, .int (cbs (σ.1 (34 + 7 * b + 1)) (σ.1 (34 + 7 * b + 3)) (nI 1) (csh σ b o) (rd σ (34 + 7 * b) 6 - (csh σ b o)))), (2, .int (nI (csh σ b o))), (0, .ref (g.2.1 (34 + 7 * b))), (1, .ref (g.2.1 (34 + 7 * o)))]) hC dX1_conflictsWith_40 rfl (by decide) rfl ?_
  refine g_iload_n (pc' := 43) (j := 3) hC dX1_conflictsWith_42 rfl rfl rfl ?_
  refine g_iload (pc' := 45) (j := 0) hC dX1_conflictsWith_43 rfl rfl ?_
  refine g_iand (pc' := 46) hC dX1_conflictsWith_45 rfl ?_
  refine g_iload (pc' := 48) (j := 2) hC dX1_conflictsWith_46 rfl rfl ?_
  refine g_iload (pc' := 50) (j := 1) hC dX1_conflictsWith_48 rfl rfl ?_
  refine g_iand (pc' := 51) hC dX1_conflictsWith_50 rfl ?_
  refine g_ior (pc' := 52) hC dX1_conflictsWith_51 rfl ?_
  refine g_ret hC dX1_conflictsWith_52 rfl ?_
  exact ⟨rfl, rfl⟩
