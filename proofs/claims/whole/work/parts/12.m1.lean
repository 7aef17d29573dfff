set_option maxHeartbeats 4000000 in
set_option maxRecDepth 20000 in
theorem m_in (l : Launch) (g : Lay) (z0 : Nat) (σ : St) (v : Int32) (lo : Int32) (hi : Int32)   : CTi l yX10_in cX10_in 3 (some .boolean) 0 g z0 [.int v, .int lo, .int hi] σ (FI (bI (lo ≤ v ∧ v ≤ hi)) σ) := by
  refine CTi.of (by decide) (Nat.le_of_ble_eq_true rfl) ?_
  intro x hxl hxa hC
  have hC : Cx x RX10 cX10_in 3 (some .boolean) 0 g z0 := hC
  show GG x g z0 3 0 0 (Qi x g z0 (FI (bI (lo ≤ v ∧ v ≤ hi)) σ)) σ 0 [(0, .int v), (1, .int lo), (2, .int hi)] []
  refine g_iload_n (pc' := 1) (j := 0) hC dX10_in_0 rfl rfl rfl ?_
  refine g_iload_n (pc' := 2) (j := 1) hC dX10_in_1 rfl rfl rfl ?_
  refine g_icmp_lt (pc' := 5) (tgt := 14) hC dX10_in_2 (by decide) rfl (fun c2 => ?_) (fun c2 => ?_)
  · skip
    refine g_iconst (pc' := 15) (v := nI 0) hC dX10_in_14 rfl rfl ?_
    refine g_ret hC dX10_in_15 rfl ?_
    refine ⟨?_, rfl⟩; first | exact (bI_t (by simp only [Int32.lt_iff_toInt_lt, Int32.le_iff_toInt_le] at *; omega)).symm | exact (bI_f (by simp only [Int32.lt_iff_toInt_lt, Int32.le_iff_toInt_le] at *; omega)).symm
  · skip
    refine g_iload_n (pc' := 6) (j := 0) hC dX10_in_5 rfl rfl rfl ?_
    refine g_iload_n (pc' := 7) (j := 2) hC dX10_in_6 rfl rfl rfl ?_
    refine g_icmp_gt (pc' := 10) (tgt := 14) hC dX10_in_7 (by decide) rfl (fun c7 => ?_) (fun c7 => ?_)
    · skip
      refine g_iconst (pc' := 15) (v := nI 0) hC dX10_in_14 rfl rfl ?_
      refine g_ret hC dX10_in_15 rfl ?_
      refine ⟨?_, rfl⟩; first | exact (bI_t (by simp only [Int32.lt_iff_toInt_lt, Int32.le_iff_toInt_le] at *; omega)).symm | exact (bI_f (by simp only [Int32.lt_iff_toInt_lt, Int32.le_iff_toInt_le] at *; omega)).symm
    · skip
      refine g_iconst (pc' := 11) (v := nI 1) hC dX10_in_10 rfl rfl ?_
      refine g_goto (tgt := 15) hC dX10_in_11 (by decide) ?_
      refine g_ret hC dX10_in_15 rfl ?_
      refine ⟨?_, rfl⟩; first | exact (bI_t (by simp only [Int32.lt_iff_toInt_lt, Int32.le_iff_toInt_le] at *; omega)).symm | exact (bI_f (by simp only [Int32.lt_iff_toInt_lt, Int32.le_iff_toInt_le] at *; omega)).symm
set_option maxHeartbeats 4000000 in
set_option maxRecDepth 20000 in
theorem m_thrown (l : Launch) (g : Lay) (z0 : Nat) (σ : St)    : CTi l yX10_thrown cX10_thrown 1 (some .int) 0 g z0 [.ref (g.2.1 15)] σ (FI (σ.1 15 0) σ) := by
  refine CTi.of (by decide) (Nat.le_of_ble_eq_true rfl) ?_
  intro x hxl hxa hC
  have hC : Cx x RX10 cX10_thrown 1 (some .int) 0 g z0 := hC
  show GG x g z0 1 0 0 (Qi x g z0 (FI (σ.1 15 0) σ)) σ 0 [(0, .ref (g.2.1 15))] []
  refine g_aload_n (pc' := 1) (j := 0) hC dX10_thrown_0 rfl rfl rfl ?_
  refine gf_X10_0 (pc' := 4) hC wF_X10_66 dX10_thrown_1 rfl ?_
  refine g_ret hC dX10_thrown_4 rfl ?_
  exact ⟨rfl, rfl⟩
set_option maxHeartbeats 4000000 in
set_option maxRecDepth 20000 in
theorem m_refuse (l : Launch) (g : Lay) (z0 : Nat) (σ : St) (w : Int32)   : CTi l yX10_refuse cX10_refuse 2 (some .int) 0 g z0 [.ref (g.2.1 15), .int w] σ (FI (nI 0) (uv σ 15 0 w)) := by
  refine CTi.of (by decide) (Nat.le_of_ble_eq_true rfl) ?_
  intro x hxl hxa hC
  have hC : Cx x RX10 cX10_refuse 2 (some .int) 0 g z0 := hC
  show GG x g z0 2 0 0 (Qi x g z0 (FI (nI 0) (uv σ 15 0 w))) σ 0 [(0, .ref (g.2.1 15)), (1, .int w)] []
  refine g_aload_n (pc' := 1) (j := 0) hC dX10_refuse_0 rfl rfl rfl ?_
  refine g_iload_n (pc' := 2) (j := 1) hC dX10_refuse_1 rfl rfl rfl ?_
  refine pf_X10_0 (pc' := 5) hC wF_X10_66 dX10_refuse_2 rfl ?_
  refine g_iconst (pc' := 6) (v := nI 0) hC dX10_refuse_5 rfl rfl ?_
  refine g_ret hC dX10_refuse_6 rfl ?_
  exact ⟨rfl, rfl⟩
set_option maxHeartbeats 4000000 in
set_option maxRecDepth 20000 in
theorem m_told (l : Launch) (g : Lay) (z0 : Nat) (σ : St) (v : Int32)   : CTi l yX10_told cX10_told 2 (some .int) 0 g z0 [.ref (g.2.1 15), .int v] σ (FI v (uv σ 15 0 (nI 0))) := by
  refine CTi.of (by decide) (Nat.le_of_ble_eq_true rfl) ?_
  intro x hxl hxa hC
  have hC : Cx x RX10 cX10_told 2 (some .int) 0 g z0 := hC
  show GG x g z0 2 0 0 (Qi x g z0 (FI v (uv σ 15 0 (nI 0)))) σ 0 [(0, .ref (g.2.1 15)), (1, .int v)] []
  refine g_aload_n (pc' := 1) (j := 0) hC dX10_told_0 rfl rfl rfl ?_
  refine g_iconst (pc' := 2) (v := nI 0) hC dX10_told_1 rfl rfl ?_
  refine pf_X10_0 (pc' := 5) hC wF_X10_66 dX10_told_2 rfl ?_
  refine g_iload_n (pc' := 6) (j := 1) hC dX10_told_5 rfl rfl rfl ?_
  refine g_ret hC dX10_told_6 rfl ?_
  exact ⟨rfl, rfl⟩
set_option maxHeartbeats 4000000 in
set_option maxRecDepth 20000 in
theorem m_at (l : Launch) (g : Lay) (z0 : Nat) (σ : St) (b : Nat) (n : Nat) (hn : 1 ≤ n)  : CTi l yX10_at cX10_at 2 (some .int) 0 g z0 [.int (nI b), .int (nI n)] σ (FI (nI (200 * b + n - 1)) σ) := by
  refine CTi.of (by decide) (Nat.le_of_ble_eq_true rfl) ?_
  intro x hxl hxa hC
  have hC : Cx x RX10 cX10_at 2 (some .int) 0 g z0 := hC
  show GG x g z0 2 0 0 (Qi x g z0 (FI (nI (200 * b + n - 1)) σ)) σ 0 [(0, .int (nI b)), (1, .int (nI n))] []
  refine g_sipush (pc' := 3) (v := nI 200) hC dX10_at_0 rfl rfl ?_
  refine g_iload_n (pc' := 4) (j := 0) hC dX10_at_3 rfl rfl rfl ?_
  refine n_imul (pc' := 5) hC dX10_at_4 rfl ?_
  refine g_iload_n (pc' := 6) (j := 1) hC dX10_at_5 rfl rfl rfl ?_
  refine n_iadd (pc' := 7) hC dX10_at_6 rfl ?_
  refine g_iconst (pc' := 8) (v := nI 1) hC dX10_at_7 rfl rfl ?_
  refine n_isub (pc' := 9) hC dX10_at_8 rfl (by omega) ?_
  refine g_ret hC dX10_at_9 rfl ?_
  exact ⟨rfl, rfl⟩
set_option maxHeartbeats 4000000 in
set_option maxRecDepth 20000 in
theorem m_isClient (l : Launch) (g : Lay) (z0 : Nat) (σ : St) (c : Int32)   : CTi l yX10_isClient cX10_isClient 2 (some .boolean) 1 g z0 [.ref (g.2.1 15), .int c] σ (FI (bI (vlt (σ.1 15 1) c)) σ) := by
  refine CTi.of (by decide) (Nat.le_of_ble_eq_true rfl) ?_
  intro x hxl hxa hC
  have hC : Cx x RX10 cX10_isClient 2 (some .boolean) 1 g z0 := hC
  show GG x g z0 2 0 0 (Qi x g z0 (FI (bI (vlt (σ.1 15 1) c)) σ)) σ 0 [(0, .ref (g.2.1 15)), (1, .int c)] []
  refine g_iload_n (pc' := 1) (j := 1) hC dX10_isClient_0 rfl rfl rfl ?_
  refine g_iconst (pc' := 2) (v := nI 0) hC dX10_isClient_1 rfl rfl ?_
  refine g_aload_n (pc' := 3) (j := 0) hC dX10_isClient_2 rfl rfl rfl ?_
  refine gf_X10_1 (pc' := 6) hC wF_X10_69 dX10_isClient_3 rfl ?_
  refine g_iconst (pc' := 7) (v := nI 1) hC dX10_isClient_6 rfl rfl ?_
  refine g_isub (pc' := 8) hC dX10_isClient_7 rfl ?_
  refine f_Si (pc' := 11) (st := []) hC (m_in x.2.1 g z0 σ c ((nI 0)) (((σ.1 15 1) - (nI 1)))) k_X10_in wM_X10_72 (by decide) rfl rfl (Nat.le_of_ble_eq_true rfl) dX10_isClient_8 rfl (Nat.zero_le _) (Nat.zero_le _) ?_
  refine g_ret hC dX10_isClient_11 (bI_nar _) ?_
  exact ⟨rfl, rfl⟩
set_option maxHeartbeats 4000000 in
set_option maxRecDepth 20000 in
theorem m_isBlock (l : Launch) (g : Lay) (z0 : Nat) (σ : St) (c : Int32)   : CTi l yX10_isBlock cX10_isBlock 2 (some .boolean) 1 g z0 [.ref (g.2.1 15), .int c] σ (FI (bI (vlt (σ.1 15 2) c)) σ) := by
  refine CTi.of (by decide) (Nat.le_of_ble_eq_true rfl) ?_
  intro x hxl hxa hC
  have hC : Cx x RX10 cX10_isBlock 2 (some .boolean) 1 g z0 := hC
  show GG x g z0 2 0 0 (Qi x g z0 (FI (bI (vlt (σ.1 15 2) c)) σ)) σ 0 [(0, .ref (g.2.1 15)), (1, .int c)] []
  refine g_iload_n (pc' := 1) (j := 1) hC dX10_isBlock_0 rfl rfl rfl ?_
  refine g_iconst (pc' := 2) (v := nI 0) hC dX10_isBlock_1 rfl rfl ?_
  refine g_aload_n (pc' := 3) (j := 0) hC dX10_isBlock_2 rfl rfl rfl ?_
  refine gf_X10_2 (pc' := 6) hC wF_X10_76 dX10_isBlock_3 rfl ?_
  refine g_iconst (pc' := 7) (v := nI 1) hC dX10_isBlock_6 rfl rfl ?_
  refine g_isub (pc' := 8) hC dX10_isBlock_7 rfl ?_
  refine f_Si (pc' := 11) (st := []) hC (m_in x.2.1 g z0 σ c ((nI 0)) (((σ.1 15 2) - (nI 1)))) k_X10_in wM_X10_72 (by decide) rfl rfl (Nat.le_of_ble_eq_true rfl) dX10_isBlock_8 rfl (Nat.zero_le _) (Nat.zero_le _) ?_
  refine g_ret hC dX10_isBlock_11 (bI_nar _) ?_
  exact ⟨rfl, rfl⟩
set_option maxHeartbeats 4000000 in
set_option maxRecDepth 20000 in
theorem m_isBranch (l : Launch) (g : Lay) (z0 : Nat) (σ : St) (c : Int32)   : CTi l yX10_isBranch cX10_isBranch 2 (some .boolean) 1 g z0 [.ref (g.2.1 15), .int c] σ (FI (bI (vlt (σ.1 15 4) c)) σ) := by
  refine CTi.of (by decide) (Nat.le_of_ble_eq_true rfl) ?_
  intro x hxl hxa hC
  have hC : Cx x RX10 cX10_isBranch 2 (some .boolean) 1 g z0 := hC
  show GG x g z0 2 0 0 (Qi x g z0 (FI (bI (vlt (σ.1 15 4) c)) σ)) σ 0 [(0, .ref (g.2.1 15)), (1, .int c)] []
  refine g_iload_n (pc' := 1) (j := 1) hC dX10_isBranch_0 rfl rfl rfl ?_
  refine g_iconst (pc' := 2) (v := nI 0) hC dX10_isBranch_1 rfl rfl ?_
  refine g_aload_n (pc' := 3) (j := 0) hC dX10_isBranch_2 rfl rfl rfl ?_
  refine gf_X10_4 (pc' := 6) hC wF_X10_79 dX10_isBranch_3 rfl ?_
  refine g_iconst (pc' := 7) (v := nI 1) hC dX10_isBranch_6 rfl rfl ?_
  refine g_isub (pc' := 8) hC dX10_isBranch_7 rfl ?_
  refine f_Si (pc' := 11) (st := []) hC (m_in x.2.1 g z0 σ c ((nI 0)) (((σ.1 15 4) - (nI 1)))) k_X10_in wM_X10_72 (by decide) rfl rfl (Nat.le_of_ble_eq_true rfl) dX10_isBranch_8 rfl (Nat.zero_le _) (Nat.zero_le _) ?_
  refine g_ret hC dX10_isBranch_11 (bI_nar _) ?_
  exact ⟨rfl, rfl⟩
set_option maxHeartbeats 4000000 in
set_option maxRecDepth 20000 in
theorem m_hashOf (l : Launch) (g : Lay) (z0 : Nat) (σ : St) (b : Nat) (n : Nat) (hb : b < 8) (hn : n ≤ 200)  : CTi l yX10_hashOf cX10_hashOf 3 (some .int) 1 g z0 [.ref (g.2.1 15), .int (nI b), .int (nI n)] σ (FI (mh σ b n) σ) := by
  refine CTi.of (by decide) (Nat.le_of_ble_eq_true rfl) ?_
  intro x hxl hxa hC
  have hC : Cx x RX10 cX10_hashOf 3 (some .int) 1 g z0 := hC
  show GG x g z0 3 0 0 (Qi x g z0 (FI (mh σ b n) σ)) σ 0 [(0, .ref (g.2.1 15)), (1, .int (nI b)), (2, .int (nI n))] []
  refine g_iload_n (pc' := 1) (j := 2) hC dX10_hashOf_0 rfl rfl rfl ?_
  refine n_if_ne (pc' := 4) (tgt := 8) hC dX10_hashOf_1 (by decide) rfl (by omega) (fun c1 => ?_) (fun c1 => ?_)
  · skip
    refine g_aload_n (pc' := 9) (j := 0) hC dX10_hashOf_8 rfl rfl rfl ?_
    refine gf_X10_12 (pc' := 12) hC wF_X10_28 dX10_hashOf_9 rfl ?_
    refine g_iload_n (pc' := 13) (j := 1) hC dX10_hashOf_12 rfl rfl rfl ?_
    refine g_iload_n (pc' := 14) (j := 2) hC dX10_hashOf_13 rfl rfl rfl ?_
    refine f_Si (pc' := 17) (st := [.ref (g.2.1 22)]) hC (m_at x.2.1 g z0 σ b n (by omega)) k_X10_at wM_X10_86 (by decide) rfl rfl (Nat.le_of_ble_eq_true rfl) dX10_hashOf_14 rfl (Nat.zero_le _) (Nat.zero_le _) ?_
    refine a_ld (pc' := 18) (k := 22) (i := 200 * b + n - 1) hC (by decide) (ct_22 g σ) (by omega) (by decide) dX10_hashOf_17 rfl ?_
    refine g_ret hC dX10_hashOf_18 rfl ?_
    exact ⟨by simp [mh, *], rfl⟩
  · skip
    refine g_iconst (pc' := 5) (v := nI 1) hC dX10_hashOf_4 rfl rfl ?_
    refine g_goto (tgt := 18) hC dX10_hashOf_5 (by decide) ?_
    refine g_ret hC dX10_hashOf_18 rfl ?_
    exact ⟨by simp [mh, *], rfl⟩
set_option maxHeartbeats 4000000 in
set_option maxRecDepth 20000 in
theorem m_hashIn (l : Launch) (g : Lay) (z0 : Nat) (σ : St) (c : Nat) (n : Nat) (hc : c < 6) (hn : n ≤ 200)  : CTi l yX10_hashIn cX10_hashIn 3 (some .int) 0 g z0 [.ref (g.2.1 15), .int (nI c), .int (nI n)] σ (FI (σ.1 27 (201 * c + n)) σ) := by
  refine CTi.of (by decide) (Nat.le_of_ble_eq_true rfl) ?_
  intro x hxl hxa hC
  have hC : Cx x RX10 cX10_hashIn 3 (some .int) 0 g z0 := hC
  show GG x g z0 3 0 0 (Qi x g z0 (FI (σ.1 27 (201 * c + n)) σ)) σ 0 [(0, .ref (g.2.1 15)), (1, .int (nI c)), (2, .int (nI n))] []
  refine g_aload_n (pc' := 1) (j := 0) hC dX10_hashIn_0 rfl rfl rfl ?_
  refine gf_X10_17 (pc' := 4) hC wF_X10_43 dX10_hashIn_1 rfl ?_
  refine g_sipush (pc' := 7) (v := nI 201) hC dX10_hashIn_4 rfl rfl ?_
  refine g_iload_n (pc' := 8) (j := 1) hC dX10_hashIn_7 rfl rfl rfl ?_
  refine n_imul (pc' := 9) hC dX10_hashIn_8 rfl ?_
  refine g_iload_n (pc' := 10) (j := 2) hC dX10_hashIn_9 rfl rfl rfl ?_
  refine n_iadd (pc' := 11) hC dX10_hashIn_10 rfl ?_
  refine a_ld (pc' := 12) (k := 27) (i := (201 * c) + n) hC (by decide) (ct_27 g σ) (by omega) (by decide) dX10_hashIn_11 rfl ?_
  refine g_ret hC dX10_hashIn_12 rfl ?_
  exact ⟨rfl, rfl⟩
set_option maxHeartbeats 4000000 in
set_option maxRecDepth 20000 in
theorem m_ownHash (l : Launch) (g : Lay) (z0 : Nat) (σ : St) (c : Nat) (hc : c < 6) (hp : nb σ 24 c 200)  : CTi l yX10_ownHash cX10_ownHash 2 (some .int) 1 g z0 [.ref (g.2.1 15), .int (nI c)] σ (FI (σ.1 27 (201 * c + rd σ 24 c)) σ) := by
  refine CTi.of (by decide) (Nat.le_of_ble_eq_true rfl) ?_
  intro x hxl hxa hC
  have hC : Cx x RX10 cX10_ownHash 2 (some .int) 1 g z0 := hC
  have hp2 := hp.2
  show GG x g z0 2 0 0 (Qi x g z0 (FI (σ.1 27 (201 * c + rd σ 24 c)) σ)) σ 0 [(0, .ref (g.2.1 15)), (1, .int (nI c))] []
  refine g_aload_n (pc' := 1) (j := 0) hC dX10_ownHash_0 rfl rfl rfl ?_
  refine g_iload_n (pc' := 2) (j := 1) hC dX10_ownHash_1 rfl rfl rfl ?_
  refine g_aload_n (pc' := 3) (j := 0) hC dX10_ownHash_2 rfl rfl rfl ?_
  refine gf_X10_14 (pc' := 6) hC wF_X10_34 dX10_ownHash_3 rfl ?_
  refine g_iload_n (pc' := 7) (j := 1) hC dX10_ownHash_6 rfl rfl rfl ?_
  refine a_ld (pc' := 8) (k := 24) (i := c) hC (by decide) (ct_24 g σ) (by omega) (by decide) dX10_ownHash_7 rfl ?_
  refine gg_topi (b := nI (rd σ 24 c)) (hp.1) ?_
  refine f_Vi (pc' := 11) (k := 15) (st := []) hC (m_hashIn x.2.1 g z0 σ c ((rd σ 24 c)) (by omega) (by omega)) k_X10_hashIn wM_X10_90 (by decide) (by decide) (ct_15 g σ) rfl rfl rfl rfl (Nat.le_of_ble_eq_true rfl) dX10_ownHash_8 rfl (Nat.zero_le _) (Nat.zero_le _) ?_
  refine g_ret hC dX10_ownHash_11 rfl ?_
  exact ⟨rfl, rfl⟩
set_option maxHeartbeats 4000000 in
set_option maxRecDepth 20000 in
theorem m_rest (l : Launch) (g : Lay) (z0 : Nat) (σ : St) (v : Int64)   : CTi l yX10_rest cX10_rest 2 (some .int) 0 g z0 [.long v] σ (FI (rs v) σ) := by
  refine CTi.of (by decide) (Nat.le_of_ble_eq_true rfl) ?_
  intro x hxl hxa hC
  have hC : Cx x RX10 cX10_rest 2 (some .int) 0 g z0 := hC
  show GG x g z0 2 0 0 (Qi x g z0 (FI (rs v) σ)) σ 0 [(0, .long v)] []
  refine g_lload_n (pc' := 1) (j := 0) hC dX10_rest_0 rfl rfl rfl ?_
  refine g_ldc2 (pc' := 4) (v := 2147483647) hC wC_X10_93 dX10_rest_1 rfl ?_
  refine g_lrem (pc' := 5) hC dX10_rest_4 rfl (by decide) ?_
  refine g_l2i (pc' := 6) hC dX10_rest_5 rfl ?_
  refine g_ret hC dX10_rest_6 rfl ?_
  exact ⟨rfl, rfl⟩
set_option maxHeartbeats 4000000 in
set_option maxRecDepth 20000 in
theorem m_signature (l : Launch) (g : Lay) (z0 : Nat) (σ : St) (c : Int32) (n : Int32) (t : Int32)   : CTi l yX10_signature cX10_signature 3 (some .int) 1 g z0 [.int c, .int n, .int t] σ (FI (sgn c n t) σ) := by
  refine CTi.of (by decide) (Nat.le_of_ble_eq_true rfl) ?_
  intro x hxl hxa hC
  have hC : Cx x RX10 cX10_signature 3 (some .int) 1 g z0 := hC
  show GG x g z0 3 0 0 (Qi x g z0 (FI (sgn c n t) σ)) σ 0 [(0, .int c), (1, .int n), (2, .int t)] []
  refine g_iload_n (pc' := 1) (j := 2) hC dX10_signature_0 rfl rfl rfl ?_
  refine g_i2l (pc' := 2) hC dX10_signature_1 rfl ?_
  refine g_ldc2 (pc' := 5) (v := 31) hC wC_X10_112 dX10_signature_2 rfl ?_
  refine g_lmul (pc' := 6) hC dX10_signature_5 rfl ?_
  refine g_iload_n (pc' := 7) (j := 1) hC dX10_signature_6 rfl rfl rfl ?_
  refine g_i2l (pc' := 8) hC dX10_signature_7 rfl ?_
  refine g_ldc2 (pc' := 11) (v := 17) hC wC_X10_114 dX10_signature_8 rfl ?_
  refine g_lmul (pc' := 12) hC dX10_signature_11 rfl ?_
  refine g_ladd (pc' := 13) hC dX10_signature_12 rfl ?_
  refine g_iload_n (pc' := 14) (j := 0) hC dX10_signature_13 rfl rfl rfl ?_
  refine g_i2l (pc' := 15) hC dX10_signature_14 rfl ?_
  refine g_ldc2 (pc' := 18) (v := 13) hC wC_X10_116 dX10_signature_15 rfl ?_
  refine g_lmul (pc' := 19) hC dX10_signature_18 rfl ?_
  refine g_ladd (pc' := 20) hC dX10_signature_19 rfl ?_
  refine g_ldc2 (pc' := 23) (v := 12345) hC wC_X10_118 dX10_signature_20 rfl ?_
  refine g_ladd (pc' := 24) hC dX10_signature_23 rfl ?_
  refine f_Si (pc' := 27) (st := []) hC (m_rest x.2.1 g z0 σ (((((t.toInt64 * 31) + (n.toInt64 * 17)) + (c.toInt64 * 13)) + 12345))) k_X10_rest wM_X10_102 (by decide) rfl rfl (Nat.le_of_ble_eq_true rfl) dX10_signature_24 rfl (Nat.zero_le _) (Nat.zero_le _) ?_
  refine g_ret hC dX10_signature_27 rfl ?_
  exact ⟨rfl, rfl⟩
set_option maxHeartbeats 4000000 in
set_option maxRecDepth 20000 in
theorem m_computed (l : Launch) (g : Lay) (z0 : Nat) (σ : St) (b : Nat) (n : Nat) (hb : b < 8) (h1 : 1 ≤ n) (hn : n ≤ 200)  : CTi l yX10_computed cX10_computed 8 (some .int) 2 g z0 [.ref (g.2.1 15), .int (nI b), .int (nI n)] σ (FI (mcomp σ b n) σ) := by
  refine CTi.of (by decide) (Nat.le_of_ble_eq_true rfl) ?_
  intro x hxl hxa hC
  have hC : Cx x RX10 cX10_computed 8 (some .int) 2 g z0 := hC
  show GG x g z0 8 0 0 (Qi x g z0 (FI (mcomp σ b n) σ)) σ 0 [(0, .ref (g.2.1 15)), (1, .int (nI b)), (2, .int (nI n))] []
  refine g_iload_n (pc' := 1) (j := 1) hC dX10_computed_0 rfl rfl rfl ?_
  refine g_iload_n (pc' := 2) (j := 2) hC dX10_computed_1 rfl rfl rfl ?_
  refine f_Si (pc' := 5) (st := []) hC (m_at x.2.1 g z0 σ b n (by omega)) k_X10_at wM_X10_86 (by decide) rfl rfl (Nat.le_of_ble_eq_true rfl) dX10_computed_2 rfl (Nat.zero_le _) (Nat.zero_le _) ?_
  refine g_istore_n (pc' := 6) (lv' := [(3, .int (nI (200 * b + n - 1))), (0, .ref (g.2.1 15)), (1, .int (nI b)), (2, .int (nI n))]) hC dX10_computed_5 rfl rfl (by decide) rfl ?_
  refine g_aload_n (pc' := 7) (j := 1) hC dX10_computed_6 rfl rfl rfl ?_
  refine g_iload_n (pc' := 8) (j := 2) hC dX10_computed_7 rfl rfl rfl ?_
  refine g_iload_n (pc' := 9) (j := 3) hC dX10_computed_8 rfl rfl rfl ?_
  refine g_iconst (pc' := 10) (v := nI 1) hC dX10_computed_9 rfl rfl ?_
  refine n_isub (pc' := 11) hC dX10_computed_10 rfl (by omega) ?_
  refine f_Vi (pc' := 14) (k := 15) (st := []) hC (m_hashOf x.2.1 g z0 σ b ((n - 1)) (by omega) (by omega)) k_X10_hashOf wM_X10_95 (by decide) (by decide) (ct_15 g σ) rfl rfl rfl rfl (Nat.le_of_ble_eq_true rfl) dX10_computed_11 rfl (Nat.zero_le _) (Nat.zero_le _) ?_
  refine g_i2l (pc' := 15) hC dX10_computed_14 rfl ?_
  refine g_ldc2 (pc' := 18) (v := 1000003) hC wC_X10_98 dX10_computed_15 rfl ?_
  refine g_lmul (pc' := 19) hC dX10_computed_18 rfl ?_
  refine g_iload_n (pc' := 20) (j := 3) hC dX10_computed_19 rfl rfl rfl ?_
  refine g_i2l (pc' := 21) hC dX10_computed_20 rfl ?_
  refine g_ladd (pc' := 22) hC dX10_computed_21 rfl ?_
  refine g_lstore (pc' := 24) (lv' := [(4, .long ((((mh σ b (n - 1)).toInt64) * 1000003) + ((nI n).toInt64))), (3, .int (nI (200 * b + n - 1))), (0, .ref (g.2.1 15)), (1, .int (nI b)), (2, .int (nI n))]) hC dX10_computed_22 rfl (by decide) rfl ?_
  refine g_aload_n (pc' := 25) (j := 2) hC dX10_computed_24 rfl rfl rfl ?_
  refine gf_X10_7 (pc' := 28) hC wF_X10_13 dX10_computed_25 rfl ?_
  refine g_iload_n (pc' := 29) (j := 1) hC dX10_computed_28 rfl rfl rfl ?_
  refine a_ld (pc' := 30) (k := 17) (i := 200 * b + n - 1) hC (by decide) (ct_17 g σ) (by omega) (by decide) dX10_computed_29 rfl ?_
  refine g_iconst (pc' := 31) (v := nI 2) hC dX10_computed_30 rfl rfl ?_
  refine g_icmp_ne (pc' := 34) (tgt := 52) hC dX10_computed_31 (by decide) rfl (fun c31 => ?_) (fun c31 => ?_)
  · skip
    refine g_lload (pc' := 54) (j := 0) hC dX10_computed_52 rfl rfl ?_
    refine g_aload_n (pc' := 55) (j := 2) hC dX10_computed_54 rfl rfl rfl ?_
    refine gf_X10_8 (pc' := 58) hC wF_X10_16 dX10_computed_55 rfl ?_
    refine g_iload_n (pc' := 59) (j := 1) hC dX10_computed_58 rfl rfl rfl ?_
    refine a_ld (pc' := 60) (k := 18) (i := 200 * b + n - 1) hC (by decide) (ct_18 g σ) (by omega) (by decide) dX10_computed_59 rfl ?_
    refine g_i2l (pc' := 61) hC dX10_computed_60 rfl ?_
    refine g_ldc2 (pc' := 64) (v := 7919) hC wC_X10_106 dX10_computed_61 rfl ?_
    refine g_lmul (pc' := 65) hC dX10_computed_64 rfl ?_
    refine g_ladd (pc' := 66) hC dX10_computed_65 rfl ?_
    refine g_aload_n (pc' := 67) (j := 2) hC dX10_computed_66 rfl rfl rfl ?_
    refine gf_X10_9 (pc' := 70) hC wF_X10_19 dX10_computed_67 rfl ?_
    refine g_iload_n (pc' := 71) (j := 1) hC dX10_computed_70 rfl rfl rfl ?_
    refine a_ld (pc' := 72) (k := 19) (i := 200 * b + n - 1) hC (by decide) (ct_19 g σ) (by omega) (by decide) dX10_computed_71 rfl ?_
    refine g_i2l (pc' := 73) hC dX10_computed_72 rfl ?_
    refine g_ldc2 (pc' := 76) (v := 104729) hC wC_X10_108 dX10_computed_73 rfl ?_
    refine g_lmul (pc' := 77) hC dX10_computed_76 rfl ?_
    refine g_ladd (pc' := 78) hC dX10_computed_77 rfl ?_
    refine g_lstore (pc' := 80) (lv' := [(6, .long ((((((mh σ b (n - 1)).toInt64) * 1000003) + ((nI n).toInt64)) + (((σ.1 18 (200 * b + n - 1)).toInt64) * 7919)) + (((σ.1 19 (200 * b + n - 1)).toInt64) * 104729))), (4, .long ((((mh σ b (n - 1)).toInt64) * 1000003) + ((nI n).toInt64))), (3, .int (nI (200 * b + n - 1))), (0, .ref (g.2.1 15)), (1, .int (nI b)), (2, .int (nI n))]) hC dX10_computed_78 rfl (by decide) rfl ?_
    refine g_aload_n (pc' := 81) (j := 3) hC dX10_computed_80 rfl rfl rfl ?_
    refine gf_X10_7 (pc' := 84) hC wF_X10_13 dX10_computed_81 rfl ?_
    refine g_iload_n (pc' := 85) (j := 2) hC dX10_computed_84 rfl rfl rfl ?_
    refine a_ld (pc' := 86) (k := 17) (i := 200 * b + n - 1) hC (by decide) (ct_17 g σ) (by omega) (by decide) dX10_computed_85 rfl ?_
    refine g_iconst (pc' := 87) (v := nI 1) hC dX10_computed_86 rfl rfl ?_
    refine g_icmp_ne (pc' := 90) (tgt := 109) hC dX10_computed_87 (by decide) rfl (fun c87 => ?_) (fun c87 => ?_)
    · skip
      refine g_lload (pc' := 111) (j := 0) hC dX10_computed_109 rfl rfl ?_
      refine f_Si (pc' := 114) (st := []) hC (m_rest x.2.1 g z0 σ (((((((mh σ b (n - 1)).toInt64) * 1000003) + ((nI n).toInt64)) + (((σ.1 18 (200 * b + n - 1)).toInt64) * 7919)) + (((σ.1 19 (200 * b + n - 1)).toInt64) * 104729)))) k_X10_rest wM_X10_102 (by decide) rfl rfl (Nat.le_of_ble_eq_true rfl) dX10_computed_111 rfl (Nat.zero_le _) (Nat.zero_le _) ?_
      refine g_ret hC dX10_computed_114 rfl ?_
      exact ⟨by simp_all [mcomp, hq], rfl⟩
    · skip
      refine g_lload (pc' := 92) (j := 0) hC dX10_computed_90 rfl rfl ?_
      refine g_aload_n (pc' := 93) (j := 3) hC dX10_computed_92 rfl rfl rfl ?_
      refine gf_X10_10 (pc' := 96) hC wF_X10_22 dX10_computed_93 rfl ?_
      refine g_iload_n (pc' := 97) (j := 2) hC dX10_computed_96 rfl rfl rfl ?_
      refine a_ld (pc' := 98) (k := 20) (i := 200 * b + n - 1) hC (by decide) (ct_20 g σ) (by omega) (by decide) dX10_computed_97 rfl ?_
      refine g_i2l (pc' := 99) hC dX10_computed_98 rfl ?_
      refine g_lconst (pc' := 100) (v := 1) hC dX10_computed_99 rfl rfl ?_
      refine g_ladd (pc' := 101) hC dX10_computed_100 rfl ?_
      refine g_ldc2 (pc' := 104) (v := 15485863) hC wC_X10_110 dX10_computed_101 rfl ?_
      refine g_lmul (pc' := 105) hC dX10_computed_104 rfl ?_
      refine g_ladd (pc' := 106) hC dX10_computed_105 rfl ?_
      refine g_goto (tgt := 111) hC dX10_computed_106 (by decide) ?_
      refine f_Si (pc' := 114) (st := []) hC (m_rest x.2.1 g z0 σ ((((((((mh σ b (n - 1)).toInt64) * 1000003) + ((nI n).toInt64)) + (((σ.1 18 (200 * b + n - 1)).toInt64) * 7919)) + (((σ.1 19 (200 * b + n - 1)).toInt64) * 104729)) + ((((σ.1 20 (200 * b + n - 1)).toInt64) + 1) * 15485863)))) k_X10_rest wM_X10_102 (by decide) rfl rfl (Nat.le_of_ble_eq_true rfl) dX10_computed_111 rfl (Nat.zero_le _) (Nat.zero_le _) ?_
      refine g_ret hC dX10_computed_114 rfl ?_
      exact ⟨by simp_all [mcomp, hq], rfl⟩
  · skip
    refine g_lload (pc' := 36) (j := 0) hC dX10_computed_34 rfl rfl ?_
    refine g_aload_n (pc' := 37) (j := 2) hC dX10_computed_36 rfl rfl rfl ?_
    refine gf_X10_11 (pc' := 40) hC wF_X10_25 dX10_computed_37 rfl ?_
    refine g_iload_n (pc' := 41) (j := 1) hC dX10_computed_40 rfl rfl rfl ?_
    refine a_ld (pc' := 42) (k := 21) (i := 200 * b + n - 1) hC (by decide) (ct_21 g σ) (by omega) (by decide) dX10_computed_41 rfl ?_
    refine g_i2l (pc' := 43) hC dX10_computed_42 rfl ?_
    refine g_ldc2 (pc' := 46) (v := 1299709) hC wC_X10_100 dX10_computed_43 rfl ?_
    refine g_lmul (pc' := 47) hC dX10_computed_46 rfl ?_
    refine g_ladd (pc' := 48) hC dX10_computed_47 rfl ?_
    refine f_Si (pc' := 51) (st := []) hC (m_rest x.2.1 g z0 σ ((((((mh σ b (n - 1)).toInt64) * 1000003) + ((nI n).toInt64)) + (((σ.1 21 (200 * b + n - 1)).toInt64) * 1299709)))) k_X10_rest wM_X10_102 (by decide) rfl rfl (Nat.le_of_ble_eq_true rfl) dX10_computed_48 rfl (Nat.zero_le _) (Nat.zero_le _) ?_
    refine g_ret hC dX10_computed_51 rfl ?_
    exact ⟨by simp_all [mcomp, hq], rfl⟩
