set_option maxHeartbeats 4000000 in
set_option maxRecDepth 20000 in
theorem c_ordinal0 (l : Launch) (g : Lay) (z0 : Nat) {KA : KAd} (σ : St) (i : Nat)  (hK : GK g z0 KA) (hi : i < 16)  : CTi l yJx29ce0_ordinal_8abf5 cJx29ce0_ordinal_8abf5 1 (some .int) 0 g z0 [.ref (g.2.2.1 i)] σ (FI (kOr.getD i 0) σ) := by
  refine CTi.of (by decide) (Nat.le_of_ble_eq_true rfl) ?_
  intro x hxl hxa hC
  have hC : Cx x RJx29ce0 cJx29ce0_ordinal_8abf5 1 (some .int) 0 g z0 := hC
  show GG x g z0 1 0 0 (Qi x g z0 (FI (kOr.getD i 0) σ)) σ 0 [(0, .ref (g.2.2.1 i))] []
  refine g_aload_n (pc' := 1) (j := 0) hC dJx29ce0_ordinal_8abf5_0 rfl rfl rfl ?_
  refine g_gOr (pc' := 4) (i := i) hC hK (by omega : i < 16) wF_Jx29ce0_7 dJx29ce0_ordinal_8abf5_1 rfl ?_
  refine g_ret hC dJx29ce0_ordinal_8abf5_4 rfl ?_
  exact ⟨rfl, rfl⟩
theorem kOr_n {i : Nat} (h : i < 16) : kOr.getD i 0 = nI i := by
  have : ∀ i, i < 16 → kOr.getD i 0 = nI i := by decide +kernel
  exact this i h
theorem c_ordinal (l : Launch) (g : Lay) (z0 : Nat) {KA : KAd} (σ : St) (i : Nat) (hK : GK g z0 KA) (hi : i < 16) : CTi l yJx29ce0_ordinal_8abf5 cJx29ce0_ordinal_8abf5 1 (some .int) 0 g z0 [.ref (g.2.2.1 i)] σ (FI (nI i) σ) := kOr_n hi ▸ c_ordinal0 l g z0 σ i hK hi
theorem k_all : ∀ i, i < 22 → (kLen.getD i 0 = (kByt.getD i []).length ∧ kLen.getD i 0 ≤ 8 ∧ ∀ b ∈ kByt.getD i [], b &&& 255 = b ∧ ((b &&& 255).toUInt32 % 65536).toInt32 = b) := by decide +kernel
theorem k_len {i : Nat} (h : i < 22) : kLen.getD i 0 ≤ 8 := (k_all i h).2.1
theorem k_chr {i k : Nat} (h : i < 22) (hk : k < kLen.getD i 0) : (((kByt.getD i []).getD k 0 &&& nI 255).toUInt32 % 65536).toInt32 = (kByt.getD i []).getD k 0 := by
  obtain ⟨h1, h2, h3⟩ := k_all i h
  have hlt : k < (kByt.getD i []).length := by omega
  have e : (kByt.getD i []).getD k 0 = (kByt.getD i [])[k] := by
    generalize kByt.getD i [] = L at hlt ⊢
    rw [List.getD_eq_getElem?_getD, List.getElem?_eq_getElem hlt, Option.getD_some]
  rw [e]
  exact (h3 _ (List.getElem_mem hlt)).2
theorem k_nar {i k : Nat} (h : i < 22) (hk : k < kLen.getD i 0) : narrow .char (.int ((kByt.getD i []).getD k 0)) = .int ((kByt.getD i []).getD k 0) := by
  have e := (sc_c2 ((kByt.getD i []).getD k 0)).symm.trans (k_chr h hk)
  rw [← e]
  exact sc_nar _
set_option maxHeartbeats 4000000 in
set_option maxRecDepth 20000 in
theorem j_coder (l : Launch) (g : Lay) (z0 : Nat) {KA : KAd} (σ : St) (i : Nat)  (hK : GK g z0 KA) (hs : i < 22)  : CTi l yJ0_coder_7d493 cJ0_coder_7d493 1 (some .byte) 0 g z0 [.ref (KA.1 i)] σ (FI (nI 0) σ) := by
  refine CTi.of (by decide) (Nat.le_of_ble_eq_true rfl) ?_
  intro x hxl hxa hC
  have hC : Cx x RJ0 cJ0_coder_7d493 1 (some .byte) 0 g z0 := hC
  show GG x g z0 1 0 0 (Qi x g z0 (FI (nI 0) σ)) σ 0 [(0, .ref (KA.1 i))] []
  refine g_gs (pc' := 3) (v := .int (nI 1)) hC (hK.at hC).2.2.2.2.2.2.1 wF_J0_38 dJ0_coder_7d493_0 rfl ?_
  refine n_if_eq (pc' := 6) (tgt := 13) hC dJ0_coder_7d493_3 (by decide) rfl (by omega) (fun c3 => ?_) (fun c3 => ?_)
  · skip
    first | exact absurd c3 (by decide) | exact c3.elim
  · skip
    refine g_aload_n (pc' := 7) (j := 0) hC dJ0_coder_7d493_6 rfl rfl rfl ?_
    refine g_gCo (pc' := 10) (i := i) hC hK (by omega : i < 22) wF_J0_15 dJ0_coder_7d493_7 rfl ?_
    refine g_goto (tgt := 14) hC dJ0_coder_7d493_10 (by decide) ?_
    refine g_ret hC dJ0_coder_7d493_14 rfl ?_
    exact ⟨rfl, rfl⟩
set_option maxHeartbeats 4000000 in
set_option maxRecDepth 20000 in
theorem j_isLatin1 (l : Launch) (g : Lay) (z0 : Nat) {KA : KAd} (σ : St) (i : Nat)  (hK : GK g z0 KA) (hs : i < 22)  : CTi l yJ0_isLatin1_aae02 cJ0_isLatin1_aae02 1 (some .boolean) 0 g z0 [.ref (KA.1 i)] σ (FI (nI 1) σ) := by
  refine CTi.of (by decide) (Nat.le_of_ble_eq_true rfl) ?_
  intro x hxl hxa hC
  have hC : Cx x RJ0 cJ0_isLatin1_aae02 1 (some .boolean) 0 g z0 := hC
  show GG x g z0 1 0 0 (Qi x g z0 (FI (nI 1) σ)) σ 0 [(0, .ref (KA.1 i))] []
  refine g_gs (pc' := 3) (v := .int (nI 1)) hC (hK.at hC).2.2.2.2.2.2.1 wF_J0_38 dJ0_isLatin1_aae02_0 rfl ?_
  refine n_if_eq (pc' := 6) (tgt := 17) hC dJ0_isLatin1_aae02_3 (by decide) rfl (by omega) (fun c3 => ?_) (fun c3 => ?_)
  · skip
    first | exact absurd c3 (by decide) | exact c3.elim
  · skip
    refine g_aload_n (pc' := 7) (j := 0) hC dJ0_isLatin1_aae02_6 rfl rfl rfl ?_
    refine g_gCo (pc' := 10) (i := i) hC hK (by omega : i < 22) wF_J0_15 dJ0_isLatin1_aae02_7 rfl ?_
    refine n_if_ne (pc' := 13) (tgt := 17) hC dJ0_isLatin1_aae02_10 (by decide) rfl (by omega) (fun c10 => ?_) (fun c10 => ?_)
    · skip
      first | exact absurd c10 (by decide) | exact c10.elim
    · skip
      refine g_iconst (pc' := 14) (v := nI 1) hC dJ0_isLatin1_aae02_13 rfl rfl ?_
      refine g_goto (tgt := 18) hC dJ0_isLatin1_aae02_14 (by decide) ?_
      refine g_ret hC dJ0_isLatin1_aae02_18 rfl ?_
      exact ⟨rfl, rfl⟩
set_option maxHeartbeats 4000000 in
set_option maxRecDepth 20000 in
theorem j_length (l : Launch) (g : Lay) (z0 : Nat) {KA : KAd} (σ : St) (i : Nat)  (hK : GK g z0 KA) (hs : i < 22)  : CTi l yJ0_length_8abf5 cJ0_length_8abf5 1 (some .int) 1 g z0 [.ref (KA.1 i)] σ (FI (nI (kLen.getD i 0)) σ) := by
  refine CTi.of (by decide) (Nat.le_of_ble_eq_true rfl) ?_
  intro x hxl hxa hC
  have hC : Cx x RJ0 cJ0_length_8abf5 1 (some .int) 1 g z0 := hC
  have hL8 := k_len hs
  show GG x g z0 1 0 0 (Qi x g z0 (FI (nI (kLen.getD i 0)) σ)) σ 0 [(0, .ref (KA.1 i))] []
  refine g_aload_n (pc' := 1) (j := 0) hC dJ0_length_8abf5_0 rfl rfl rfl ?_
  refine g_gVa (pc' := 4) (i := i) hC hK (by omega : i < 22) wF_J0_9 dJ0_length_8abf5_1 rfl ?_
  refine g_tlen (pc' := 5) hC ((hK.at hC).2.1.1 i (hs)).2.2.2 dJ0_length_8abf5_4 rfl ?_
  refine g_aload_n (pc' := 6) (j := 0) hC dJ0_length_8abf5_5 rfl rfl rfl ?_
  refine f_Ki (pc' := 9) (i := i) (st := [.int (nI (kLen.getD i 0))]) hC hK (by omega : i < 22) (j_coder x.2.1 g z0 σ i (hK) (by omega)) k_J0_coder_7d493 rfl wM_J0_335 (by decide) rfl rfl (Nat.le_of_ble_eq_true rfl) dJ0_length_8abf5_6 rfl (Nat.zero_le _) (Nat.zero_le _) ?_
  refine g_ishr (pc' := 10) hC dJ0_length_8abf5_9 rfl ?_
  refine gg_topi (b := nI (kLen.getD i 0)) (sc_shr0 (by omega)) ?_
  refine g_ret hC dJ0_length_8abf5_10 rfl ?_
  exact ⟨rfl, rfl⟩
set_option maxHeartbeats 4000000 in
set_option maxRecDepth 20000 in
theorem j_pchkN (l : Launch) (g : Lay) (z0 : Nat) (σ : St) (k : Nat) (n : Nat) (hk : k < n) (hn : n < 2 ^ 31)  : CTi l yJ3_checkIndex_8e157 cJ3_checkIndex_8e157 3 (some .int) 0 g z0 [.int (nI k), .int (nI n), .null] σ (FI (nI k) σ) := by
  refine CTi.of (by decide) (Nat.le_of_ble_eq_true rfl) ?_
  intro x hxl hxa hC
  have hC : Cx x RJ3 cJ3_checkIndex_8e157 3 (some .int) 0 g z0 := hC
  show GG x g z0 3 0 0 (Qi x g z0 (FI (nI k) σ)) σ 0 [(0, .int (nI k)), (1, .int (nI n)), (2, .null)] []
  refine g_iload_n (pc' := 1) (j := 0) hC dJ3_checkIndex_8e157_0 rfl rfl rfl ?_
  refine n_if_lt (pc' := 4) (tgt := 9) hC dJ3_checkIndex_8e157_1 (by decide) rfl (by omega) (fun c1 => ?_) (fun c1 => ?_)
  · skip
    exact c1.elim
  · skip
    refine g_iload_n (pc' := 5) (j := 0) hC dJ3_checkIndex_8e157_4 rfl rfl rfl ?_
    refine g_iload_n (pc' := 6) (j := 1) hC dJ3_checkIndex_8e157_5 rfl rfl rfl ?_
    refine n_icmp_lt (pc' := 9) (tgt := 16) hC dJ3_checkIndex_8e157_6 (by decide) rfl (by omega) (by omega) (fun c6 => ?_) (fun c6 => ?_)
    · skip
      refine g_iload_n (pc' := 17) (j := 0) hC dJ3_checkIndex_8e157_16 rfl rfl rfl ?_
      refine g_ret hC dJ3_checkIndex_8e157_17 rfl ?_
      exact ⟨rfl, rfl⟩
    · skip
      exact absurd hk (Nat.not_lt.mpr c6)
set_option maxHeartbeats 4000000 in
set_option maxRecDepth 20000 in
theorem j_pchkR (l : Launch) (g : Lay) (z0 : Nat) (σ : St) (k : Nat) (n : Nat) (r9 : Nat) (hk : k < n) (hn : n < 2 ^ 31)  : CTi l yJ3_checkIndex_8e157 cJ3_checkIndex_8e157 3 (some .int) 0 g z0 [.int (nI k), .int (nI n), .ref r9] σ (FI (nI k) σ) := by
  refine CTi.of (by decide) (Nat.le_of_ble_eq_true rfl) ?_
  intro x hxl hxa hC
  have hC : Cx x RJ3 cJ3_checkIndex_8e157 3 (some .int) 0 g z0 := hC
  show GG x g z0 3 0 0 (Qi x g z0 (FI (nI k) σ)) σ 0 [(0, .int (nI k)), (1, .int (nI n)), (2, .ref r9)] []
  refine g_iload_n (pc' := 1) (j := 0) hC dJ3_checkIndex_8e157_0 rfl rfl rfl ?_
  refine n_if_lt (pc' := 4) (tgt := 9) hC dJ3_checkIndex_8e157_1 (by decide) rfl (by omega) (fun c1 => ?_) (fun c1 => ?_)
  · skip
    exact c1.elim
  · skip
    refine g_iload_n (pc' := 5) (j := 0) hC dJ3_checkIndex_8e157_4 rfl rfl rfl ?_
    refine g_iload_n (pc' := 6) (j := 1) hC dJ3_checkIndex_8e157_5 rfl rfl rfl ?_
    refine n_icmp_lt (pc' := 9) (tgt := 16) hC dJ3_checkIndex_8e157_6 (by decide) rfl (by omega) (by omega) (fun c6 => ?_) (fun c6 => ?_)
    · skip
      refine g_iload_n (pc' := 17) (j := 0) hC dJ3_checkIndex_8e157_16 rfl rfl rfl ?_
      refine g_ret hC dJ3_checkIndex_8e157_17 rfl ?_
      exact ⟨rfl, rfl⟩
    · skip
      exact absurd hk (Nat.not_lt.mpr c6)
theorem j_pchk (l : Launch) (g : Lay) (z0 : Nat) (σ : St) (k n : Nat) (r9 : Option Nat) (hk : k < n) (hn : n < 2 ^ 31) : CTi l yJ3_checkIndex_8e157 cJ3_checkIndex_8e157 3 (some .int) 0 g z0 [.int (nI k), .int (nI n), va_rf r9] σ (FI (nI k) σ) := by
  cases r9 with
  | none => exact j_pchkN l g z0 σ k n hk hn
  | some a => exact j_pchkR l g z0 σ k n a hk hn
set_option maxHeartbeats 4000000 in
set_option maxRecDepth 20000 in
theorem j_chk (l : Launch) (g : Lay) (z0 : Nat) {KA : KAd} (σ : St) (k : Nat) (n : Nat) (hK : GK g z0 KA) (hk : k < n) (hn : n < 2 ^ 31)  : CTv l yJ0_checkIndex_df160 cJ0_checkIndex_df160 2 1 g z0 [.int (nI k), .int (nI n)] σ (FV σ) := by
  refine CTv.of (by decide) (Nat.le_of_ble_eq_true rfl) ?_
  intro x hxl hxa hC
  have hC : Cx x RJ0 cJ0_checkIndex_df160 2 none 1 g z0 := hC
  obtain ⟨r9, hr9⟩ := (hK.at hC).2.2.2.2.2.2.2.1
  show GG x g z0 2 0 0 (Qv x g z0 (FV σ)) σ 0 [(0, .int (nI k)), (1, .int (nI n))] []
  refine g_iload_n (pc' := 1) (j := 0) hC dJ0_checkIndex_df160_0 rfl rfl rfl ?_
  refine g_iload_n (pc' := 2) (j := 1) hC dJ0_checkIndex_df160_1 rfl rfl rfl ?_
  refine g_gs (pc' := 5) (v := va_rf r9) hC hr9 wF_J0_1053 dJ0_checkIndex_df160_2 rfl ?_
  refine f_Si (pc' := 8) (st := []) hC (j_pchk x.2.1 g z0 σ k n r9 (by omega) (by omega)) k_J3_checkIndex_8e157 wM_J0_1059 (by decide) rfl rfl (Nat.le_of_ble_eq_true rfl) dJ0_checkIndex_df160_5 rfl (Nat.zero_le _) (Nat.zero_le _) ?_
  refine g_pop (pc' := 9) hC dJ0_checkIndex_df160_8 rfl rfl ?_
  refine g_retv hC dJ0_checkIndex_df160_9 ?_
  exact rfl
set_option maxHeartbeats 4000000 in
set_option maxRecDepth 20000 in
theorem j_lchar (l : Launch) (g : Lay) (z0 : Nat) {KA : KAd} (σ : St) (i : Nat) (k : Nat) (hK : GK g z0 KA) (hs : i < 22) (hk : k < kLen.getD i 0)  : CTi l yJ1_charAt_3b067 cJ1_charAt_3b067 2 (some .char) 2 g z0 [.ref (KA.2.1 i), .int (nI k)] σ (FI ((kByt.getD i []).getD k 0) σ) := by
  refine CTi.of (by decide) (Nat.le_of_ble_eq_true rfl) ?_
  intro x hxl hxa hC
  have hC : Cx x RJ1 cJ1_charAt_3b067 2 (some .char) 2 g z0 := hC
  have hL8 := k_len hs
  show GG x g z0 2 0 0 (Qi x g z0 (FI ((kByt.getD i []).getD k 0) σ)) σ 0 [(0, .ref (KA.2.1 i)), (1, .int (nI k))] []
  refine g_iload_n (pc' := 1) (j := 1) hC dJ1_charAt_3b067_0 rfl rfl rfl ?_
  refine g_aload_n (pc' := 2) (j := 0) hC dJ1_charAt_3b067_1 rfl rfl rfl ?_
  refine g_tlen (pc' := 3) hC ((hK.at hC).2.1.1 i (hs)).2.2.2 dJ1_charAt_3b067_2 rfl ?_
  refine f_Sv (pc' := 6) (st := []) hC (j_chk x.2.1 g z0 σ k ((kLen.getD i 0)) (hK) (by omega) (by omega)) k_J0_checkIndex_df160 wM_J1_9 (by decide) rfl rfl (Nat.le_of_ble_eq_true rfl) dJ1_charAt_3b067_3 rfl (Nat.zero_le _) (Nat.zero_le _) ?_
  refine g_aload_n (pc' := 7) (j := 0) hC dJ1_charAt_3b067_6 rfl rfl rfl ?_
  refine g_iload_n (pc' := 8) (j := 1) hC dJ1_charAt_3b067_7 rfl rfl rfl ?_
  refine g_tby (pc' := 9) (s := i) (i := k) hC hK (hs) (hk) (by omega) dJ1_charAt_3b067_8 rfl ?_
  refine g_sipush (pc' := 12) (v := nI 255) hC dJ1_charAt_3b067_9 rfl rfl ?_
  refine g_iand (pc' := 13) hC dJ1_charAt_3b067_12 rfl ?_
  refine g_i2c (pc' := 14) hC dJ1_charAt_3b067_13 rfl ?_
  refine gg_topi (b := (kByt.getD i []).getD k 0) (k_chr hs hk) ?_
  refine g_ret hC dJ1_charAt_3b067_14 (k_nar hs hk) ?_
  exact ⟨rfl, rfl⟩
set_option maxHeartbeats 4000000 in
set_option maxRecDepth 20000 in
theorem j_charAt (l : Launch) (g : Lay) (z0 : Nat) {KA : KAd} (σ : St) (i : Nat) (k : Nat) (hK : GK g z0 KA) (hs : i < 22) (hk : k < kLen.getD i 0)  : CTi l yJ0_charAt_5068e cJ0_charAt_5068e 2 (some .char) 3 g z0 [.ref (KA.1 i), .int (nI k)] σ (FI ((kByt.getD i []).getD k 0) σ) := by
  refine CTi.of (by decide) (Nat.le_of_ble_eq_true rfl) ?_
  intro x hxl hxa hC
  have hC : Cx x RJ0 cJ0_charAt_5068e 2 (some .char) 3 g z0 := hC
  show GG x g z0 2 0 0 (Qi x g z0 (FI ((kByt.getD i []).getD k 0) σ)) σ 0 [(0, .ref (KA.1 i)), (1, .int (nI k))] []
  refine g_aload_n (pc' := 1) (j := 0) hC dJ0_charAt_5068e_0 rfl rfl rfl ?_
  refine f_Ki (pc' := 4) (i := i) (st := []) hC hK (by omega : i < 22) (j_isLatin1 x.2.1 g z0 σ i (hK) (by omega)) k_J0_isLatin1_aae02 rfl wM_J0_492 (by decide) rfl rfl (Nat.le_of_ble_eq_true rfl) dJ0_charAt_5068e_1 rfl (Nat.zero_le _) (Nat.zero_le _) ?_
  refine n_if_eq (pc' := 7) (tgt := 16) hC dJ0_charAt_5068e_4 (by decide) rfl (by omega) (fun c4 => ?_) (fun c4 => ?_)
  · skip
    first | exact absurd c4 (by decide) | exact c4.elim
  · skip
    refine g_aload_n (pc' := 8) (j := 0) hC dJ0_charAt_5068e_7 rfl rfl rfl ?_
    refine g_gVa (pc' := 11) (i := i) hC hK (by omega : i < 22) wF_J0_9 dJ0_charAt_5068e_8 rfl ?_
    refine g_iload_n (pc' := 12) (j := 1) hC dJ0_charAt_5068e_11 rfl rfl rfl ?_
    refine f_Si (pc' := 15) (st := []) hC (j_lchar x.2.1 g z0 σ i k (hK) (by omega) (by omega)) k_J1_charAt_3b067 wM_J0_495 (by decide) rfl rfl (Nat.le_of_ble_eq_true rfl) dJ0_charAt_5068e_12 rfl (Nat.zero_le _) (Nat.zero_le _) ?_
    refine g_ret hC dJ0_charAt_5068e_15 (k_nar hs hk) ?_
    exact ⟨rfl, rfl⟩
