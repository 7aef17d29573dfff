/-! the other turns of the law -/
section LAW2
variable {x : Ctx} {g : Lay} {z0 n1 n2 m1 m2 : Nat} {Q : State → Prop} {σ : St} {rt : Option FieldType} {b L j : Nat} {xs : Nat → Int32} {w : Option String}
theorem qd_b {Rc Rm th : Int32} (h : QD w Rc Rm th) : (∀ E, w = some E → E = exNo) ∧ th = kof1 w ∧ (w = none → cI (Rc = 0) (0 : Int64) 1 = cI (Rm = 0) 0 1) := by
  rcases h with ⟨rfl, e, t⟩ | ⟨rfl, t⟩
  · exact ⟨fun E z => (nsN z).elim, t, fun _ => by rw [e]⟩
  · exact ⟨fun E z => (Option.some.inj z).symm, t, fun z => (nsS z).elim⟩
/-- a bare question to both -/
theorem l_get {p q i1 i2 : Nat} {y1 y2 : MethodName} {c1 c2 : ByteArray} {l1 l2 h1 h2 : Nat} {r1 r2 : Option FieldType} {R R' : Int32} (hC : Cx x RL cL_law 7 rt 11 g z0) (hM1 : CTi x.2.1 y1 c1 l1 r1 h1 g z0 [.ref (g.2.1 0)] σ (FI R σ)) (hM2 : CTi x.2.1 y2 c2 l2 r2 h2 g z0 [.ref (g.2.1 15)] σ (FI R' (m0 σ))) (k1 : CalV y1 c1 l1 r1 0) (k2 : CalV y2 c2 l2 r2 0) (w1 : WIn (.methodLink RL i1 y1)) (w2 : WIn (.methodLink RL i2 y2)) (hh1 : h1 < 11) (hh2 : h2 < 11) (hy1 : RX9 = y1.cls) (hy2 : RX10 = y2.cls) (e : R = R')
    (hD : decode cL_law p = .ok (.aload_n 1, 1) ∧ decode cL_law (p + 1) = .ok (.invokevirtual i1, 3) ∧ decode cL_law (p + 4) = .ok (.aload_n 2, 1) ∧ decode cL_law (p + 5) = .ok (.invokevirtual i2, 3) ∧ ∃ off : Int, decode cL_law (p + 8) = .ok (.if_icmp .eq off, 3) ∧ ((p + 8 : Nat) : Int) + off = (q : Int)) (hm1 : n1 ≤ m1) (hm2 : n2 ≤ m2) (hc1 : m1 ≤ x.2.2.2.1.cells) (hc2 : m2 ≤ x.2.2.2.1.slots) (hI : Inv σ σ) (kk : ∀ σ', Inv σ' σ' → GG x g z0 7 m1 m2 Q σ' q (LV0 g b j) []) : GG x g z0 7 n1 n2 Q σ p (LV0 g b j) [] := by
  obtain ⟨d1, d2, d3, d4, off, d5, d6⟩ := hD
  refine gg_widen hm1 hm2 ?_
  refine g_aload_n (pc' := p + 1) (j := 3) hC d1 rfl rfl rfl ?_
  refine f_Vi (pc' := p + 4) (k := 0) (st := []) hC hM1 k1 w1 hh1 (by decide) (ct_0 g σ) rfl hy1 rfl rfl (Nat.le_of_ble_eq_true rfl) d2 rfl hc1 hc2 ?_
  refine g_aload_n (pc' := p + 5) (j := 2) hC d3 rfl rfl rfl ?_
  refine f_Vi (pc' := p + 8) (k := 15) (st := [.int R]) hC hM2 k2 w2 hh2 (by decide) (ct_15 g σ) rfl hy2 rfl rfl (Nat.le_of_ble_eq_true rfl) d4 rfl hc1 hc2 ?_
  exact g_icmp_eq (pc' := p + 11) (tgt := q) hC d5 d6 rfl (fun _ => kk _ hI.m0s) (fun z => absurd e z)
theorem lc_3 {KA : KAd} (hE : EN x g z0 b L xs KA rt) (hj : j + 6 ≤ L) (hI : Inv σ σ) (hc1 : n1 + 3 ≤ x.2.2.2.1.cells) (hc2 : n2 + 18 ≤ x.2.2.2.1.slots) (kk : ∀ σ', Inv σ' σ' → GG x g z0 7 (n1 + 3) (n2 + 18) Q σ' 2388 (LV0 g b j) []) : GG x g z0 7 n1 n2 Q σ 432 (LV0 g b j) [] := by
  obtain ⟨hC, hF, hNT, hT, hK, hG, hG3⟩ := hE
  exact l_get hC (c_errorCode x.2.1 g z0 σ ) (m_errorCode x.2.1 g z0 σ ) k_X9_errorCode k_X10_errorCode wM_L_131 wM_L_134 (by decide) (by decide) rfl rfl (hI.2.2.2.2.1.1) ⟨dL_law_432, dL_law_433, dL_law_436, dL_law_437, _, dL_law_440, by decide⟩ (by omega) (by omega) hc1 hc2 hI kk
theorem lc_4 {KA : KAd} (hE : EN x g z0 b L xs KA rt) (hj : j + 6 ≤ L) (hI : Inv σ σ) (hc1 : n1 + 3 ≤ x.2.2.2.1.cells) (hc2 : n2 + 18 ≤ x.2.2.2.1.slots) (kk : ∀ σ', Inv σ' σ' → GG x g z0 7 (n1 + 3) (n2 + 18) Q σ' 2388 (LV0 g b j) []) : GG x g z0 7 n1 n2 Q σ 445 (LV0 g b j) [] := by
  obtain ⟨hC, hF, hNT, hT, hK, hG, hG3⟩ := hE
  exact l_get hC (c_errorPosition x.2.1 g z0 σ ) (m_errorPosition x.2.1 g z0 σ ) k_X9_errorPosition k_X10_errorPosition wM_L_135 wM_L_138 (by decide) (by decide) rfl rfl (hI.2.2.2.2.1.2) ⟨dL_law_445, dL_law_446, dL_law_449, dL_law_450, _, dL_law_453, by decide⟩ (by omega) (by omega) hc1 hc2 hI kk
theorem lc_5 {KA : KAd} (hE : EN x g z0 b L xs KA rt) (hj : j + 6 ≤ L) (hI : Inv σ σ) (hc1 : n1 + 3 ≤ x.2.2.2.1.cells) (hc2 : n2 + 18 ≤ x.2.2.2.1.slots) (kk : ∀ σ', Inv σ' σ' → GG x g z0 7 (n1 + 3) (n2 + 18) Q σ' 2388 (LV0 g b j) []) : GG x g z0 7 n1 n2 Q σ 458 (LV0 g b j) [] := by
  obtain ⟨hC, hF, hNT, hT, hK, hG, hG3⟩ := hE
  exact l_get hC (c_refused x.2.1 g z0 σ ) (m_refused x.2.1 g z0 σ ) k_X9_refused k_X10_refused wM_L_139 wM_L_142 (by decide) (by decide) rfl rfl (hI.2.2.2.1) ⟨dL_law_458, dL_law_459, dL_law_462, dL_law_463, _, dL_law_466, by decide⟩ (by omega) (by omega) hc1 hc2 hI kk
theorem lc_17 {KA : KAd} (hE : EN x g z0 b L xs KA rt) (hj : j + 6 ≤ L) (hI : Inv σ σ) (hc1 : n1 + 3 ≤ x.2.2.2.1.cells) (hc2 : n2 + 18 ≤ x.2.2.2.1.slots) (kk : ∀ σ', Inv σ' σ' → GG x g z0 7 (n1 + 3) (n2 + 18) Q σ' 2388 (LV0 g b j) []) : GG x g z0 7 n1 n2 Q σ 1202 (LV0 g b j) [] := by
  obtain ⟨hC, hF, hNT, hT, hK, hG, hG3⟩ := hE
  exact l_get hC (c_clients x.2.1 g z0 σ ) (m_clients x.2.1 g z0 σ ) k_X9_clients k_X10_clients wM_L_178 wM_L_181 (by decide) (by decide) rfl rfl (hI.1.1.ncl) ⟨dL_law_1202, dL_law_1203, dL_law_1206, dL_law_1207, _, dL_law_1210, by decide⟩ (by omega) (by omega) hc1 hc2 hI kk
theorem lc_18 {KA : KAd} (hE : EN x g z0 b L xs KA rt) (hj : j + 6 ≤ L) (hI : Inv σ σ) (hc1 : n1 + 3 ≤ x.2.2.2.1.cells) (hc2 : n2 + 18 ≤ x.2.2.2.1.slots) (kk : ∀ σ', Inv σ' σ' → GG x g z0 7 (n1 + 3) (n2 + 18) Q σ' 2388 (LV0 g b j) []) : GG x g z0 7 n1 n2 Q σ 1215 (LV0 g b j) [] := by
  obtain ⟨hC, hF, hNT, hT, hK, hG, hG3⟩ := hE
  exact l_get hC (c_blocks x.2.1 g z0 σ ) (m_blocks x.2.1 g z0 σ ) k_X9_blocks k_X10_blocks wM_L_182 wM_L_185 (by decide) (by decide) rfl rfl (hI.1.1.nbk) ⟨dL_law_1215, dL_law_1216, dL_law_1219, dL_law_1220, _, dL_law_1223, by decide⟩ (by omega) (by omega) hc1 hc2 hI kk
theorem lc_19 {KA : KAd} (hE : EN x g z0 b L xs KA rt) (hj : j + 6 ≤ L) (hI : Inv σ σ) (hc1 : n1 + 3 ≤ x.2.2.2.1.cells) (hc2 : n2 + 18 ≤ x.2.2.2.1.slots) (kk : ∀ σ', Inv σ' σ' → GG x g z0 7 (n1 + 3) (n2 + 18) Q σ' 2388 (LV0 g b j) []) : GG x g z0 7 n1 n2 Q σ 1228 (LV0 g b j) [] := by
  obtain ⟨hC, hF, hNT, hT, hK, hG, hG3⟩ := hE
  exact l_get hC (c_branches x.2.1 g z0 σ ) (m_branches x.2.1 g z0 σ ) k_X9_branches k_X10_branches wM_L_186 wM_L_189 (by decide) (by decide) rfl rfl (hI.1.1.nbr) ⟨dL_law_1228, dL_law_1229, dL_law_1232, dL_law_1233, _, dL_law_1236, by decide⟩ (by omega) (by omega) hc1 hc2 hI kk
theorem lc_33 {KA : KAd} (hE : EN x g z0 b L xs KA rt) (hj : j + 6 ≤ L) (hI : Inv σ σ) (hc1 : n1 + 3 ≤ x.2.2.2.1.cells) (hc2 : n2 + 18 ≤ x.2.2.2.1.slots) (kk : ∀ σ', Inv σ' σ' → GG x g z0 7 (n1 + 3) (n2 + 18) Q σ' 2388 (LV0 g b j) []) : GG x g z0 7 n1 n2 Q σ 2089 (LV0 g b j) [] := by
  obtain ⟨hC, hF, hNT, hT, hK, hG, hG3⟩ := hE
  exact l_get hC (c_forkedPairs x.2.1 g z0 σ hI.1.ci.1) (m_forkedPairs x.2.1 g z0 σ hI.1.2.1.1) k_X9_forkedPairs k_X10_forkedPairs wM_L_231 wM_L_234 (by decide) (by decide) rfl rfl (congrArg nI (iq_fp hI.1)) ⟨dL_law_2089, dL_law_2090, dL_law_2093, dL_law_2094, _, dL_law_2097, by decide⟩ (by omega) (by omega) hc1 hc2 hI kk
theorem lc_35 {KA : KAd} (hE : EN x g z0 b L xs KA rt) (hj : j + 6 ≤ L) (hI : Inv σ σ) (hc1 : n1 + 3 ≤ x.2.2.2.1.cells) (hc2 : n2 + 18 ≤ x.2.2.2.1.slots) (kk : ∀ σ', Inv σ' σ' → GG x g z0 7 (n1 + 3) (n2 + 18) Q σ' 2388 (LV0 g b j) []) : GG x g z0 7 n1 n2 Q σ 2158 (LV0 g b j) [] := by
  obtain ⟨hC, hF, hNT, hT, hK, hG, hG3⟩ := hE
  exact l_get hC (c_blames x.2.1 g z0 σ ) (m_blames_ x.2.1 g z0 σ ) k_X9_blames k_X10_blames_ wM_L_238 wM_L_241 (by decide) (by decide) rfl rfl (hI.1.1.nbl) ⟨dL_law_2158, dL_law_2159, dL_law_2162, dL_law_2163, _, dL_law_2166, by decide⟩ (by omega) (by omega) hc1 hc2 hI kk
theorem lc_37 {KA : KAd} (hE : EN x g z0 b L xs KA rt) (hj : j + 6 ≤ L) (hI : Inv σ σ) (hc1 : n1 + 3 ≤ x.2.2.2.1.cells) (hc2 : n2 + 18 ≤ x.2.2.2.1.slots) (kk : ∀ σ', Inv σ' σ' → GG x g z0 7 (n1 + 3) (n2 + 18) Q σ' 2388 (LV0 g b j) []) : GG x g z0 7 n1 n2 Q σ 2239 (LV0 g b j) [] := by
  obtain ⟨hC, hF, hNT, hT, hK, hG, hG3⟩ := hE
  exact l_get hC (c_posts x.2.1 g z0 σ ) (m_posts x.2.1 g z0 σ ) k_X9_posts k_X10_posts wM_L_245 wM_L_248 (by decide) (by decide) rfl rfl (hI.1.1.nps) ⟨dL_law_2239, dL_law_2240, dL_law_2243, dL_law_2244, _, dL_law_2247, by decide⟩ (by omega) (by omega) hc1 hc2 hI kk
theorem lc_11 {KA : KAd} (hE : EN x g z0 b L xs KA rt) (hj : j + 6 ≤ L) (hI : Inv σ σ) (hc1 : n1 + 3 ≤ x.2.2.2.1.cells) (hc2 : n2 + 18 ≤ x.2.2.2.1.slots) (kk : ∀ σ', Inv σ' σ' → GG x g z0 7 (n1 + 3) (n2 + 18) Q σ' 2388 (LV0 g b j) []) : GG x g z0 7 n1 n2 Q σ 806 (LV0 g b j) [] := by
  obtain ⟨hC, hF, hNT, hT, hK, hG, hG3⟩ := hE
  have hk : KU σ (cI (vl2 (nI (rd σ 8 4)) (xs (j + 1))) (uv (cth σ (cn (xs (j + 1))) (rd σ (90 + 3 * cn (xs (j + 1))) 3)) (90 + 3 * cn (xs (j + 1))) 5 (nI 0)) σ) := KU.c (fun q => by
    have h6 := (hI.1.ci.1.cl q).2.2
    exact (KU_cth σ h6 _).u _ (by omega)) fun _ => KU.rf σ
  have hA := cl_A (w := wCl σ (xs (j + 1))) (val := ((cth σ (cn (xs (j + 1))) (rd σ (90 + 3 * cn (xs (j + 1))) 3)).1 (90 + 3 * cn (xs (j + 1))) 2).toInt64) hI hk
  have z := iv_ad hA.1 (xs (j + 1))
  have o := qd_c z.2
  refine g_aload_n (pc' := 807) (j := 3) hC dL_law_806 rfl rfl rfl ?_
  refine a_arg (k := 1) (j0 := 4) (j4 := 0) (pc' := 813) hC hF (by omega) rfl rfl rfl dL_law_807 dL_law_808 dL_law_810 dL_law_811 dL_law_812 rfl ?_
  refine g_aload_n (pc' := 814) (j := 1) hC dL_law_813 rfl rfl rfl ?_
  refine l_call (pc' := 820) hC (h_adopt x.2.1 g z0 σ (xs (j + 1)) (hNT) (hT) (hI.1.ci.1) (hG3) (o.1)) kh_adopt wM_L_160 rfl rfl dL_law_814 dL_law_817 dL_law_819 rfl (by omega) (by omega) ?_
  refine a_arg (k := 1) (j0 := 5) (j4 := 1) (pc' := 826) hC hF (by omega) rfl rfl rfl dL_law_820 dL_law_821 dL_law_823 dL_law_824 dL_law_825 rfl ?_
  exact l_mod (pc' := 829) hC (m_adopt x.2.1 g z0 _ (xs (j + 1)) (hA.1.2.1.1)) k_X10_adopt wM_L_162 (by decide) (ct_15 g _) rfl rfl rfl rfl dL_law_826 rfl ⟨dL_law_829, dL_law_831, dL_law_832, dL_law_835, dL_law_837, dL_law_842, dL_law_844, dL_law_847, dL_law_848, dL_law_849, dL_law_850, dL_law_852, dL_law_853, dL_law_854, ⟨_, dL_law_859, by decide⟩⟩ (by omega) (by omega) hc1 hc2 (cl_Z hI hk z.1 (MK_mad hA.1.2.1 _).2 (kof1_0 _) o.2.1 o.2.2) kk
theorem lc_10 {KA : KAd} (hE : EN x g z0 b L xs KA rt) (hj : j + 6 ≤ L) (hI : Inv σ σ) (hc1 : n1 + 3 ≤ x.2.2.2.1.cells) (hc2 : n2 + 18 ≤ x.2.2.2.1.slots) (kk : ∀ σ', Inv σ' σ' → GG x g z0 7 (n1 + 3) (n2 + 18) Q σ' 2388 (LV0 g b j) []) : GG x g z0 7 n1 n2 Q σ 743 (LV0 g b j) [] := by
  obtain ⟨hC, hF, hNT, hT, hK, hG, hG3⟩ := hE
  have hk : KU σ (cI (vl2 (nI (rd σ 8 4)) (xs (j + 1))) (uv σ (90 + 3 * cn (xs (j + 1))) 5 (nI 0)) σ) := KU.c (fun q => by
    have h6 := (hI.1.ci.1.cl q).2.2
    exact (KU.rf σ).u _ (by omega)) fun _ => KU.rf σ
  have hA := cl_A (w := wCl σ (xs (j + 1))) (val := cI (σ.1 (90 + 3 * cn (xs (j + 1))) 5 = 0) 0 1) hI hk
  have z := iv_ca hA.1 (xs (j + 1))
  have o := qd_b (z.2.imp (fun y => ⟨y.1, y.2.1, y.2.2.1⟩) id)
  refine g_aload_n (pc' := 744) (j := 3) hC dL_law_743 rfl rfl rfl ?_
  refine a_arg (k := 1) (j0 := 4) (j4 := 0) (pc' := 750) hC hF (by omega) rfl rfl rfl dL_law_744 dL_law_745 dL_law_747 dL_law_748 dL_law_749 rfl ?_
  refine g_aload_n (pc' := 751) (j := 1) hC dL_law_750 rfl rfl rfl ?_
  refine l_call (pc' := 757) hC (h_calm x.2.1 g z0 σ (xs (j + 1)) (hNT) (hT) (hI.1.ci.1) (hG3) (o.1)) kh_calm wM_L_157 rfl rfl dL_law_751 dL_law_754 dL_law_756 rfl (by omega) (by omega) ?_
  refine a_arg (k := 1) (j0 := 5) (j4 := 1) (pc' := 763) hC hF (by omega) rfl rfl rfl dL_law_757 dL_law_758 dL_law_760 dL_law_761 dL_law_762 rfl ?_
  exact l_modb (pc' := 766) hC (m_calm x.2.1 g z0 _ (xs (j + 1)) (hA.1.2.1.1)) k_X10_calm wM_L_159 (by decide) (ct_15 g _) rfl rfl rfl rfl dL_law_763 rfl ⟨dL_law_766, dL_law_768, dL_law_769, dL_law_772, dL_law_774, dL_law_779, dL_law_781, dL_law_784, dL_law_785, dL_law_786, dL_law_787, dL_law_789, dL_law_792, dL_law_793, dL_law_796, dL_law_797, dL_law_798, ⟨_, dL_law_803, by decide⟩⟩ (by omega) (by omega) hc1 hc2 (cl_B hI hk z.1 (MK_mca hA.1.2.1 _).2 (kof1_0 _) o.2.1 o.2.2) kk
theorem lc_31 {KA : KAd} (hE : EN x g z0 b L xs KA rt) (hj : j + 6 ≤ L) (hI : Inv σ σ) (hc1 : n1 + 3 ≤ x.2.2.2.1.cells) (hc2 : n2 + 18 ≤ x.2.2.2.1.slots) (kk : ∀ σ', Inv σ' σ' → GG x g z0 7 (n1 + 3) (n2 + 18) Q σ' 2388 (LV0 g b j) []) : GG x g z0 7 n1 n2 Q σ 1970 (LV0 g b j) [] := by
  obtain ⟨hC, hF, hNT, hT, hK, hG, hG3⟩ := hE
  have hk : KU σ σ := KU.rf σ
  have hA := cl_A (w := wCl σ (xs (j + 1))) (val := cI (σ.1 (90 + 3 * cn (xs (j + 1))) 5 = 0) 0 1) hI hk
  have z := iq_is hA.1 (xs (j + 1))
  have o := qd_b z.2.1
  refine g_aload_n (pc' := 1971) (j := 3) hC dL_law_1970 rfl rfl rfl ?_
  refine a_arg (k := 1) (j0 := 4) (j4 := 0) (pc' := 1977) hC hF (by omega) rfl rfl rfl dL_law_1971 dL_law_1972 dL_law_1974 dL_law_1975 dL_law_1976 rfl ?_
  refine g_aload_n (pc' := 1978) (j := 1) hC dL_law_1977 rfl rfl rfl ?_
  refine l_call (pc' := 1984) hC (h_isSuspicious x.2.1 g z0 σ (xs (j + 1)) (hNT) (hT) (hI.1.ci.1) (hG3) (o.1)) kh_isSuspicious wM_L_225 rfl rfl dL_law_1978 dL_law_1981 dL_law_1983 rfl (by omega) (by omega) ?_
  refine a_arg (k := 1) (j0 := 5) (j4 := 1) (pc' := 1990) hC hF (by omega) rfl rfl rfl dL_law_1984 dL_law_1985 dL_law_1987 dL_law_1988 dL_law_1989 rfl ?_
  exact l_modb (pc' := 1993) hC (m_isSuspicious x.2.1 g z0 _ (xs (j + 1)) (hA.1.2.1.1)) k_X10_isSuspicious wM_L_227 (by decide) (ct_15 g _) rfl rfl rfl rfl dL_law_1990 rfl ⟨dL_law_1993, dL_law_1995, dL_law_1996, dL_law_1999, dL_law_2001, dL_law_2006, dL_law_2008, dL_law_2011, dL_law_2012, dL_law_2013, dL_law_2014, dL_law_2016, dL_law_2019, dL_law_2020, dL_law_2023, dL_law_2024, dL_law_2025, ⟨_, dL_law_2030, by decide⟩⟩ (by omega) (by omega) hc1 hc2 (cl_B hI hk z.1 (OFq_mis _ _) (kof1_0 _) o.2.1 o.2.2) kk
theorem lc_27 {KA : KAd} (hE : EN x g z0 b L xs KA rt) (hj : j + 6 ≤ L) (hI : Inv σ σ) (hc1 : n1 + 3 ≤ x.2.2.2.1.cells) (hc2 : n2 + 18 ≤ x.2.2.2.1.slots) (kk : ∀ σ', Inv σ' σ' → GG x g z0 7 (n1 + 3) (n2 + 18) Q σ' 2388 (LV0 g b j) []) : GG x g z0 7 n1 n2 Q σ 1705 (LV0 g b j) [] := by
  obtain ⟨hC, hF, hNT, hT, hK, hG, hG3⟩ := hE
  refine gg_widen (show n1 ≤ n1 + 3 by omega) (show n2 ≤ n2 + 18 by omega) ?_
  refine g_aload_n (pc' := 1706) (j := 3) hC dL_law_1705 rfl rfl rfl ?_
  refine a_arg (k := 1) (j0 := 4) (j4 := 0) (pc' := 1712) hC hF (by omega) rfl rfl rfl dL_law_1706 dL_law_1707 dL_law_1709 dL_law_1710 dL_law_1711 rfl ?_
  refine a_arg (k := 2) (j0 := 4) (j4 := 0) (pc' := 1718) hC hF (by omega) rfl rfl rfl dL_law_1712 dL_law_1713 dL_law_1715 dL_law_1716 dL_law_1717 rfl ?_
  refine a_arg (k := 3) (j0 := 4) (j4 := 0) (pc' := 1724) hC hF (by omega) rfl rfl rfl dL_law_1718 dL_law_1719 dL_law_1721 dL_law_1722 dL_law_1723 rfl ?_
  refine a_arg (k := 4) (j0 := 4) (j4 := 0) (pc' := 1730) hC hF (by omega) rfl rfl rfl dL_law_1724 dL_law_1725 dL_law_1727 dL_law_1728 dL_law_1729 rfl ?_
  refine f_Vi (pc' := 1733) (k := 0) (st := []) hC (c_isSigned x.2.1 g z0 σ (xs (j + 1)) (xs (j + 2)) (xs (j + 3)) (xs (j + 4)) hI.1.ci.1) k_X9_isSigned wM_L_211 (by decide) (by decide) (ct_0 g σ) rfl rfl rfl rfl (Nat.le_of_ble_eq_true rfl) dL_law_1730 rfl hc1 hc2 ?_
  refine g_aload_n (pc' := 1734) (j := 2) hC dL_law_1733 rfl rfl rfl ?_
  refine a_arg (k := 1) (j0 := 4) (j4 := 0) (pc' := 1740) hC hF (by omega) rfl rfl rfl dL_law_1734 dL_law_1735 dL_law_1737 dL_law_1738 dL_law_1739 rfl ?_
  refine a_arg (k := 2) (j0 := 4) (j4 := 0) (pc' := 1746) hC hF (by omega) rfl rfl rfl dL_law_1740 dL_law_1741 dL_law_1743 dL_law_1744 dL_law_1745 rfl ?_
  refine a_arg (k := 3) (j0 := 4) (j4 := 0) (pc' := 1752) hC hF (by omega) rfl rfl rfl dL_law_1746 dL_law_1747 dL_law_1749 dL_law_1750 dL_law_1751 rfl ?_
  refine a_arg (k := 4) (j0 := 4) (j4 := 0) (pc' := 1758) hC hF (by omega) rfl rfl rfl dL_law_1752 dL_law_1753 dL_law_1755 dL_law_1756 dL_law_1757 rfl ?_
  refine f_Vi (pc' := 1761) (k := 15) (st := [.int (bI (csg σ (xs (j + 1)) (xs (j + 2)) (xs (j + 3)) (xs (j + 4))))]) hC (m_isSigned x.2.1 g z0 σ (xs (j + 1)) (xs (j + 2)) (xs (j + 3)) (xs (j + 4))) k_X10_isSigned wM_L_215 (by decide) (by decide) (ct_15 g σ) rfl rfl rfl rfl (Nat.le_of_ble_eq_true rfl) dL_law_1758 rfl hc1 hc2 ?_
  exact g_icmp_eq (pc' := 1764) (tgt := 2388) hC dL_law_1761 (by decide) rfl (fun _ => kk _ hI.m0s) (fun z => absurd (bI_c (iq_sg hI.1 (xs (j + 1)) (xs (j + 2)) (xs (j + 3)) (xs (j + 4)))) z)
end LAW2
