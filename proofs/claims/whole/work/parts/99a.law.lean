/-! the turns of the law -/
section LAW
variable {x : Ctx} {g : Lay} {z0 n1 n2 : Nat} {Q : State → Prop} {σ : St} {rt : Option FieldType} {b L j : Nat} {xs : Nat → Int32}
theorem lc_6 {KA : KAd} (hE : EN x g z0 b L xs KA rt) (hj : j + 6 ≤ L) (hI : Inv σ σ) (hc1 : n1 + 3 ≤ x.2.2.2.1.cells) (hc2 : n2 + 18 ≤ x.2.2.2.1.slots) (kk : ∀ σ', Inv σ' σ' → GG x g z0 7 (n1 + 3) (n2 + 18) Q σ' 2388 (LV0 g b j) []) : GG x g z0 7 n1 n2 Q σ 471 (LV0 g b j) [] := by
  obtain ⟨hC, hF, hNT, hT, hK, hG, hG3⟩ := hE
  have hk : KU σ (cwr σ (xs (j + 1)) (xs (j + 2)) (xs (j + 3))).2 := KU_cwr hI.1.ci.1 (xs (j + 1)) (xs (j + 2)) (xs (j + 3))
  have hA := cl_A (w := wr9 (cwr σ (xs (j + 1)) (xs (j + 2)) (xs (j + 3))).1) (val := ((cwr σ (xs (j + 1)) (xs (j + 2)) (xs (j + 3))).1).toInt64) hI hk
  have z := iv_wr hA.1 (xs (j + 1)) (xs (j + 2)) (xs (j + 3))
  have o := oc_123 z.2
  refine g_aload_n (pc' := 472) (j := 3) hC dL_law_471 rfl rfl rfl ?_
  refine a_arg (k := 1) (j0 := 4) (j4 := 0) (pc' := 478) hC hF (by omega) rfl rfl rfl dL_law_472 dL_law_473 dL_law_475 dL_law_476 dL_law_477 rfl ?_
  refine a_arg (k := 2) (j0 := 4) (j4 := 0) (pc' := 484) hC hF (by omega) rfl rfl rfl dL_law_478 dL_law_479 dL_law_481 dL_law_482 dL_law_483 rfl ?_
  refine a_arg (k := 3) (j0 := 4) (j4 := 0) (pc' := 490) hC hF (by omega) rfl rfl rfl dL_law_484 dL_law_485 dL_law_487 dL_law_488 dL_law_489 rfl ?_
  refine g_aload_n (pc' := 491) (j := 1) hC dL_law_490 rfl rfl rfl ?_
  refine l_call (pc' := 497) hC (h_write x.2.1 g z0 σ (xs (j + 1)) (xs (j + 2)) (xs (j + 3)) (hNT) (hT) (hG) (hI.1.ci.1) (hG3) (o.1)) kh_write wM_L_143 rfl rfl dL_law_491 dL_law_494 dL_law_496 rfl (by omega) (by omega) ?_
  refine a_arg (k := 1) (j0 := 5) (j4 := 1) (pc' := 503) hC hF (by omega) rfl rfl rfl dL_law_497 dL_law_498 dL_law_500 dL_law_501 dL_law_502 rfl ?_
  refine a_arg (k := 2) (j0 := 5) (j4 := 1) (pc' := 509) hC hF (by omega) rfl rfl rfl dL_law_503 dL_law_504 dL_law_506 dL_law_507 dL_law_508 rfl ?_
  refine a_arg (k := 3) (j0 := 5) (j4 := 1) (pc' := 515) hC hF (by omega) rfl rfl rfl dL_law_509 dL_law_510 dL_law_512 dL_law_513 dL_law_514 rfl ?_
  exact l_mod (pc' := 518) hC (m_write x.2.1 g z0 _ (xs (j + 1)) (xs (j + 2)) (xs (j + 3)) (hA.1.2.1.1)) k_X10_write wM_L_146 (by decide) (ct_15 g _) rfl rfl rfl rfl dL_law_515 rfl ⟨dL_law_518, dL_law_520, dL_law_521, dL_law_524, dL_law_526, dL_law_531, dL_law_533, dL_law_536, dL_law_537, dL_law_538, dL_law_539, dL_law_541, dL_law_542, dL_law_543, ⟨_, dL_law_548, by decide⟩⟩ (by omega) (by omega) hc1 hc2 (cl_Z hI hk z.1 (MK_mwr hA.1.2.1 _ _ _ ).2 (kof3_0 _ _ _) o.2.1 o.2.2) kk
theorem lc_7 {KA : KAd} (hE : EN x g z0 b L xs KA rt) (hj : j + 6 ≤ L) (hI : Inv σ σ) (hc1 : n1 + 3 ≤ x.2.2.2.1.cells) (hc2 : n2 + 18 ≤ x.2.2.2.1.slots) (kk : ∀ σ', Inv σ' σ' → GG x g z0 7 (n1 + 3) (n2 + 18) Q σ' 2388 (LV0 g b j) []) : GG x g z0 7 n1 n2 Q σ 551 (LV0 g b j) [] := by
  obtain ⟨hC, hF, hNT, hT, hK, hG, hG3⟩ := hE
  have hk : KU σ (crd σ (xs (j + 1)) (xs (j + 2))).2 := KU_crd hI.1.ci.1 (xs (j + 1)) (xs (j + 2))
  have hA := cl_A (w := wr9 (crd σ (xs (j + 1)) (xs (j + 2))).1) (val := ((crd σ (xs (j + 1)) (xs (j + 2))).1).toInt64) hI hk
  have z := iv_rd hA.1 (xs (j + 1)) (xs (j + 2))
  have o := oc_102 z.2
  refine g_aload_n (pc' := 552) (j := 3) hC dL_law_551 rfl rfl rfl ?_
  refine a_arg (k := 1) (j0 := 4) (j4 := 0) (pc' := 558) hC hF (by omega) rfl rfl rfl dL_law_552 dL_law_553 dL_law_555 dL_law_556 dL_law_557 rfl ?_
  refine a_arg (k := 2) (j0 := 4) (j4 := 0) (pc' := 564) hC hF (by omega) rfl rfl rfl dL_law_558 dL_law_559 dL_law_561 dL_law_562 dL_law_563 rfl ?_
  refine g_aload_n (pc' := 565) (j := 1) hC dL_law_564 rfl rfl rfl ?_
  refine l_call (pc' := 571) hC (h_read x.2.1 g z0 σ (xs (j + 1)) (xs (j + 2)) (hNT) (hT) (hG) (hI.1.ci.1) (hG3) (o.1)) kh_read wM_L_147 rfl rfl dL_law_565 dL_law_568 dL_law_570 rfl (by omega) (by omega) ?_
  refine a_arg (k := 1) (j0 := 5) (j4 := 1) (pc' := 577) hC hF (by omega) rfl rfl rfl dL_law_571 dL_law_572 dL_law_574 dL_law_575 dL_law_576 rfl ?_
  refine a_arg (k := 2) (j0 := 5) (j4 := 1) (pc' := 583) hC hF (by omega) rfl rfl rfl dL_law_577 dL_law_578 dL_law_580 dL_law_581 dL_law_582 rfl ?_
  exact l_mod (pc' := 586) hC (m_read x.2.1 g z0 _ (xs (j + 1)) (xs (j + 2)) (hA.1.2.1.1)) k_X10_read wM_L_150 (by decide) (ct_15 g _) rfl rfl rfl rfl dL_law_583 rfl ⟨dL_law_586, dL_law_588, dL_law_589, dL_law_592, dL_law_594, dL_law_599, dL_law_601, dL_law_604, dL_law_605, dL_law_606, dL_law_607, dL_law_609, dL_law_610, dL_law_611, ⟨_, dL_law_616, by decide⟩⟩ (by omega) (by omega) hc1 hc2 (cl_Z hI hk z.1 (MK_mrd hA.1.2.1 _ _ ).2 (kof2_0 _ _) o.2.1 o.2.2) kk
theorem lc_8 {KA : KAd} (hE : EN x g z0 b L xs KA rt) (hj : j + 6 ≤ L) (hI : Inv σ σ) (hc1 : n1 + 3 ≤ x.2.2.2.1.cells) (hc2 : n2 + 18 ≤ x.2.2.2.1.slots) (kk : ∀ σ', Inv σ' σ' → GG x g z0 7 (n1 + 3) (n2 + 18) Q σ' 2388 (LV0 g b j) []) : GG x g z0 7 n1 n2 Q σ 619 (LV0 g b j) [] := by
  obtain ⟨hC, hF, hNT, hT, hK, hG, hG3⟩ := hE
  have hk : KU σ (cxc σ (xs (j + 1)) (xs (j + 2))).2 := KU_cxc hI.1.ci.1 (xs (j + 1)) (xs (j + 2))
  have hA := cl_A (w := wr9 (cxc σ (xs (j + 1)) (xs (j + 2))).1) (val := ((cxc σ (xs (j + 1)) (xs (j + 2))).1).toInt64) hI hk
  have z := iv_xc hA.1 (xs (j + 1)) (xs (j + 2))
  have o := oc_100 z.2
  refine g_aload_n (pc' := 620) (j := 3) hC dL_law_619 rfl rfl rfl ?_
  refine a_arg (k := 1) (j0 := 4) (j4 := 0) (pc' := 626) hC hF (by omega) rfl rfl rfl dL_law_620 dL_law_621 dL_law_623 dL_law_624 dL_law_625 rfl ?_
  refine a_arg (k := 2) (j0 := 4) (j4 := 0) (pc' := 632) hC hF (by omega) rfl rfl rfl dL_law_626 dL_law_627 dL_law_629 dL_law_630 dL_law_631 rfl ?_
  refine g_aload_n (pc' := 633) (j := 1) hC dL_law_632 rfl rfl rfl ?_
  refine l_call (pc' := 639) hC (h_exchange x.2.1 g z0 σ (xs (j + 1)) (xs (j + 2)) (hNT) (hT) (hG) (hI.1.ci.1) (hG3) (o.1)) kh_exchange wM_L_151 rfl rfl dL_law_633 dL_law_636 dL_law_638 rfl (by omega) (by omega) ?_
  refine a_arg (k := 1) (j0 := 5) (j4 := 1) (pc' := 645) hC hF (by omega) rfl rfl rfl dL_law_639 dL_law_640 dL_law_642 dL_law_643 dL_law_644 rfl ?_
  refine a_arg (k := 2) (j0 := 5) (j4 := 1) (pc' := 651) hC hF (by omega) rfl rfl rfl dL_law_645 dL_law_646 dL_law_648 dL_law_649 dL_law_650 rfl ?_
  exact l_mod (pc' := 654) hC (m_exchange x.2.1 g z0 _ (xs (j + 1)) (xs (j + 2)) (hA.1.2.1.1)) k_X10_exchange wM_L_153 (by decide) (ct_15 g _) rfl rfl rfl rfl dL_law_651 rfl ⟨dL_law_654, dL_law_656, dL_law_657, dL_law_660, dL_law_662, dL_law_667, dL_law_669, dL_law_672, dL_law_673, dL_law_674, dL_law_675, dL_law_677, dL_law_678, dL_law_679, ⟨_, dL_law_684, by decide⟩⟩ (by omega) (by omega) hc1 hc2 (cl_Z hI hk z.1 (MK_mxc hA.1.2.1 _ _ ).2 (kof1_0 _) o.2.1 o.2.2) kk
theorem lc_9 {KA : KAd} (hE : EN x g z0 b L xs KA rt) (hj : j + 6 ≤ L) (hI : Inv σ σ) (hc1 : n1 + 3 ≤ x.2.2.2.1.cells) (hc2 : n2 + 18 ≤ x.2.2.2.1.slots) (kk : ∀ σ', Inv σ' σ' → GG x g z0 7 (n1 + 3) (n2 + 18) Q σ' 2388 (LV0 g b j) []) : GG x g z0 7 n1 n2 Q σ 687 (LV0 g b j) [] := by
  obtain ⟨hC, hF, hNT, hT, hK, hG, hG3⟩ := hE
  have hk : KU σ (cpo σ (xs (j + 1))).2 := KU_cpo (xs (j + 1))
  have hA := cl_A (w := wr9 (cpo σ (xs (j + 1))).1) (val := ((cpo σ (xs (j + 1))).1).toInt64) hI hk
  have z := iv_po hA.1 (xs (j + 1))
  have o := oc_100 z.2
  refine g_aload_n (pc' := 688) (j := 3) hC dL_law_687 rfl rfl rfl ?_
  refine a_arg (k := 1) (j0 := 4) (j4 := 0) (pc' := 694) hC hF (by omega) rfl rfl rfl dL_law_688 dL_law_689 dL_law_691 dL_law_692 dL_law_693 rfl ?_
  refine g_aload_n (pc' := 695) (j := 1) hC dL_law_694 rfl rfl rfl ?_
  refine l_call (pc' := 701) hC (h_post x.2.1 g z0 σ (xs (j + 1)) (hNT) (hT) (hI.1.ci.1) (hG3) (o.1)) kh_post wM_L_154 rfl rfl dL_law_695 dL_law_698 dL_law_700 rfl (by omega) (by omega) ?_
  refine a_arg (k := 1) (j0 := 5) (j4 := 1) (pc' := 707) hC hF (by omega) rfl rfl rfl dL_law_701 dL_law_702 dL_law_704 dL_law_705 dL_law_706 rfl ?_
  exact l_mod (pc' := 710) hC (m_post x.2.1 g z0 _ (xs (j + 1)) (hA.1.2.1.1)) k_X10_post wM_L_156 (by decide) (ct_15 g _) rfl rfl rfl rfl dL_law_707 rfl ⟨dL_law_710, dL_law_712, dL_law_713, dL_law_716, dL_law_718, dL_law_723, dL_law_725, dL_law_728, dL_law_729, dL_law_730, dL_law_731, dL_law_733, dL_law_734, dL_law_735, ⟨_, dL_law_740, by decide⟩⟩ (by omega) (by omega) hc1 hc2 (cl_Z hI hk z.1 (MK_mpo hA.1.2.1 _ ).2 (kof1_0 _) o.2.1 o.2.2) kk
theorem lc_12 {KA : KAd} (hE : EN x g z0 b L xs KA rt) (hj : j + 6 ≤ L) (hI : Inv σ σ) (hc1 : n1 + 3 ≤ x.2.2.2.1.cells) (hc2 : n2 + 18 ≤ x.2.2.2.1.slots) (kk : ∀ σ', Inv σ' σ' → GG x g z0 7 (n1 + 3) (n2 + 18) Q σ' 2388 (LV0 g b j) []) : GG x g z0 7 n1 n2 Q σ 862 (LV0 g b j) [] := by
  obtain ⟨hC, hF, hNT, hT, hK, hG, hG3⟩ := hE
  have hk : KU σ (cfo σ (xs (j + 1))).2 := KU_cfo hI.1.ci.1 (xs (j + 1))
  have hA := cl_A (w := wr9 (cfo σ (xs (j + 1))).1) (val := ((cfo σ (xs (j + 1))).1).toInt64) hI hk
  have z := iv_fo hA.1 (xs (j + 1))
  have o := oc_012 z.2
  refine g_aload_n (pc' := 863) (j := 3) hC dL_law_862 rfl rfl rfl ?_
  refine a_arg (k := 1) (j0 := 4) (j4 := 0) (pc' := 869) hC hF (by omega) rfl rfl rfl dL_law_863 dL_law_864 dL_law_866 dL_law_867 dL_law_868 rfl ?_
  refine g_aload_n (pc' := 870) (j := 1) hC dL_law_869 rfl rfl rfl ?_
  refine l_call (pc' := 876) hC (h_fork x.2.1 g z0 σ (xs (j + 1)) (hNT) (hT) (hI.1.ci.1) (hI.1.ci.2) (hG3) (o.1)) kh_fork wM_L_163 rfl rfl dL_law_870 dL_law_873 dL_law_875 rfl (by omega) (by omega) ?_
  refine a_arg (k := 1) (j0 := 5) (j4 := 1) (pc' := 882) hC hF (by omega) rfl rfl rfl dL_law_876 dL_law_877 dL_law_879 dL_law_880 dL_law_881 rfl ?_
  exact l_mod (pc' := 885) hC (m_fork x.2.1 g z0 _ (xs (j + 1)) (hA.1.2.1.1) (hA.1.2.1.2)) k_X10_fork wM_L_165 (by decide) (ct_15 g _) rfl rfl rfl rfl dL_law_882 rfl ⟨dL_law_885, dL_law_887, dL_law_888, dL_law_891, dL_law_893, dL_law_898, dL_law_900, dL_law_903, dL_law_904, dL_law_905, dL_law_906, dL_law_908, dL_law_909, dL_law_910, ⟨_, dL_law_915, by decide⟩⟩ (by omega) (by omega) hc1 hc2 (cl_Z hI hk z.1 (MK_mfo hA.1.2.1 _ ).2 (kof2_0 _ _) o.2.1 o.2.2) kk
theorem lc_13 {KA : KAd} (hE : EN x g z0 b L xs KA rt) (hj : j + 6 ≤ L) (hI : Inv σ σ) (hc1 : n1 + 3 ≤ x.2.2.2.1.cells) (hc2 : n2 + 18 ≤ x.2.2.2.1.slots) (kk : ∀ σ', Inv σ' σ' → GG x g z0 7 (n1 + 3) (n2 + 18) Q σ' 2388 (LV0 g b j) []) : GG x g z0 7 n1 n2 Q σ 918 (LV0 g b j) [] := by
  obtain ⟨hC, hF, hNT, hT, hK, hG, hG3⟩ := hE
  have hk : KU σ (cmv σ (xs (j + 1)) (xs (j + 2))).2 := KU_cmv hI.1.ci.1 (xs (j + 1)) (xs (j + 2))
  have hA := cl_A (w := wr9 (cmv σ (xs (j + 1)) (xs (j + 2))).1) (val := ((cmv σ (xs (j + 1)) (xs (j + 2))).1).toInt64) hI hk
  have z := iv_mv hA.1 (xs (j + 1)) (xs (j + 2))
  have o := oc_100 z.2
  refine g_aload_n (pc' := 919) (j := 3) hC dL_law_918 rfl rfl rfl ?_
  refine a_arg (k := 1) (j0 := 4) (j4 := 0) (pc' := 925) hC hF (by omega) rfl rfl rfl dL_law_919 dL_law_920 dL_law_922 dL_law_923 dL_law_924 rfl ?_
  refine a_arg (k := 2) (j0 := 4) (j4 := 0) (pc' := 931) hC hF (by omega) rfl rfl rfl dL_law_925 dL_law_926 dL_law_928 dL_law_929 dL_law_930 rfl ?_
  refine g_aload_n (pc' := 932) (j := 1) hC dL_law_931 rfl rfl rfl ?_
  refine l_call (pc' := 938) hC (h_move x.2.1 g z0 σ (xs (j + 1)) (xs (j + 2)) (hNT) (hT) (hI.1.ci.1) (hG3) (o.1)) kh_move wM_L_166 rfl rfl dL_law_932 dL_law_935 dL_law_937 rfl (by omega) (by omega) ?_
  refine a_arg (k := 1) (j0 := 5) (j4 := 1) (pc' := 944) hC hF (by omega) rfl rfl rfl dL_law_938 dL_law_939 dL_law_941 dL_law_942 dL_law_943 rfl ?_
  refine a_arg (k := 2) (j0 := 5) (j4 := 1) (pc' := 950) hC hF (by omega) rfl rfl rfl dL_law_944 dL_law_945 dL_law_947 dL_law_948 dL_law_949 rfl ?_
  exact l_mod (pc' := 953) hC (m_move x.2.1 g z0 _ (xs (j + 1)) (xs (j + 2)) (hA.1.2.1.1)) k_X10_move wM_L_168 (by decide) (ct_15 g _) rfl rfl rfl rfl dL_law_950 rfl ⟨dL_law_953, dL_law_955, dL_law_956, dL_law_959, dL_law_961, dL_law_966, dL_law_968, dL_law_971, dL_law_972, dL_law_973, dL_law_974, dL_law_976, dL_law_977, dL_law_978, ⟨_, dL_law_983, by decide⟩⟩ (by omega) (by omega) hc1 hc2 (cl_Z hI hk z.1 (MK_mmv hA.1.2.1 _ _ ).2 (kof1_0 _) o.2.1 o.2.2) kk
theorem lc_14 {KA : KAd} (hE : EN x g z0 b L xs KA rt) (hj : j + 6 ≤ L) (hI : Inv σ σ) (hc1 : n1 + 3 ≤ x.2.2.2.1.cells) (hc2 : n2 + 18 ≤ x.2.2.2.1.slots) (kk : ∀ σ', Inv σ' σ' → GG x g z0 7 (n1 + 3) (n2 + 18) Q σ' 2388 (LV0 g b j) []) : GG x g z0 7 n1 n2 Q σ 986 (LV0 g b j) [] := by
  obtain ⟨hC, hF, hNT, hT, hK, hG, hG3⟩ := hE
  have hk : KU σ (crw σ (xs (j + 1)) (xs (j + 2))).2 := KU_crw hI.1.ci.1 (xs (j + 1)) (xs (j + 2))
  have hA := cl_A (w := wr9 (crw σ (xs (j + 1)) (xs (j + 2))).1) (val := ((crw σ (xs (j + 1)) (xs (j + 2))).1).toInt64) hI hk
  have z := iv_rw hA.1 (xs (j + 1)) (xs (j + 2))
  have o := oc_120 z.2
  refine g_aload_n (pc' := 987) (j := 3) hC dL_law_986 rfl rfl rfl ?_
  refine a_arg (k := 1) (j0 := 4) (j4 := 0) (pc' := 993) hC hF (by omega) rfl rfl rfl dL_law_987 dL_law_988 dL_law_990 dL_law_991 dL_law_992 rfl ?_
  refine a_arg (k := 2) (j0 := 4) (j4 := 0) (pc' := 999) hC hF (by omega) rfl rfl rfl dL_law_993 dL_law_994 dL_law_996 dL_law_997 dL_law_998 rfl ?_
  refine g_aload_n (pc' := 1000) (j := 1) hC dL_law_999 rfl rfl rfl ?_
  refine l_call (pc' := 1006) hC (h_rewind x.2.1 g z0 σ (xs (j + 1)) (xs (j + 2)) (hNT) (hT) (hI.1.ci.1) (hG3) (o.1)) kh_rewind wM_L_169 rfl rfl dL_law_1000 dL_law_1003 dL_law_1005 rfl (by omega) (by omega) ?_
  refine a_arg (k := 1) (j0 := 5) (j4 := 1) (pc' := 1012) hC hF (by omega) rfl rfl rfl dL_law_1006 dL_law_1007 dL_law_1009 dL_law_1010 dL_law_1011 rfl ?_
  refine a_arg (k := 2) (j0 := 5) (j4 := 1) (pc' := 1018) hC hF (by omega) rfl rfl rfl dL_law_1012 dL_law_1013 dL_law_1015 dL_law_1016 dL_law_1017 rfl ?_
  exact l_mod (pc' := 1021) hC (m_rewind x.2.1 g z0 _ (xs (j + 1)) (xs (j + 2)) (hA.1.2.1.1)) k_X10_rewind wM_L_171 (by decide) (ct_15 g _) rfl rfl rfl rfl dL_law_1018 rfl ⟨dL_law_1021, dL_law_1023, dL_law_1024, dL_law_1027, dL_law_1029, dL_law_1034, dL_law_1036, dL_law_1039, dL_law_1040, dL_law_1041, dL_law_1042, dL_law_1044, dL_law_1045, dL_law_1046, ⟨_, dL_law_1051, by decide⟩⟩ (by omega) (by omega) hc1 hc2 (cl_Z hI hk z.1 (MK_mrw hA.1.2.1 _ _ ).2 (kof2_0 _ _) o.2.1 o.2.2) kk
theorem lc_15 {KA : KAd} (hE : EN x g z0 b L xs KA rt) (hj : j + 6 ≤ L) (hI : Inv σ σ) (hc1 : n1 + 3 ≤ x.2.2.2.1.cells) (hc2 : n2 + 18 ≤ x.2.2.2.1.slots) (kk : ∀ σ', Inv σ' σ' → GG x g z0 7 (n1 + 3) (n2 + 18) Q σ' 2388 (LV0 g b j) []) : GG x g z0 7 n1 n2 Q σ 1054 (LV0 g b j) [] := by
  obtain ⟨hC, hF, hNT, hT, hK, hG, hG3⟩ := hE
  have hk : KU σ (cco σ (xs (j + 1)) (xs (j + 2)) (xs (j + 3))).2 := KU_cco hI.1.ci.1 (xs (j + 1)) (xs (j + 2)) (xs (j + 3))
  have hA := cl_A (w := wr9 (cco σ (xs (j + 1)) (xs (j + 2)) (xs (j + 3))).1) (val := ((cco σ (xs (j + 1)) (xs (j + 2)) (xs (j + 3))).1).toInt64) hI hk
  have z := iv_co hA.1 (xs (j + 1)) (xs (j + 2)) (xs (j + 3))
  have o := oc_123 z.2
  refine g_aload_n (pc' := 1055) (j := 3) hC dL_law_1054 rfl rfl rfl ?_
  refine a_arg (k := 1) (j0 := 4) (j4 := 0) (pc' := 1061) hC hF (by omega) rfl rfl rfl dL_law_1055 dL_law_1056 dL_law_1058 dL_law_1059 dL_law_1060 rfl ?_
  refine a_arg (k := 2) (j0 := 4) (j4 := 0) (pc' := 1067) hC hF (by omega) rfl rfl rfl dL_law_1061 dL_law_1062 dL_law_1064 dL_law_1065 dL_law_1066 rfl ?_
  refine a_arg (k := 3) (j0 := 4) (j4 := 0) (pc' := 1073) hC hF (by omega) rfl rfl rfl dL_law_1067 dL_law_1068 dL_law_1070 dL_law_1071 dL_law_1072 rfl ?_
  refine g_aload_n (pc' := 1074) (j := 1) hC dL_law_1073 rfl rfl rfl ?_
  refine l_call (pc' := 1080) hC (h_corrupt x.2.1 g z0 σ (xs (j + 1)) (xs (j + 2)) (xs (j + 3)) (hNT) (hT) (hI.1.ci.1) (hG3) (o.1)) kh_corrupt wM_L_172 rfl rfl dL_law_1074 dL_law_1077 dL_law_1079 rfl (by omega) (by omega) ?_
  refine a_arg (k := 1) (j0 := 5) (j4 := 1) (pc' := 1086) hC hF (by omega) rfl rfl rfl dL_law_1080 dL_law_1081 dL_law_1083 dL_law_1084 dL_law_1085 rfl ?_
  refine a_arg (k := 2) (j0 := 5) (j4 := 1) (pc' := 1092) hC hF (by omega) rfl rfl rfl dL_law_1086 dL_law_1087 dL_law_1089 dL_law_1090 dL_law_1091 rfl ?_
  refine a_arg (k := 3) (j0 := 5) (j4 := 1) (pc' := 1098) hC hF (by omega) rfl rfl rfl dL_law_1092 dL_law_1093 dL_law_1095 dL_law_1096 dL_law_1097 rfl ?_
  exact l_mod (pc' := 1101) hC (m_corrupt x.2.1 g z0 _ (xs (j + 1)) (xs (j + 2)) (xs (j + 3)) (hA.1.2.1.1)) k_X10_corrupt wM_L_174 (by decide) (ct_15 g _) rfl rfl rfl rfl dL_law_1098 rfl ⟨dL_law_1101, dL_law_1103, dL_law_1104, dL_law_1107, dL_law_1109, dL_law_1114, dL_law_1116, dL_law_1119, dL_law_1120, dL_law_1121, dL_law_1122, dL_law_1124, dL_law_1125, dL_law_1126, ⟨_, dL_law_1131, by decide⟩⟩ (by omega) (by omega) hc1 hc2 (cl_Z hI hk z.1 (MK_mco hA.1.2.1 _ _ _ ).2 (kof3_0 _ _ _) o.2.1 o.2.2) kk
theorem lc_16 {KA : KAd} (hE : EN x g z0 b L xs KA rt) (hj : j + 6 ≤ L) (hI : Inv σ σ) (hc1 : n1 + 3 ≤ x.2.2.2.1.cells) (hc2 : n2 + 18 ≤ x.2.2.2.1.slots) (kk : ∀ σ', Inv σ' σ' → GG x g z0 7 (n1 + 3) (n2 + 18) Q σ' 2388 (LV0 g b j) []) : GG x g z0 7 n1 n2 Q σ 1134 (LV0 g b j) [] := by
  obtain ⟨hC, hF, hNT, hT, hK, hG, hG3⟩ := hE
  have hk : KU σ (chel σ (xs (j + 1)) (xs (j + 2))).2 := KU_chel hI.1.ci.1 (xs (j + 1)) (xs (j + 2))
  have hA := cl_A (w := wr9 (chel σ (xs (j + 1)) (xs (j + 2))).1) (val := ((chel σ (xs (j + 1)) (xs (j + 2))).1).toInt64) hI hk
  have z := iv_hl hA.1 (xs (j + 1)) (xs (j + 2))
  have o := oc_102 z.2
  refine g_aload_n (pc' := 1135) (j := 3) hC dL_law_1134 rfl rfl rfl ?_
  refine a_arg (k := 1) (j0 := 4) (j4 := 0) (pc' := 1141) hC hF (by omega) rfl rfl rfl dL_law_1135 dL_law_1136 dL_law_1138 dL_law_1139 dL_law_1140 rfl ?_
  refine a_arg (k := 2) (j0 := 4) (j4 := 0) (pc' := 1147) hC hF (by omega) rfl rfl rfl dL_law_1141 dL_law_1142 dL_law_1144 dL_law_1145 dL_law_1146 rfl ?_
  refine g_aload_n (pc' := 1148) (j := 1) hC dL_law_1147 rfl rfl rfl ?_
  refine l_call (pc' := 1154) hC (h_heal x.2.1 g z0 σ (xs (j + 1)) (xs (j + 2)) (hNT) (hT) (hG) (hI.1.ci.1) (hG3) (o.1)) kh_heal wM_L_175 rfl rfl dL_law_1148 dL_law_1151 dL_law_1153 rfl (by omega) (by omega) ?_
  refine a_arg (k := 1) (j0 := 5) (j4 := 1) (pc' := 1160) hC hF (by omega) rfl rfl rfl dL_law_1154 dL_law_1155 dL_law_1157 dL_law_1158 dL_law_1159 rfl ?_
  refine a_arg (k := 2) (j0 := 5) (j4 := 1) (pc' := 1166) hC hF (by omega) rfl rfl rfl dL_law_1160 dL_law_1161 dL_law_1163 dL_law_1164 dL_law_1165 rfl ?_
  exact l_mod (pc' := 1169) hC (m_heal x.2.1 g z0 _ (xs (j + 1)) (xs (j + 2)) (hA.1.2.1.1)) k_X10_heal wM_L_177 (by decide) (ct_15 g _) rfl rfl rfl rfl dL_law_1166 rfl ⟨dL_law_1169, dL_law_1171, dL_law_1172, dL_law_1175, dL_law_1177, dL_law_1182, dL_law_1184, dL_law_1187, dL_law_1188, dL_law_1189, dL_law_1190, dL_law_1192, dL_law_1193, dL_law_1194, ⟨_, dL_law_1199, by decide⟩⟩ (by omega) (by omega) hc1 hc2 (cl_Z hI hk z.1 (MK_mhl hA.1.2.1 _ _ ).2 (kof2_0 _ _) o.2.1 o.2.2) kk
theorem lc_20 {KA : KAd} (hE : EN x g z0 b L xs KA rt) (hj : j + 6 ≤ L) (hI : Inv σ σ) (hc1 : n1 + 3 ≤ x.2.2.2.1.cells) (hc2 : n2 + 18 ≤ x.2.2.2.1.slots) (kk : ∀ σ', Inv σ' σ' → GG x g z0 7 (n1 + 3) (n2 + 18) Q σ' 2388 (LV0 g b j) []) : GG x g z0 7 n1 n2 Q σ 1241 (LV0 g b j) [] := by
  obtain ⟨hC, hF, hNT, hT, hK, hG, hG3⟩ := hE
  have hk : KU σ σ := KU.rf σ
  have hA := cl_A (w := wBr σ (xs (j + 1))) (val := (σ.1 (34 + 7 * cn (xs (j + 1))) 6).toInt64) hI hk
  have z := iq_ln hA.1 (xs (j + 1))
  have o := qd_c z.2
  refine g_aload_n (pc' := 1242) (j := 3) hC dL_law_1241 rfl rfl rfl ?_
  refine a_arg (k := 1) (j0 := 4) (j4 := 0) (pc' := 1248) hC hF (by omega) rfl rfl rfl dL_law_1242 dL_law_1243 dL_law_1245 dL_law_1246 dL_law_1247 rfl ?_
  refine g_aload_n (pc' := 1249) (j := 1) hC dL_law_1248 rfl rfl rfl ?_
  refine l_call (pc' := 1255) hC (h_length x.2.1 g z0 σ (xs (j + 1)) (hNT) (hT) (hI.1.ci.1) (hG3) (o.1)) kh_length wM_L_190 rfl rfl dL_law_1249 dL_law_1252 dL_law_1254 rfl (by omega) (by omega) ?_
  refine a_arg (k := 1) (j0 := 5) (j4 := 1) (pc' := 1261) hC hF (by omega) rfl rfl rfl dL_law_1255 dL_law_1256 dL_law_1258 dL_law_1259 dL_law_1260 rfl ?_
  exact l_mod (pc' := 1264) hC (m_length x.2.1 g z0 _ (xs (j + 1)) (hA.1.2.1.1)) k_X10_length wM_L_192 (by decide) (ct_15 g _) rfl rfl rfl rfl dL_law_1261 rfl ⟨dL_law_1264, dL_law_1266, dL_law_1267, dL_law_1270, dL_law_1272, dL_law_1277, dL_law_1279, dL_law_1282, dL_law_1283, dL_law_1284, dL_law_1285, dL_law_1287, dL_law_1288, dL_law_1289, ⟨_, dL_law_1294, by decide⟩⟩ (by omega) (by omega) hc1 hc2 (cl_Z hI hk z.1 (OFq_mln _ _ ) (kof1_0 _) o.2.1 o.2.2) kk
theorem lc_21 {KA : KAd} (hE : EN x g z0 b L xs KA rt) (hj : j + 6 ≤ L) (hI : Inv σ σ) (hc1 : n1 + 3 ≤ x.2.2.2.1.cells) (hc2 : n2 + 18 ≤ x.2.2.2.1.slots) (kk : ∀ σ', Inv σ' σ' → GG x g z0 7 (n1 + 3) (n2 + 18) Q σ' 2388 (LV0 g b j) []) : GG x g z0 7 n1 n2 Q σ 1297 (LV0 g b j) [] := by
  obtain ⟨hC, hF, hNT, hT, hK, hG, hG3⟩ := hE
  have hk : KU σ σ := KU.rf σ
  have hA := cl_A (w := wEn σ (xs (j + 1)) (xs (j + 2)) (xs (j + 3))) (val := (cpt σ (cn (xs (j + 1))) (cn (xs (j + 2))) (xs (j + 3))).toInt64) hI hk
  have z := iq_en hA.1 (xs (j + 1)) (xs (j + 2)) (xs (j + 3))
  have o := qc_c z.2
  refine g_aload_n (pc' := 1298) (j := 3) hC dL_law_1297 rfl rfl rfl ?_
  refine a_arg (k := 1) (j0 := 4) (j4 := 0) (pc' := 1304) hC hF (by omega) rfl rfl rfl dL_law_1298 dL_law_1299 dL_law_1301 dL_law_1302 dL_law_1303 rfl ?_
  refine a_arg (k := 2) (j0 := 4) (j4 := 0) (pc' := 1310) hC hF (by omega) rfl rfl rfl dL_law_1304 dL_law_1305 dL_law_1307 dL_law_1308 dL_law_1309 rfl ?_
  refine a_arg (k := 3) (j0 := 4) (j4 := 0) (pc' := 1316) hC hF (by omega) rfl rfl rfl dL_law_1310 dL_law_1311 dL_law_1313 dL_law_1314 dL_law_1315 rfl ?_
  refine g_aload_n (pc' := 1317) (j := 1) hC dL_law_1316 rfl rfl rfl ?_
  refine l_call (pc' := 1323) hC (h_entry x.2.1 g z0 σ (xs (j + 1)) (xs (j + 2)) (xs (j + 3)) (hNT) (hT) (hI.1.ci.1) (hG3) (o.1)) kh_entry wM_L_193 rfl rfl dL_law_1317 dL_law_1320 dL_law_1322 rfl (by omega) (by omega) ?_
  refine a_arg (k := 1) (j0 := 5) (j4 := 1) (pc' := 1329) hC hF (by omega) rfl rfl rfl dL_law_1323 dL_law_1324 dL_law_1326 dL_law_1327 dL_law_1328 rfl ?_
  refine a_arg (k := 2) (j0 := 5) (j4 := 1) (pc' := 1335) hC hF (by omega) rfl rfl rfl dL_law_1329 dL_law_1330 dL_law_1332 dL_law_1333 dL_law_1334 rfl ?_
  refine a_arg (k := 3) (j0 := 5) (j4 := 1) (pc' := 1341) hC hF (by omega) rfl rfl rfl dL_law_1335 dL_law_1336 dL_law_1338 dL_law_1339 dL_law_1340 rfl ?_
  exact l_mod (pc' := 1344) hC (m_entry x.2.1 g z0 _ (xs (j + 1)) (xs (j + 2)) (xs (j + 3)) (hA.1.2.1.1)) k_X10_entry wM_L_195 (by decide) (ct_15 g _) rfl rfl rfl rfl dL_law_1341 rfl ⟨dL_law_1344, dL_law_1346, dL_law_1347, dL_law_1350, dL_law_1352, dL_law_1357, dL_law_1359, dL_law_1362, dL_law_1363, dL_law_1364, dL_law_1365, dL_law_1367, dL_law_1368, dL_law_1369, ⟨_, dL_law_1374, by decide⟩⟩ (by omega) (by omega) hc1 hc2 (cl_Z hI hk z.1 (OFq_men _ _ _ _ ) (kof2_0 _ _) o.2.1 o.2.2) kk
theorem lc_22 {KA : KAd} (hE : EN x g z0 b L xs KA rt) (hj : j + 6 ≤ L) (hI : Inv σ σ) (hc1 : n1 + 3 ≤ x.2.2.2.1.cells) (hc2 : n2 + 18 ≤ x.2.2.2.1.slots) (kk : ∀ σ', Inv σ' σ' → GG x g z0 7 (n1 + 3) (n2 + 18) Q σ' 2388 (LV0 g b j) []) : GG x g z0 7 n1 n2 Q σ 1377 (LV0 g b j) [] := by
  obtain ⟨hC, hF, hNT, hT, hK, hG, hG3⟩ := hE
  have hk : KU σ σ := KU.rf σ
  have hA := cl_A (w := wVa σ (xs (j + 1)) (xs (j + 2))) (val := (cval σ (cn (xs (j + 1))) (xs (j + 2)) (rd σ (34 + 7 * cn (xs (j + 1))) 6)).toInt64) hI hk
  have z := iq_vl hA.1 (xs (j + 1)) (xs (j + 2))
  have o := qd_c z.2
  refine g_aload_n (pc' := 1378) (j := 3) hC dL_law_1377 rfl rfl rfl ?_
  refine a_arg (k := 1) (j0 := 4) (j4 := 0) (pc' := 1384) hC hF (by omega) rfl rfl rfl dL_law_1378 dL_law_1379 dL_law_1381 dL_law_1382 dL_law_1383 rfl ?_
  refine a_arg (k := 2) (j0 := 4) (j4 := 0) (pc' := 1390) hC hF (by omega) rfl rfl rfl dL_law_1384 dL_law_1385 dL_law_1387 dL_law_1388 dL_law_1389 rfl ?_
  refine g_aload_n (pc' := 1391) (j := 1) hC dL_law_1390 rfl rfl rfl ?_
  refine l_call (pc' := 1397) hC (h_value x.2.1 g z0 σ (xs (j + 1)) (xs (j + 2)) (hNT) (hT) (hI.1.ci.1) (hG3) (o.1)) kh_value wM_L_196 rfl rfl dL_law_1391 dL_law_1394 dL_law_1396 rfl (by omega) (by omega) ?_
  refine a_arg (k := 1) (j0 := 5) (j4 := 1) (pc' := 1403) hC hF (by omega) rfl rfl rfl dL_law_1397 dL_law_1398 dL_law_1400 dL_law_1401 dL_law_1402 rfl ?_
  refine a_arg (k := 2) (j0 := 5) (j4 := 1) (pc' := 1409) hC hF (by omega) rfl rfl rfl dL_law_1403 dL_law_1404 dL_law_1406 dL_law_1407 dL_law_1408 rfl ?_
  exact l_mod (pc' := 1412) hC (m_value x.2.1 g z0 _ (xs (j + 1)) (xs (j + 2)) (hA.1.2.1.1)) k_X10_value wM_L_198 (by decide) (ct_15 g _) rfl rfl rfl rfl dL_law_1409 rfl ⟨dL_law_1412, dL_law_1414, dL_law_1415, dL_law_1418, dL_law_1420, dL_law_1425, dL_law_1427, dL_law_1430, dL_law_1431, dL_law_1432, dL_law_1433, dL_law_1435, dL_law_1436, dL_law_1437, ⟨_, dL_law_1442, by decide⟩⟩ (by omega) (by omega) hc1 hc2 (cl_Z hI hk z.1 (OFq_mvl _ _ _ ) (kof1_0 _) o.2.1 o.2.2) kk
theorem lc_23 {KA : KAd} (hE : EN x g z0 b L xs KA rt) (hj : j + 6 ≤ L) (hI : Inv σ σ) (hc1 : n1 + 3 ≤ x.2.2.2.1.cells) (hc2 : n2 + 18 ≤ x.2.2.2.1.slots) (kk : ∀ σ', Inv σ' σ' → GG x g z0 7 (n1 + 3) (n2 + 18) Q σ' 2388 (LV0 g b j) []) : GG x g z0 7 n1 n2 Q σ 1445 (LV0 g b j) [] := by
  obtain ⟨hC, hF, hNT, hT, hK, hG, hG3⟩ := hE
  have hk : KU σ σ := KU.rf σ
  have hA := cl_A (w := wCl σ (xs (j + 1))) (val := (σ.1 (90 + 3 * cn (xs (j + 1))) 3).toInt64) hI hk
  have z := iq_bo hA.1 (xs (j + 1))
  have o := qd_c z.2
  refine g_aload_n (pc' := 1446) (j := 3) hC dL_law_1445 rfl rfl rfl ?_
  refine a_arg (k := 1) (j0 := 4) (j4 := 0) (pc' := 1452) hC hF (by omega) rfl rfl rfl dL_law_1446 dL_law_1447 dL_law_1449 dL_law_1450 dL_law_1451 rfl ?_
  refine g_aload_n (pc' := 1453) (j := 1) hC dL_law_1452 rfl rfl rfl ?_
  refine l_call (pc' := 1459) hC (h_branchOf x.2.1 g z0 σ (xs (j + 1)) (hNT) (hT) (hI.1.ci.1) (hG3) (o.1)) kh_branchOf wM_L_199 rfl rfl dL_law_1453 dL_law_1456 dL_law_1458 rfl (by omega) (by omega) ?_
  refine a_arg (k := 1) (j0 := 5) (j4 := 1) (pc' := 1465) hC hF (by omega) rfl rfl rfl dL_law_1459 dL_law_1460 dL_law_1462 dL_law_1463 dL_law_1464 rfl ?_
  exact l_mod (pc' := 1468) hC (m_branchOf x.2.1 g z0 _ (xs (j + 1)) (hA.1.2.1.1)) k_X10_branchOf wM_L_201 (by decide) (ct_15 g _) rfl rfl rfl rfl dL_law_1465 rfl ⟨dL_law_1468, dL_law_1470, dL_law_1471, dL_law_1474, dL_law_1476, dL_law_1481, dL_law_1483, dL_law_1486, dL_law_1487, dL_law_1488, dL_law_1489, dL_law_1491, dL_law_1492, dL_law_1493, ⟨_, dL_law_1498, by decide⟩⟩ (by omega) (by omega) hc1 hc2 (cl_Z hI hk z.1 (OFq_mbo _ _ ) (kof1_0 _) o.2.1 o.2.2) kk
theorem lc_24 {KA : KAd} (hE : EN x g z0 b L xs KA rt) (hj : j + 6 ≤ L) (hI : Inv σ σ) (hc1 : n1 + 3 ≤ x.2.2.2.1.cells) (hc2 : n2 + 18 ≤ x.2.2.2.1.slots) (kk : ∀ σ', Inv σ' σ' → GG x g z0 7 (n1 + 3) (n2 + 18) Q σ' 2388 (LV0 g b j) []) : GG x g z0 7 n1 n2 Q σ 1501 (LV0 g b j) [] := by
  obtain ⟨hC, hF, hNT, hT, hK, hG, hG3⟩ := hE
  have hk : KU σ σ := KU.rf σ
  have hA := cl_A (w := w2B σ (xs (j + 1)) (xs (j + 2))) (val := (nI (csh σ (cn (xs (j + 1))) (cn (xs (j + 2))))).toInt64) hI hk
  have z := iq_cl hA.1 (xs (j + 1)) (xs (j + 2))
  have o := qd_c z.2
  refine g_aload_n (pc' := 1502) (j := 3) hC dL_law_1501 rfl rfl rfl ?_
  refine a_arg (k := 1) (j0 := 4) (j4 := 0) (pc' := 1508) hC hF (by omega) rfl rfl rfl dL_law_1502 dL_law_1503 dL_law_1505 dL_law_1506 dL_law_1507 rfl ?_
  refine a_arg (k := 2) (j0 := 4) (j4 := 0) (pc' := 1514) hC hF (by omega) rfl rfl rfl dL_law_1508 dL_law_1509 dL_law_1511 dL_law_1512 dL_law_1513 rfl ?_
  refine g_aload_n (pc' := 1515) (j := 1) hC dL_law_1514 rfl rfl rfl ?_
  refine l_call (pc' := 1521) hC (h_commonLength x.2.1 g z0 σ (xs (j + 1)) (xs (j + 2)) (hNT) (hT) (hG) (hI.1.ci.1) (hG3) (o.1)) kh_commonLength wM_L_202 rfl rfl dL_law_1515 dL_law_1518 dL_law_1520 rfl (by omega) (by omega) ?_
  refine a_arg (k := 1) (j0 := 5) (j4 := 1) (pc' := 1527) hC hF (by omega) rfl rfl rfl dL_law_1521 dL_law_1522 dL_law_1524 dL_law_1525 dL_law_1526 rfl ?_
  refine a_arg (k := 2) (j0 := 5) (j4 := 1) (pc' := 1533) hC hF (by omega) rfl rfl rfl dL_law_1527 dL_law_1528 dL_law_1530 dL_law_1531 dL_law_1532 rfl ?_
  exact l_mod (pc' := 1536) hC (m_commonLength x.2.1 g z0 _ (xs (j + 1)) (xs (j + 2)) (hA.1.2.1.1)) k_X10_commonLength wM_L_204 (by decide) (ct_15 g _) rfl rfl rfl rfl dL_law_1533 rfl ⟨dL_law_1536, dL_law_1538, dL_law_1539, dL_law_1542, dL_law_1544, dL_law_1549, dL_law_1551, dL_law_1554, dL_law_1555, dL_law_1556, dL_law_1557, dL_law_1559, dL_law_1560, dL_law_1561, ⟨_, dL_law_1566, by decide⟩⟩ (by omega) (by omega) hc1 hc2 (cl_Z hI hk z.1 (OFq_mcl _ _ _ ) (kof1_0 _) o.2.1 o.2.2) kk
theorem lc_25 {KA : KAd} (hE : EN x g z0 b L xs KA rt) (hj : j + 6 ≤ L) (hI : Inv σ σ) (hc1 : n1 + 3 ≤ x.2.2.2.1.cells) (hc2 : n2 + 18 ≤ x.2.2.2.1.slots) (kk : ∀ σ', Inv σ' σ' → GG x g z0 7 (n1 + 3) (n2 + 18) Q σ' 2388 (LV0 g b j) []) : GG x g z0 7 n1 n2 Q σ 1569 (LV0 g b j) [] := by
  obtain ⟨hC, hF, hNT, hT, hK, hG, hG3⟩ := hE
  have hk : KU σ σ := KU.rf σ
  have hA := cl_A (w := w2B σ (xs (j + 1)) (xs (j + 2))) (val := (ccf σ (cn (xs (j + 1))) (cn (xs (j + 2)))).toInt64) hI hk
  have z := iq_cn hA.1 (xs (j + 1)) (xs (j + 2))
  have o := qd_c z.2
  refine g_aload_n (pc' := 1570) (j := 3) hC dL_law_1569 rfl rfl rfl ?_
  refine a_arg (k := 1) (j0 := 4) (j4 := 0) (pc' := 1576) hC hF (by omega) rfl rfl rfl dL_law_1570 dL_law_1571 dL_law_1573 dL_law_1574 dL_law_1575 rfl ?_
  refine a_arg (k := 2) (j0 := 4) (j4 := 0) (pc' := 1582) hC hF (by omega) rfl rfl rfl dL_law_1576 dL_law_1577 dL_law_1579 dL_law_1580 dL_law_1581 rfl ?_
  refine g_aload_n (pc' := 1583) (j := 1) hC dL_law_1582 rfl rfl rfl ?_
  refine l_call (pc' := 1589) hC (h_conflicts x.2.1 g z0 σ (xs (j + 1)) (xs (j + 2)) (hNT) (hT) (hG) (hI.1.ci.1) (hG3) (o.1)) kh_conflicts wM_L_205 rfl rfl dL_law_1583 dL_law_1586 dL_law_1588 rfl (by omega) (by omega) ?_
  refine a_arg (k := 1) (j0 := 5) (j4 := 1) (pc' := 1595) hC hF (by omega) rfl rfl rfl dL_law_1589 dL_law_1590 dL_law_1592 dL_law_1593 dL_law_1594 rfl ?_
  refine a_arg (k := 2) (j0 := 5) (j4 := 1) (pc' := 1601) hC hF (by omega) rfl rfl rfl dL_law_1595 dL_law_1596 dL_law_1598 dL_law_1599 dL_law_1600 rfl ?_
  exact l_mod (pc' := 1604) hC (m_conflicts x.2.1 g z0 _ (xs (j + 1)) (xs (j + 2)) (hA.1.2.1.1)) k_X10_conflicts wM_L_207 (by decide) (ct_15 g _) rfl rfl rfl rfl dL_law_1601 rfl ⟨dL_law_1604, dL_law_1606, dL_law_1607, dL_law_1610, dL_law_1612, dL_law_1617, dL_law_1619, dL_law_1622, dL_law_1623, dL_law_1624, dL_law_1625, dL_law_1627, dL_law_1628, dL_law_1629, ⟨_, dL_law_1634, by decide⟩⟩ (by omega) (by omega) hc1 hc2 (cl_Z hI hk z.1 (OFq_mcn _ _ _ ) (kof1_0 _) o.2.1 o.2.2) kk
theorem lc_26 {KA : KAd} (hE : EN x g z0 b L xs KA rt) (hj : j + 6 ≤ L) (hI : Inv σ σ) (hc1 : n1 + 3 ≤ x.2.2.2.1.cells) (hc2 : n2 + 18 ≤ x.2.2.2.1.slots) (kk : ∀ σ', Inv σ' σ' → GG x g z0 7 (n1 + 3) (n2 + 18) Q σ' 2388 (LV0 g b j) []) : GG x g z0 7 n1 n2 Q σ 1637 (LV0 g b j) [] := by
  obtain ⟨hC, hF, hNT, hT, hK, hG, hG3⟩ := hE
  have hk : KU σ σ := KU.rf σ
  have hA := cl_A (w := wRc σ (xs (j + 1)) (xs (j + 2))) (val := (crc σ (xs (j + 1)) (xs (j + 2))).toInt64) hI hk
  have z := iq_rc hA.1 (xs (j + 1)) (xs (j + 2))
  have o := qc_c z.2
  refine g_aload_n (pc' := 1638) (j := 3) hC dL_law_1637 rfl rfl rfl ?_
  refine a_arg (k := 1) (j0 := 4) (j4 := 0) (pc' := 1644) hC hF (by omega) rfl rfl rfl dL_law_1638 dL_law_1639 dL_law_1641 dL_law_1642 dL_law_1643 rfl ?_
  refine a_arg (k := 2) (j0 := 4) (j4 := 0) (pc' := 1650) hC hF (by omega) rfl rfl rfl dL_law_1644 dL_law_1645 dL_law_1647 dL_law_1648 dL_law_1649 rfl ?_
  refine g_aload_n (pc' := 1651) (j := 1) hC dL_law_1650 rfl rfl rfl ?_
  refine l_call (pc' := 1657) hC (h_receipt x.2.1 g z0 σ (xs (j + 1)) (xs (j + 2)) (hNT) (hT) (hI.1.ci.1) (hG3) (o.1)) kh_receipt wM_L_208 rfl rfl dL_law_1651 dL_law_1654 dL_law_1656 rfl (by omega) (by omega) ?_
  refine a_arg (k := 1) (j0 := 5) (j4 := 1) (pc' := 1663) hC hF (by omega) rfl rfl rfl dL_law_1657 dL_law_1658 dL_law_1660 dL_law_1661 dL_law_1662 rfl ?_
  refine a_arg (k := 2) (j0 := 5) (j4 := 1) (pc' := 1669) hC hF (by omega) rfl rfl rfl dL_law_1663 dL_law_1664 dL_law_1666 dL_law_1667 dL_law_1668 rfl ?_
  exact l_mod (pc' := 1672) hC (m_receipt x.2.1 g z0 _ (xs (j + 1)) (xs (j + 2)) (hA.1.2.1.1)) k_X10_receipt wM_L_210 (by decide) (ct_15 g _) rfl rfl rfl rfl dL_law_1669 rfl ⟨dL_law_1672, dL_law_1674, dL_law_1675, dL_law_1678, dL_law_1680, dL_law_1685, dL_law_1687, dL_law_1690, dL_law_1691, dL_law_1692, dL_law_1693, dL_law_1695, dL_law_1696, dL_law_1697, ⟨_, dL_law_1702, by decide⟩⟩ (by omega) (by omega) hc1 hc2 (cl_Z hI hk z.1 (OFq_mrc _ _ _ ) (kof2_0 _ _) o.2.1 o.2.2) kk
theorem lc_28 {KA : KAd} (hE : EN x g z0 b L xs KA rt) (hj : j + 6 ≤ L) (hI : Inv σ σ) (hc1 : n1 + 3 ≤ x.2.2.2.1.cells) (hc2 : n2 + 18 ≤ x.2.2.2.1.slots) (kk : ∀ σ', Inv σ' σ' → GG x g z0 7 (n1 + 3) (n2 + 18) Q σ' 2388 (LV0 g b j) []) : GG x g z0 7 n1 n2 Q σ 1766 (LV0 g b j) [] := by
  obtain ⟨hC, hF, hNT, hT, hK, hG, hG3⟩ := hE
  have hk : KU σ σ := KU.rf σ
  have hA := cl_A (w := wHa σ (xs (j + 1)) (xs (j + 2))) (val := (σ.1 (90 + 3 * cn (xs (j + 1)) + 1) (cn (xs (j + 2)))).toInt64) hI hk
  have z := iq_ha hA.1 (xs (j + 1)) (xs (j + 2))
  have o := qd_c z.2
  refine g_aload_n (pc' := 1767) (j := 3) hC dL_law_1766 rfl rfl rfl ?_
  refine a_arg (k := 1) (j0 := 4) (j4 := 0) (pc' := 1773) hC hF (by omega) rfl rfl rfl dL_law_1767 dL_law_1768 dL_law_1770 dL_law_1771 dL_law_1772 rfl ?_
  refine a_arg (k := 2) (j0 := 4) (j4 := 0) (pc' := 1779) hC hF (by omega) rfl rfl rfl dL_law_1773 dL_law_1774 dL_law_1776 dL_law_1777 dL_law_1778 rfl ?_
  refine g_aload_n (pc' := 1780) (j := 1) hC dL_law_1779 rfl rfl rfl ?_
  refine l_call (pc' := 1786) hC (h_hashAt x.2.1 g z0 σ (xs (j + 1)) (xs (j + 2)) (hNT) (hT) (hI.1.ci.1) (hG3) (o.1)) kh_hashAt wM_L_216 rfl rfl dL_law_1780 dL_law_1783 dL_law_1785 rfl (by omega) (by omega) ?_
  refine a_arg (k := 1) (j0 := 5) (j4 := 1) (pc' := 1792) hC hF (by omega) rfl rfl rfl dL_law_1786 dL_law_1787 dL_law_1789 dL_law_1790 dL_law_1791 rfl ?_
  refine a_arg (k := 2) (j0 := 5) (j4 := 1) (pc' := 1798) hC hF (by omega) rfl rfl rfl dL_law_1792 dL_law_1793 dL_law_1795 dL_law_1796 dL_law_1797 rfl ?_
  exact l_mod (pc' := 1801) hC (m_hashAt x.2.1 g z0 _ (xs (j + 1)) (xs (j + 2)) (hA.1.2.1.1)) k_X10_hashAt wM_L_218 (by decide) (ct_15 g _) rfl rfl rfl rfl dL_law_1798 rfl ⟨dL_law_1801, dL_law_1803, dL_law_1804, dL_law_1807, dL_law_1809, dL_law_1814, dL_law_1816, dL_law_1819, dL_law_1820, dL_law_1821, dL_law_1822, dL_law_1824, dL_law_1825, dL_law_1826, ⟨_, dL_law_1831, by decide⟩⟩ (by omega) (by omega) hc1 hc2 (cl_Z hI hk z.1 (OFq_mha _ _ _ ) (kof1_0 _) o.2.1 o.2.2) kk
theorem lc_29 {KA : KAd} (hE : EN x g z0 b L xs KA rt) (hj : j + 6 ≤ L) (hI : Inv σ σ) (hc1 : n1 + 3 ≤ x.2.2.2.1.cells) (hc2 : n2 + 18 ≤ x.2.2.2.1.slots) (kk : ∀ σ', Inv σ' σ' → GG x g z0 7 (n1 + 3) (n2 + 18) Q σ' 2388 (LV0 g b j) []) : GG x g z0 7 n1 n2 Q σ 1834 (LV0 g b j) [] := by
  obtain ⟨hC, hF, hNT, hT, hK, hG, hG3⟩ := hE
  have hk : KU σ σ := KU.rf σ
  have hA := cl_A (w := w2C σ (xs (j + 1)) (xs (j + 2))) (val := (σ.1 (90 + 3 * cn (xs (j + 1)) + 2) (cn (xs (j + 2)))).toInt64) hI hk
  have z := iq_vc hA.1 (xs (j + 1)) (xs (j + 2))
  have o := qd_c z.2
  refine g_aload_n (pc' := 1835) (j := 3) hC dL_law_1834 rfl rfl rfl ?_
  refine a_arg (k := 1) (j0 := 4) (j4 := 0) (pc' := 1841) hC hF (by omega) rfl rfl rfl dL_law_1835 dL_law_1836 dL_law_1838 dL_law_1839 dL_law_1840 rfl ?_
  refine a_arg (k := 2) (j0 := 4) (j4 := 0) (pc' := 1847) hC hF (by omega) rfl rfl rfl dL_law_1841 dL_law_1842 dL_law_1844 dL_law_1845 dL_law_1846 rfl ?_
  refine g_aload_n (pc' := 1848) (j := 1) hC dL_law_1847 rfl rfl rfl ?_
  refine l_call (pc' := 1854) hC (h_vector x.2.1 g z0 σ (xs (j + 1)) (xs (j + 2)) (hNT) (hT) (hI.1.ci.1) (hG3) (o.1)) kh_vector wM_L_219 rfl rfl dL_law_1848 dL_law_1851 dL_law_1853 rfl (by omega) (by omega) ?_
  refine a_arg (k := 1) (j0 := 5) (j4 := 1) (pc' := 1860) hC hF (by omega) rfl rfl rfl dL_law_1854 dL_law_1855 dL_law_1857 dL_law_1858 dL_law_1859 rfl ?_
  refine a_arg (k := 2) (j0 := 5) (j4 := 1) (pc' := 1866) hC hF (by omega) rfl rfl rfl dL_law_1860 dL_law_1861 dL_law_1863 dL_law_1864 dL_law_1865 rfl ?_
  exact l_mod (pc' := 1869) hC (m_vector x.2.1 g z0 _ (xs (j + 1)) (xs (j + 2)) (hA.1.2.1.1)) k_X10_vector wM_L_221 (by decide) (ct_15 g _) rfl rfl rfl rfl dL_law_1866 rfl ⟨dL_law_1869, dL_law_1871, dL_law_1872, dL_law_1875, dL_law_1877, dL_law_1882, dL_law_1884, dL_law_1887, dL_law_1888, dL_law_1889, dL_law_1890, dL_law_1892, dL_law_1893, dL_law_1894, ⟨_, dL_law_1899, by decide⟩⟩ (by omega) (by omega) hc1 hc2 (cl_Z hI hk z.1 (OFq_mvc _ _ _ ) (kof1_0 _) o.2.1 o.2.2) kk
theorem lc_30 {KA : KAd} (hE : EN x g z0 b L xs KA rt) (hj : j + 6 ≤ L) (hI : Inv σ σ) (hc1 : n1 + 3 ≤ x.2.2.2.1.cells) (hc2 : n2 + 18 ≤ x.2.2.2.1.slots) (kk : ∀ σ', Inv σ' σ' → GG x g z0 7 (n1 + 3) (n2 + 18) Q σ' 2388 (LV0 g b j) []) : GG x g z0 7 n1 n2 Q σ 1902 (LV0 g b j) [] := by
  obtain ⟨hC, hF, hNT, hT, hK, hG, hG3⟩ := hE
  have hk : KU σ σ := KU.rf σ
  have hA := cl_A (w := w2C σ (xs (j + 1)) (xs (j + 2))) (val := (ordF (σ.1 (90 + 3 * cn (xs (j + 1)) + 2)) (σ.1 (90 + 3 * cn (xs (j + 2)) + 2)) 6).toInt64) hI hk
  have z := iq_or hA.1 (xs (j + 1)) (xs (j + 2))
  have o := qd_c z.2
  refine g_aload_n (pc' := 1903) (j := 3) hC dL_law_1902 rfl rfl rfl ?_
  refine a_arg (k := 1) (j0 := 4) (j4 := 0) (pc' := 1909) hC hF (by omega) rfl rfl rfl dL_law_1903 dL_law_1904 dL_law_1906 dL_law_1907 dL_law_1908 rfl ?_
  refine a_arg (k := 2) (j0 := 4) (j4 := 0) (pc' := 1915) hC hF (by omega) rfl rfl rfl dL_law_1909 dL_law_1910 dL_law_1912 dL_law_1913 dL_law_1914 rfl ?_
  refine g_aload_n (pc' := 1916) (j := 1) hC dL_law_1915 rfl rfl rfl ?_
  refine l_call (pc' := 1922) hC (h_order x.2.1 g z0 σ (xs (j + 1)) (xs (j + 2)) (hNT) (hT) (hI.1.ci.1) (hG3) (o.1)) kh_order wM_L_222 rfl rfl dL_law_1916 dL_law_1919 dL_law_1921 rfl (by omega) (by omega) ?_
  refine a_arg (k := 1) (j0 := 5) (j4 := 1) (pc' := 1928) hC hF (by omega) rfl rfl rfl dL_law_1922 dL_law_1923 dL_law_1925 dL_law_1926 dL_law_1927 rfl ?_
  refine a_arg (k := 2) (j0 := 5) (j4 := 1) (pc' := 1934) hC hF (by omega) rfl rfl rfl dL_law_1928 dL_law_1929 dL_law_1931 dL_law_1932 dL_law_1933 rfl ?_
  exact l_mod (pc' := 1937) hC (m_order x.2.1 g z0 _ (xs (j + 1)) (xs (j + 2)) (hA.1.2.1.1)) k_X10_order wM_L_224 (by decide) (ct_15 g _) rfl rfl rfl rfl dL_law_1934 rfl ⟨dL_law_1937, dL_law_1939, dL_law_1940, dL_law_1943, dL_law_1945, dL_law_1950, dL_law_1952, dL_law_1955, dL_law_1956, dL_law_1957, dL_law_1958, dL_law_1960, dL_law_1961, dL_law_1962, ⟨_, dL_law_1967, by decide⟩⟩ (by omega) (by omega) hc1 hc2 (cl_Z hI hk z.1 (OFq_mor _ _ _ ) (kof1_0 _) o.2.1 o.2.2) kk
theorem lc_32 {KA : KAd} (hE : EN x g z0 b L xs KA rt) (hj : j + 6 ≤ L) (hI : Inv σ σ) (hc1 : n1 + 3 ≤ x.2.2.2.1.cells) (hc2 : n2 + 18 ≤ x.2.2.2.1.slots) (kk : ∀ σ', Inv σ' σ' → GG x g z0 7 (n1 + 3) (n2 + 18) Q σ' 2388 (LV0 g b j) []) : GG x g z0 7 n1 n2 Q σ 2033 (LV0 g b j) [] := by
  obtain ⟨hC, hF, hNT, hT, hK, hG, hG3⟩ := hE
  have hk : KU σ σ := KU.rf σ
  have hA := cl_A (w := wCl σ (xs (j + 1))) (val := (nI (cfc σ (cn (xs (j + 1))))).toInt64) hI hk
  have z := iq_wf hA.1 (xs (j + 1))
  have o := qd_c z.2
  refine g_aload_n (pc' := 2034) (j := 3) hC dL_law_2033 rfl rfl rfl ?_
  refine a_arg (k := 1) (j0 := 4) (j4 := 0) (pc' := 2040) hC hF (by omega) rfl rfl rfl dL_law_2034 dL_law_2035 dL_law_2037 dL_law_2038 dL_law_2039 rfl ?_
  refine g_aload_n (pc' := 2041) (j := 1) hC dL_law_2040 rfl rfl rfl ?_
  refine l_call (pc' := 2047) hC (h_wouldFind x.2.1 g z0 σ (xs (j + 1)) (hNT) (hT) (hI.1.ci.1) (hG3) (o.1)) kh_wouldFind wM_L_228 rfl rfl dL_law_2041 dL_law_2044 dL_law_2046 rfl (by omega) (by omega) ?_
  refine a_arg (k := 1) (j0 := 5) (j4 := 1) (pc' := 2053) hC hF (by omega) rfl rfl rfl dL_law_2047 dL_law_2048 dL_law_2050 dL_law_2051 dL_law_2052 rfl ?_
  exact l_mod (pc' := 2056) hC (m_wouldFind x.2.1 g z0 _ (xs (j + 1)) (hA.1.2.1.1)) k_X10_wouldFind wM_L_230 (by decide) (ct_15 g _) rfl rfl rfl rfl dL_law_2053 rfl ⟨dL_law_2056, dL_law_2058, dL_law_2059, dL_law_2062, dL_law_2064, dL_law_2069, dL_law_2071, dL_law_2074, dL_law_2075, dL_law_2076, dL_law_2077, dL_law_2079, dL_law_2080, dL_law_2081, ⟨_, dL_law_2086, by decide⟩⟩ (by omega) (by omega) hc1 hc2 (cl_Z hI hk z.1 (OFq_mwf _ _ ) (kof1_0 _) o.2.1 o.2.2) kk
theorem lc_34 {KA : KAd} (hE : EN x g z0 b L xs KA rt) (hj : j + 6 ≤ L) (hI : Inv σ σ) (hc1 : n1 + 3 ≤ x.2.2.2.1.cells) (hc2 : n2 + 18 ≤ x.2.2.2.1.slots) (kk : ∀ σ', Inv σ' σ' → GG x g z0 7 (n1 + 3) (n2 + 18) Q σ' 2388 (LV0 g b j) []) : GG x g z0 7 n1 n2 Q σ 2102 (LV0 g b j) [] := by
  obtain ⟨hC, hF, hNT, hT, hK, hG, hG3⟩ := hE
  have hk : KU σ σ := KU.rf σ
  have hA := cl_A (w := wCl σ (xs (j + 1))) (val := (csb σ (cn (xs (j + 1))) (rd σ 8 4)).toInt64) hI hk
  have z := iq_sb hA.1 (xs (j + 1))
  have o := qd_c z.2
  refine g_aload_n (pc' := 2103) (j := 3) hC dL_law_2102 rfl rfl rfl ?_
  refine a_arg (k := 1) (j0 := 4) (j4 := 0) (pc' := 2109) hC hF (by omega) rfl rfl rfl dL_law_2103 dL_law_2104 dL_law_2106 dL_law_2107 dL_law_2108 rfl ?_
  refine g_aload_n (pc' := 2110) (j := 1) hC dL_law_2109 rfl rfl rfl ?_
  refine l_call (pc' := 2116) hC (h_seenBy x.2.1 g z0 σ (xs (j + 1)) (hNT) (hT) (hI.1.ci.1) (hG3) (o.1)) kh_seenBy wM_L_235 rfl rfl dL_law_2110 dL_law_2113 dL_law_2115 rfl (by omega) (by omega) ?_
  refine a_arg (k := 1) (j0 := 5) (j4 := 1) (pc' := 2122) hC hF (by omega) rfl rfl rfl dL_law_2116 dL_law_2117 dL_law_2119 dL_law_2120 dL_law_2121 rfl ?_
  exact l_mod (pc' := 2125) hC (m_seenBy x.2.1 g z0 _ (xs (j + 1)) (hA.1.2.1.1)) k_X10_seenBy wM_L_237 (by decide) (ct_15 g _) rfl rfl rfl rfl dL_law_2122 rfl ⟨dL_law_2125, dL_law_2127, dL_law_2128, dL_law_2131, dL_law_2133, dL_law_2138, dL_law_2140, dL_law_2143, dL_law_2144, dL_law_2145, dL_law_2146, dL_law_2148, dL_law_2149, dL_law_2150, ⟨_, dL_law_2155, by decide⟩⟩ (by omega) (by omega) hc1 hc2 (cl_Z hI hk z.1 (OFq_msn _ _ ) (kof1_0 _) o.2.1 o.2.2) kk
theorem lc_36 {KA : KAd} (hE : EN x g z0 b L xs KA rt) (hj : j + 6 ≤ L) (hI : Inv σ σ) (hc1 : n1 + 3 ≤ x.2.2.2.1.cells) (hc2 : n2 + 18 ≤ x.2.2.2.1.slots) (kk : ∀ σ', Inv σ' σ' → GG x g z0 7 (n1 + 3) (n2 + 18) Q σ' 2388 (LV0 g b j) []) : GG x g z0 7 n1 n2 Q σ 2171 (LV0 g b j) [] := by
  obtain ⟨hC, hF, hNT, hT, hK, hG, hG3⟩ := hE
  have hk : KU σ σ := KU.rf σ
  have hA := cl_A (w := wBm σ (xs (j + 1)) (xs (j + 2))) (val := (σ.1 12 (cn (xs (j + 1)) * 6 + cn (xs (j + 2)))).toInt64) hI hk
  have z := iq_bm hA.1 (xs (j + 1)) (xs (j + 2))
  have o := qc_c z.2
  refine g_aload_n (pc' := 2172) (j := 3) hC dL_law_2171 rfl rfl rfl ?_
  refine a_arg (k := 1) (j0 := 4) (j4 := 0) (pc' := 2178) hC hF (by omega) rfl rfl rfl dL_law_2172 dL_law_2173 dL_law_2175 dL_law_2176 dL_law_2177 rfl ?_
  refine a_arg (k := 2) (j0 := 4) (j4 := 0) (pc' := 2184) hC hF (by omega) rfl rfl rfl dL_law_2178 dL_law_2179 dL_law_2181 dL_law_2182 dL_law_2183 rfl ?_
  refine g_aload_n (pc' := 2185) (j := 1) hC dL_law_2184 rfl rfl rfl ?_
  refine l_call (pc' := 2191) hC (h_blame x.2.1 g z0 σ (xs (j + 1)) (xs (j + 2)) (hNT) (hT) (hI.1.ci.1) (hG3) (o.1)) kh_blame wM_L_242 rfl rfl dL_law_2185 dL_law_2188 dL_law_2190 rfl (by omega) (by omega) ?_
  refine a_arg (k := 1) (j0 := 5) (j4 := 1) (pc' := 2197) hC hF (by omega) rfl rfl rfl dL_law_2191 dL_law_2192 dL_law_2194 dL_law_2195 dL_law_2196 rfl ?_
  refine a_arg (k := 2) (j0 := 5) (j4 := 1) (pc' := 2203) hC hF (by omega) rfl rfl rfl dL_law_2197 dL_law_2198 dL_law_2200 dL_law_2201 dL_law_2202 rfl ?_
  exact l_mod (pc' := 2206) hC (m_blame x.2.1 g z0 _ (xs (j + 1)) (xs (j + 2)) (hA.1.2.1.1)) k_X10_blame wM_L_244 (by decide) (ct_15 g _) rfl rfl rfl rfl dL_law_2203 rfl ⟨dL_law_2206, dL_law_2208, dL_law_2209, dL_law_2212, dL_law_2214, dL_law_2219, dL_law_2221, dL_law_2224, dL_law_2225, dL_law_2226, dL_law_2227, dL_law_2229, dL_law_2230, dL_law_2231, ⟨_, dL_law_2236, by decide⟩⟩ (by omega) (by omega) hc1 hc2 (cl_Z hI hk z.1 (OFq_mbm _ _ _ ) (kof2_0 _ _) o.2.1 o.2.2) kk
theorem lc_38 {KA : KAd} (hE : EN x g z0 b L xs KA rt) (hj : j + 6 ≤ L) (hI : Inv σ σ) (hc1 : n1 + 3 ≤ x.2.2.2.1.cells) (hc2 : n2 + 18 ≤ x.2.2.2.1.slots) (kk : ∀ σ', Inv σ' σ' → GG x g z0 7 (n1 + 3) (n2 + 18) Q σ' 2388 (LV0 g b j) []) : GG x g z0 7 n1 n2 Q σ 2252 (LV0 g b j) [] := by
  obtain ⟨hC, hF, hNT, hT, hK, hG, hG3⟩ := hE
  have hk : KU σ σ := KU.rf σ
  have hA := cl_A (w := wBp σ (xs (j + 1)) (xs (j + 2))) (val := (σ.1 14 (cn (xs (j + 1)) * 4 + cn (xs (j + 2)))).toInt64) hI hk
  have z := iq_bp hA.1 (xs (j + 1)) (xs (j + 2))
  have o := qc_c z.2
  refine g_aload_n (pc' := 2253) (j := 3) hC dL_law_2252 rfl rfl rfl ?_
  refine a_arg (k := 1) (j0 := 4) (j4 := 0) (pc' := 2259) hC hF (by omega) rfl rfl rfl dL_law_2253 dL_law_2254 dL_law_2256 dL_law_2257 dL_law_2258 rfl ?_
  refine a_arg (k := 2) (j0 := 4) (j4 := 0) (pc' := 2265) hC hF (by omega) rfl rfl rfl dL_law_2259 dL_law_2260 dL_law_2262 dL_law_2263 dL_law_2264 rfl ?_
  refine g_aload_n (pc' := 2266) (j := 1) hC dL_law_2265 rfl rfl rfl ?_
  refine l_call (pc' := 2272) hC (h_boardPost x.2.1 g z0 σ (xs (j + 1)) (xs (j + 2)) (hNT) (hT) (hI.1.ci.1) (hG3) (o.1)) kh_boardPost wM_L_249 rfl rfl dL_law_2266 dL_law_2269 dL_law_2271 rfl (by omega) (by omega) ?_
  refine a_arg (k := 1) (j0 := 5) (j4 := 1) (pc' := 2278) hC hF (by omega) rfl rfl rfl dL_law_2272 dL_law_2273 dL_law_2275 dL_law_2276 dL_law_2277 rfl ?_
  refine a_arg (k := 2) (j0 := 5) (j4 := 1) (pc' := 2284) hC hF (by omega) rfl rfl rfl dL_law_2278 dL_law_2279 dL_law_2281 dL_law_2282 dL_law_2283 rfl ?_
  exact l_mod (pc' := 2287) hC (m_boardPost x.2.1 g z0 _ (xs (j + 1)) (xs (j + 2)) (hA.1.2.1.1)) k_X10_boardPost wM_L_251 (by decide) (ct_15 g _) rfl rfl rfl rfl dL_law_2284 rfl ⟨dL_law_2287, dL_law_2289, dL_law_2290, dL_law_2293, dL_law_2295, dL_law_2300, dL_law_2302, dL_law_2305, dL_law_2306, dL_law_2307, dL_law_2308, dL_law_2310, dL_law_2311, dL_law_2312, ⟨_, dL_law_2317, by decide⟩⟩ (by omega) (by omega) hc1 hc2 (cl_Z hI hk z.1 (OFq_mbp _ _ _ ) (kof2_0 _ _) o.2.1 o.2.2) kk
theorem lc_39 {KA : KAd} (hE : EN x g z0 b L xs KA rt) (hj : j + 6 ≤ L) (hI : Inv σ σ) (hc1 : n1 + 3 ≤ x.2.2.2.1.cells) (hc2 : n2 + 18 ≤ x.2.2.2.1.slots) (kk : ∀ σ', Inv σ' σ' → GG x g z0 7 (n1 + 3) (n2 + 18) Q σ' 2388 (LV0 g b j) []) : GG x g z0 7 n1 n2 Q σ 2320 (LV0 g b j) [] := by
  obtain ⟨hC, hF, hNT, hT, hK, hG, hG3⟩ := hE
  have hk : KU σ σ := KU.rf σ
  have hA := cl_A (w := wCp σ (xs (j + 1)) (xs (j + 2))) (val := (ccp' σ (xs (j + 1)) (xs (j + 2))).toInt64) hI hk
  have z := iq_cp hA.1 (xs (j + 1)) (xs (j + 2))
  have o := qd_c z.2
  refine g_aload_n (pc' := 2321) (j := 3) hC dL_law_2320 rfl rfl rfl ?_
  refine a_arg (k := 1) (j0 := 4) (j4 := 0) (pc' := 2327) hC hF (by omega) rfl rfl rfl dL_law_2321 dL_law_2322 dL_law_2324 dL_law_2325 dL_law_2326 rfl ?_
  refine a_arg (k := 2) (j0 := 4) (j4 := 0) (pc' := 2333) hC hF (by omega) rfl rfl rfl dL_law_2327 dL_law_2328 dL_law_2330 dL_law_2331 dL_law_2332 rfl ?_
  refine g_aload_n (pc' := 2334) (j := 1) hC dL_law_2333 rfl rfl rfl ?_
  refine l_call (pc' := 2340) hC (h_checkPost x.2.1 g z0 σ (xs (j + 1)) (xs (j + 2)) (hNT) (hT) (hI.1.ci.1) (hG3) (o.1)) kh_checkPost wM_L_252 rfl rfl dL_law_2334 dL_law_2337 dL_law_2339 rfl (by omega) (by omega) ?_
  refine a_arg (k := 1) (j0 := 5) (j4 := 1) (pc' := 2346) hC hF (by omega) rfl rfl rfl dL_law_2340 dL_law_2341 dL_law_2343 dL_law_2344 dL_law_2345 rfl ?_
  refine a_arg (k := 2) (j0 := 5) (j4 := 1) (pc' := 2352) hC hF (by omega) rfl rfl rfl dL_law_2346 dL_law_2347 dL_law_2349 dL_law_2350 dL_law_2351 rfl ?_
  exact l_mod (pc' := 2355) hC (m_checkPost x.2.1 g z0 _ (xs (j + 1)) (xs (j + 2)) (hA.1.2.1.1)) k_X10_checkPost wM_L_254 (by decide) (ct_15 g _) rfl rfl rfl rfl dL_law_2352 rfl ⟨dL_law_2355, dL_law_2357, dL_law_2358, dL_law_2361, dL_law_2363, dL_law_2368, dL_law_2370, dL_law_2373, dL_law_2374, dL_law_2375, dL_law_2376, dL_law_2378, dL_law_2379, dL_law_2380, ⟨_, dL_law_2385, by decide⟩⟩ (by omega) (by omega) hc1 hc2 (cl_Z hI hk z.1 (OFq_mcp9 _ _ _ ) (kof1_0 _) o.2.1 o.2.2) kk
end LAW
