set_option maxHeartbeats 4000000 in
set_option maxRecDepth 20000 in
theorem m_append (l : Launch) (g : Lay) (z0 : Nat) (σ : St) (b : Nat) (kd : Int32) (au : Int32) (bl : Int32) (va : Int32) (li : Int32) (hb : b < 8) (hL : nb σ 16 b 199)  : CTv l yX10_append cX10_append 8 3 g z0 [.ref (g.2.1 15), .int (nI b), .int kd, .int au, .int bl, .int va, .int li] σ (FV (mapp σ b kd au bl va li)) := by
  refine CTv.of (by decide) (Nat.le_of_ble_eq_true rfl) ?_
  intro x hxl hxa hC
  have hC : Cx x RX10 cX10_append 8 none 3 g z0 := hC
  have hL2 := hL.2
  show GG x g z0 8 0 0 (Qv x g z0 (FV (mapp σ b kd au bl va li))) σ 0 [(0, .ref (g.2.1 15)), (1, .int (nI b)), (2, .int kd), (3, .int au), (4, .int bl), (5, .int va), (6, .int li)] []
  refine g_aload_n (pc' := 1) (j := 0) hC dX10_append_0 rfl rfl rfl ?_
  refine gf_X10_6 (pc' := 4) hC wF_X10_7 dX10_append_1 rfl ?_
  refine g_iload_n (pc' := 5) (j := 1) hC dX10_append_4 rfl rfl rfl ?_
  refine g_aload_n (pc' := 6) (j := 0) hC dX10_append_5 rfl rfl rfl ?_
  refine gf_X10_6 (pc' := 9) hC wF_X10_7 dX10_append_6 rfl ?_
  refine g_iload_n (pc' := 10) (j := 1) hC dX10_append_9 rfl rfl rfl ?_
  refine a_ld (pc' := 11) (k := 16) (i := b) hC (by decide) (ct_16 g σ) (by omega) (by decide) dX10_append_10 rfl ?_
  refine gg_topi (b := nI (rd σ 16 b)) (hL.1) ?_
  refine g_iconst (pc' := 12) (v := nI 1) hC dX10_append_11 rfl rfl ?_
  refine n_iadd (pc' := 13) hC dX10_append_12 rfl ?_
  refine a_st (pc' := 14) (k := 16) (i := b) hC (by decide) (fun σ9 => (ct_16 g σ9)) (by omega) (by decide) dX10_append_13 rfl ?_
  refine g_iload_n (pc' := 15) (j := 1) hC dX10_append_14 rfl rfl rfl ?_
  refine g_aload_n (pc' := 16) (j := 0) hC dX10_append_15 rfl rfl rfl ?_
  refine gf_X10_6 (pc' := 19) hC wF_X10_7 dX10_append_16 rfl ?_
  refine g_iload_n (pc' := 20) (j := 1) hC dX10_append_19 rfl rfl rfl ?_
  refine a_ld (pc' := 21) (k := 16) (i := b) hC (by decide) (ct_16 g (uv σ 16 b (nI ((rd σ 16 b) + 1)))) (by omega) (by decide) dX10_append_20 rfl ?_
  refine gg_topi (b := nI ((rd σ 16 b) + 1)) (uv_same _ _ _ _) ?_
  refine f_Si (pc' := 24) (st := []) hC (m_at x.2.1 g z0 (uv σ 16 b (nI ((rd σ 16 b) + 1))) b (((rd σ 16 b) + 1)) (by omega)) k_X10_at wM_X10_86 (by decide) rfl rfl (Nat.le_of_ble_eq_true rfl) dX10_append_21 rfl (Nat.zero_le _) (Nat.zero_le _) ?_
  refine g_istore (pc' := 26) (lv' := [(7, .int (nI (200 * b + ((rd σ 16 b) + 1) - 1))), (0, .ref (g.2.1 15)), (1, .int (nI b)), (2, .int kd), (3, .int au), (4, .int bl), (5, .int va), (6, .int li)]) hC dX10_append_24 rfl (by decide) rfl ?_
  refine g_aload_n (pc' := 27) (j := 1) hC dX10_append_26 rfl rfl rfl ?_
  refine gf_X10_7 (pc' := 30) hC wF_X10_13 dX10_append_27 rfl ?_
  refine g_iload (pc' := 32) (j := 0) hC dX10_append_30 rfl rfl ?_
  refine g_iload_n (pc' := 33) (j := 3) hC dX10_append_32 rfl rfl rfl ?_
  refine a_st (pc' := 34) (k := 17) (i := 200 * b + ((rd σ 16 b) + 1) - 1) hC (by decide) (fun σ9 => (ct_17 g σ9)) (by omega) (by decide) dX10_append_33 rfl ?_
  refine g_aload_n (pc' := 35) (j := 1) hC dX10_append_34 rfl rfl rfl ?_
  refine gf_X10_8 (pc' := 38) hC wF_X10_16 dX10_append_35 rfl ?_
  refine g_iload (pc' := 40) (j := 0) hC dX10_append_38 rfl rfl ?_
  refine g_iload_n (pc' := 41) (j := 4) hC dX10_append_40 rfl rfl rfl ?_
  refine a_st (pc' := 42) (k := 18) (i := 200 * b + ((rd σ 16 b) + 1) - 1) hC (by decide) (fun σ9 => (ct_18 g σ9)) (by omega) (by decide) dX10_append_41 rfl ?_
  refine g_aload_n (pc' := 43) (j := 1) hC dX10_append_42 rfl rfl rfl ?_
  refine gf_X10_9 (pc' := 46) hC wF_X10_19 dX10_append_43 rfl ?_
  refine g_iload (pc' := 48) (j := 0) hC dX10_append_46 rfl rfl ?_
  refine g_iload (pc' := 50) (j := 5) hC dX10_append_48 rfl rfl ?_
  refine a_st (pc' := 51) (k := 19) (i := 200 * b + ((rd σ 16 b) + 1) - 1) hC (by decide) (fun σ9 => (ct_19 g σ9)) (by omega) (by decide) dX10_append_50 rfl ?_
  refine g_aload_n (pc' := 52) (j := 1) hC dX10_append_51 rfl rfl rfl ?_
  refine gf_X10_10 (pc' := 55) hC wF_X10_22 dX10_append_52 rfl ?_
  refine g_iload (pc' := 57) (j := 0) hC dX10_append_55 rfl rfl ?_
  refine g_iload (pc' := 59) (j := 6) hC dX10_append_57 rfl rfl ?_
  refine a_st (pc' := 60) (k := 20) (i := 200 * b + ((rd σ 16 b) + 1) - 1) hC (by decide) (fun σ9 => (ct_20 g σ9)) (by omega) (by decide) dX10_append_59 rfl ?_
  refine g_aload_n (pc' := 61) (j := 1) hC dX10_append_60 rfl rfl rfl ?_
  refine gf_X10_11 (pc' := 64) hC wF_X10_25 dX10_append_61 rfl ?_
  refine g_iload (pc' := 66) (j := 0) hC dX10_append_64 rfl rfl ?_
  refine g_iload (pc' := 68) (j := 7) hC dX10_append_66 rfl rfl ?_
  refine a_st (pc' := 69) (k := 21) (i := 200 * b + ((rd σ 16 b) + 1) - 1) hC (by decide) (fun σ9 => (ct_21 g σ9)) (by omega) (by decide) dX10_append_68 rfl ?_
  refine g_aload_n (pc' := 70) (j := 1) hC dX10_append_69 rfl rfl rfl ?_
  refine gf_X10_12 (pc' := 73) hC wF_X10_28 dX10_append_70 rfl ?_
  refine g_iload (pc' := 75) (j := 0) hC dX10_append_73 rfl rfl ?_
  refine g_aload_n (pc' := 76) (j := 1) hC dX10_append_75 rfl rfl rfl ?_
  refine g_iload_n (pc' := 77) (j := 2) hC dX10_append_76 rfl rfl rfl ?_
  refine g_aload_n (pc' := 78) (j := 1) hC dX10_append_77 rfl rfl rfl ?_
  refine gf_X10_6 (pc' := 81) hC wF_X10_7 dX10_append_78 rfl ?_
  refine g_iload_n (pc' := 82) (j := 2) hC dX10_append_81 rfl rfl rfl ?_
  refine a_ld (pc' := 83) (k := 16) (i := b) hC (by decide) (ct_16 g (uv (uv (uv (uv (uv (uv σ 16 b (nI ((rd σ 16 b) + 1))) 17 (200 * b + ((rd σ 16 b) + 1) - 1) kd) 18 (200 * b + ((rd σ 16 b) + 1) - 1) au) 19 (200 * b + ((rd σ 16 b) + 1) - 1) bl) 20 (200 * b + ((rd σ 16 b) + 1) - 1) va) 21 (200 * b + ((rd σ 16 b) + 1) - 1) li)) (by omega) (by decide) dX10_append_82 rfl ?_
  refine gg_topi (b := nI ((rd σ 16 b) + 1)) ((uv_cell _ _ _ _ (by decide)).trans ((uv_cell _ _ _ _ (by decide)).trans ((uv_cell _ _ _ _ (by decide)).trans ((uv_cell _ _ _ _ (by decide)).trans ((uv_cell _ _ _ _ (by decide)).trans (uv_same _ _ _ _)))))) ?_
  refine f_Vi (pc' := 86) (k := 15) (st := [.int (nI (200 * b + ((rd σ 16 b) + 1) - 1)), .ref (g.2.1 22)]) hC (m_computed x.2.1 g z0 (uv (uv (uv (uv (uv (uv σ 16 b (nI ((rd σ 16 b) + 1))) 17 (200 * b + ((rd σ 16 b) + 1) - 1) kd) 18 (200 * b + ((rd σ 16 b) + 1) - 1) au) 19 (200 * b + ((rd σ 16 b) + 1) - 1) bl) 20 (200 * b + ((rd σ 16 b) + 1) - 1) va) 21 (200 * b + ((rd σ 16 b) + 1) - 1) li) b (((rd σ 16 b) + 1)) (by omega) (by omega) (by omega)) k_X10_computed wM_X10_120 (by decide) (by decide) (ct_15 g (uv (uv (uv (uv (uv (uv σ 16 b (nI ((rd σ 16 b) + 1))) 17 (200 * b + ((rd σ 16 b) + 1) - 1) kd) 18 (200 * b + ((rd σ 16 b) + 1) - 1) au) 19 (200 * b + ((rd σ 16 b) + 1) - 1) bl) 20 (200 * b + ((rd σ 16 b) + 1) - 1) va) 21 (200 * b + ((rd σ 16 b) + 1) - 1) li)) rfl rfl rfl rfl (Nat.le_of_ble_eq_true rfl) dX10_append_83 rfl (Nat.zero_le _) (Nat.zero_le _) ?_
  refine a_st (pc' := 87) (k := 22) (i := 200 * b + ((rd σ 16 b) + 1) - 1) hC (by decide) (fun σ9 => (ct_22 g σ9)) (by omega) (by decide) dX10_append_86 rfl ?_
  refine g_retv hC dX10_append_87 ?_
  exact rfl
set_option maxHeartbeats 4000000 in
set_option maxRecDepth 20000 in
theorem m_blames6 (l : Launch) (g : Lay) (z0 : Nat) (σ : St) (w : Int32) (c : Int32) (o : Int32) (n : Int32) (f : Int32) (s : Int32) (hB : nb σ 15 22 60)  : CTv l yX10_blames cX10_blames 8 0 g z0 [.ref (g.2.1 15), .int w, .int c, .int o, .int n, .int f, .int s] σ (FV (mblm σ w c o n f s)) := by
  refine CTv.of (by decide) (Nat.le_of_ble_eq_true rfl) ?_
  intro x hxl hxa hC
  have hC : Cx x RX10 cX10_blames 8 none 0 g z0 := hC
  have hB2 := hB.2
  show GG x g z0 8 0 0 (Qv x g z0 (FV (mblm σ w c o n f s))) σ 0 [(0, .ref (g.2.1 15)), (1, .int w), (2, .int c), (3, .int o), (4, .int n), (5, .int f), (6, .int s)] []
  refine g_aload_n (pc' := 1) (j := 0) hC dX10_blames_0 rfl rfl rfl ?_
  refine gf_X10_22 (pc' := 4) hC wF_X10_129 dX10_blames_1 rfl ?_
  refine gg_topi (b := nI (rd σ 15 22)) (hB.1) ?_
  refine g_bipush (pc' := 6) (v := nI 60) hC dX10_blames_4 rfl rfl ?_
  refine n_icmp_ne (pc' := 9) (tgt := 54) hC dX10_blames_6 (by decide) rfl (by omega) (by omega) (fun c6 => ?_) (fun c6 => ?_)
  · skip
    refine g_bipush (pc' := 56) (v := nI 6) hC dX10_blames_54 rfl rfl ?_
    refine g_aload_n (pc' := 57) (j := 0) hC dX10_blames_56 rfl rfl rfl ?_
    refine gf_X10_22 (pc' := 60) hC wF_X10_129 dX10_blames_57 rfl ?_
    refine gg_topi (b := nI (rd σ 15 22)) (hB.1) ?_
    refine n_imul (pc' := 61) hC dX10_blames_60 rfl ?_
    refine g_istore (pc' := 63) (lv' := [(7, .int (nI (6 * (rd σ 15 22)))), (0, .ref (g.2.1 15)), (1, .int w), (2, .int c), (3, .int o), (4, .int n), (5, .int f), (6, .int s)]) hC dX10_blames_61 rfl (by decide) rfl ?_
    refine g_aload_n (pc' := 64) (j := 1) hC dX10_blames_63 rfl rfl rfl ?_
    refine gf_X10_20 (pc' := 67) hC wF_X10_53 dX10_blames_64 rfl ?_
    refine g_iload (pc' := 69) (j := 0) hC dX10_blames_67 rfl rfl ?_
    refine g_iload_n (pc' := 70) (j := 2) hC dX10_blames_69 rfl rfl rfl ?_
    refine a_st (pc' := 71) (k := 30) (i := 6 * (rd σ 15 22)) hC (by decide) (fun σ9 => (ct_30 g σ9)) (by omega) (by decide) dX10_blames_70 rfl ?_
    refine g_aload_n (pc' := 72) (j := 1) hC dX10_blames_71 rfl rfl rfl ?_
    refine gf_X10_20 (pc' := 75) hC wF_X10_53 dX10_blames_72 rfl ?_
    refine g_iload (pc' := 77) (j := 0) hC dX10_blames_75 rfl rfl ?_
    refine g_iconst (pc' := 78) (v := nI 1) hC dX10_blames_77 rfl rfl ?_
    refine n_iadd (pc' := 79) hC dX10_blames_78 rfl ?_
    refine g_iload_n (pc' := 80) (j := 3) hC dX10_blames_79 rfl rfl rfl ?_
    refine a_st (pc' := 81) (k := 30) (i := (6 * (rd σ 15 22)) + 1) hC (by decide) (fun σ9 => (ct_30 g σ9)) (by omega) (by decide) dX10_blames_80 rfl ?_
    refine g_aload_n (pc' := 82) (j := 1) hC dX10_blames_81 rfl rfl rfl ?_
    refine gf_X10_20 (pc' := 85) hC wF_X10_53 dX10_blames_82 rfl ?_
    refine g_iload (pc' := 87) (j := 0) hC dX10_blames_85 rfl rfl ?_
    refine g_iconst (pc' := 88) (v := nI 2) hC dX10_blames_87 rfl rfl ?_
    refine n_iadd (pc' := 89) hC dX10_blames_88 rfl ?_
    refine g_iload_n (pc' := 90) (j := 4) hC dX10_blames_89 rfl rfl rfl ?_
    refine a_st (pc' := 91) (k := 30) (i := (6 * (rd σ 15 22)) + 2) hC (by decide) (fun σ9 => (ct_30 g σ9)) (by omega) (by decide) dX10_blames_90 rfl ?_
    refine g_aload_n (pc' := 92) (j := 1) hC dX10_blames_91 rfl rfl rfl ?_
    refine gf_X10_20 (pc' := 95) hC wF_X10_53 dX10_blames_92 rfl ?_
    refine g_iload (pc' := 97) (j := 0) hC dX10_blames_95 rfl rfl ?_
    refine g_iconst (pc' := 98) (v := nI 3) hC dX10_blames_97 rfl rfl ?_
    refine n_iadd (pc' := 99) hC dX10_blames_98 rfl ?_
    refine g_iload (pc' := 101) (j := 5) hC dX10_blames_99 rfl rfl ?_
    refine a_st (pc' := 102) (k := 30) (i := (6 * (rd σ 15 22)) + 3) hC (by decide) (fun σ9 => (ct_30 g σ9)) (by omega) (by decide) dX10_blames_101 rfl ?_
    refine g_aload_n (pc' := 103) (j := 1) hC dX10_blames_102 rfl rfl rfl ?_
    refine gf_X10_20 (pc' := 106) hC wF_X10_53 dX10_blames_103 rfl ?_
    refine g_iload (pc' := 108) (j := 0) hC dX10_blames_106 rfl rfl ?_
    refine g_iconst (pc' := 109) (v := nI 4) hC dX10_blames_108 rfl rfl ?_
    refine n_iadd (pc' := 110) hC dX10_blames_109 rfl ?_
    refine g_iload (pc' := 112) (j := 6) hC dX10_blames_110 rfl rfl ?_
    refine a_st (pc' := 113) (k := 30) (i := (6 * (rd σ 15 22)) + 4) hC (by decide) (fun σ9 => (ct_30 g σ9)) (by omega) (by decide) dX10_blames_112 rfl ?_
    refine g_aload_n (pc' := 114) (j := 1) hC dX10_blames_113 rfl rfl rfl ?_
    refine gf_X10_20 (pc' := 117) hC wF_X10_53 dX10_blames_114 rfl ?_
    refine g_iload (pc' := 119) (j := 0) hC dX10_blames_117 rfl rfl ?_
    refine g_iconst (pc' := 120) (v := nI 5) hC dX10_blames_119 rfl rfl ?_
    refine n_iadd (pc' := 121) hC dX10_blames_120 rfl ?_
    refine g_iload (pc' := 123) (j := 7) hC dX10_blames_121 rfl rfl ?_
    refine a_st (pc' := 124) (k := 30) (i := (6 * (rd σ 15 22)) + 5) hC (by decide) (fun σ9 => (ct_30 g σ9)) (by omega) (by decide) dX10_blames_123 rfl ?_
    refine g_aload_n (pc' := 125) (j := 1) hC dX10_blames_124 rfl rfl rfl ?_
    refine g_aload_n (pc' := 126) (j := 1) hC dX10_blames_125 rfl rfl rfl ?_
    refine gf_X10_22 (pc' := 129) hC wF_X10_129 dX10_blames_126 rfl ?_
    refine gg_topi (b := nI (rd σ 15 22)) ((uv_cell _ _ _ _ (by decide)).trans ((uv_cell _ _ _ _ (by decide)).trans ((uv_cell _ _ _ _ (by decide)).trans ((uv_cell _ _ _ _ (by decide)).trans ((uv_cell _ _ _ _ (by decide)).trans ((uv_cell _ _ _ _ (by decide)).trans (hB.1))))))) ?_
    refine g_iconst (pc' := 130) (v := nI 1) hC dX10_blames_129 rfl rfl ?_
    refine n_iadd (pc' := 131) hC dX10_blames_130 rfl ?_
    refine pf_X10_22 (pc' := 134) hC wF_X10_129 dX10_blames_131 rfl ?_
    refine g_retv hC dX10_blames_134 ?_
    show _ = mblm σ w c o n f s; first | (have hk : k = 360 := by omega); subst hk; simp [mblm, mb0, mbn, c6] | simp [mblm, mb0, mbn, c6]
  · skip
    refine g_bipush (pc' := 11) (v := nI 6) hC dX10_blames_9 rfl rfl ?_
    refine g_istore (pc' := 13) (lv' := [(7, .int (nI 6)), (0, .ref (g.2.1 15)), (1, .int w), (2, .int c), (3, .int o), (4, .int n), (5, .int f), (6, .int s)]) hC dX10_blames_11 rfl (by decide) rfl ?_
    have L13 : ∀ (fu : Nat) (k : Nat), (6 ≤ k) → (k ≤ 360) → (360 - k) < fu → GG x g z0 8 0 0 (Qv x g z0 (FV (mblm σ w c o n f s))) (ur σ 30 (shf (σ.1 30) 6 k)) 13 [(7, .int (nI k)), (0, .ref (g.2.1 15)), (1, .int w), (2, .int c), (3, .int o), (4, .int n), (5, .int f), (6, .int s)] [] := by
      intro fu
      induction fu with
      | zero => intro k h1 h2 hz; exact absurd hz (Nat.not_lt_zero _)
      | succ fu ih13 =>
        intro k h1 h2 hf
        refine g_iload (pc' := 15) (j := 0) hC dX10_blames_13 rfl rfl ?_
        refine g_sipush (pc' := 18) (v := nI 360) hC dX10_blames_15 rfl rfl ?_
        refine n_icmp_ge (pc' := 21) (tgt := 44) hC dX10_blames_18 (by decide) rfl (by omega) (by omega) (fun c18 => ?_) (fun c18 => ?_)
        · skip
          refine g_aload_n (pc' := 45) (j := 1) hC dX10_blames_44 rfl rfl rfl ?_
          refine g_aload_n (pc' := 46) (j := 1) hC dX10_blames_45 rfl rfl rfl ?_
          refine gf_X10_22 (pc' := 49) hC wF_X10_129 dX10_blames_46 rfl ?_
          refine gg_topi (b := nI (rd σ 15 22)) ((ur_cell _ _ _ (by decide)).trans (hB.1)) ?_
          refine g_iconst (pc' := 50) (v := nI 1) hC dX10_blames_49 rfl rfl ?_
          refine n_isub (pc' := 51) hC dX10_blames_50 rfl (by omega) ?_
          refine pf_X10_22 (pc' := 54) hC wF_X10_129 dX10_blames_51 rfl ?_
          refine g_bipush (pc' := 56) (v := nI 6) hC dX10_blames_54 rfl rfl ?_
          refine g_aload_n (pc' := 57) (j := 1) hC dX10_blames_56 rfl rfl rfl ?_
          refine gf_X10_22 (pc' := 60) hC wF_X10_129 dX10_blames_57 rfl ?_
          refine gg_topi (b := nI ((rd σ 15 22) - 1)) (uv_same _ _ _ _) ?_
          refine n_imul (pc' := 61) hC dX10_blames_60 rfl ?_
          refine g_istore (pc' := 63) (lv' := [(7, .int (nI (6 * ((rd σ 15 22) - 1)))), (0, .ref (g.2.1 15)), (1, .int w), (2, .int c), (3, .int o), (4, .int n), (5, .int f), (6, .int s)]) hC dX10_blames_61 rfl (by decide) rfl ?_
          refine g_aload_n (pc' := 64) (j := 1) hC dX10_blames_63 rfl rfl rfl ?_
          refine gf_X10_20 (pc' := 67) hC wF_X10_53 dX10_blames_64 rfl ?_
          refine g_iload (pc' := 69) (j := 0) hC dX10_blames_67 rfl rfl ?_
          refine g_iload_n (pc' := 70) (j := 2) hC dX10_blames_69 rfl rfl rfl ?_
          refine a_st (pc' := 71) (k := 30) (i := 6 * ((rd σ 15 22) - 1)) hC (by decide) (fun σ9 => (ct_30 g σ9)) (by omega) (by decide) dX10_blames_70 rfl ?_
          refine g_aload_n (pc' := 72) (j := 1) hC dX10_blames_71 rfl rfl rfl ?_
          refine gf_X10_20 (pc' := 75) hC wF_X10_53 dX10_blames_72 rfl ?_
          refine g_iload (pc' := 77) (j := 0) hC dX10_blames_75 rfl rfl ?_
          refine g_iconst (pc' := 78) (v := nI 1) hC dX10_blames_77 rfl rfl ?_
          refine n_iadd (pc' := 79) hC dX10_blames_78 rfl ?_
          refine g_iload_n (pc' := 80) (j := 3) hC dX10_blames_79 rfl rfl rfl ?_
          refine a_st (pc' := 81) (k := 30) (i := (6 * ((rd σ 15 22) - 1)) + 1) hC (by decide) (fun σ9 => (ct_30 g σ9)) (by omega) (by decide) dX10_blames_80 rfl ?_
          refine g_aload_n (pc' := 82) (j := 1) hC dX10_blames_81 rfl rfl rfl ?_
          refine gf_X10_20 (pc' := 85) hC wF_X10_53 dX10_blames_82 rfl ?_
          refine g_iload (pc' := 87) (j := 0) hC dX10_blames_85 rfl rfl ?_
          refine g_iconst (pc' := 88) (v := nI 2) hC dX10_blames_87 rfl rfl ?_
          refine n_iadd (pc' := 89) hC dX10_blames_88 rfl ?_
          refine g_iload_n (pc' := 90) (j := 4) hC dX10_blames_89 rfl rfl rfl ?_
          refine a_st (pc' := 91) (k := 30) (i := (6 * ((rd σ 15 22) - 1)) + 2) hC (by decide) (fun σ9 => (ct_30 g σ9)) (by omega) (by decide) dX10_blames_90 rfl ?_
          refine g_aload_n (pc' := 92) (j := 1) hC dX10_blames_91 rfl rfl rfl ?_
          refine gf_X10_20 (pc' := 95) hC wF_X10_53 dX10_blames_92 rfl ?_
          refine g_iload (pc' := 97) (j := 0) hC dX10_blames_95 rfl rfl ?_
          refine g_iconst (pc' := 98) (v := nI 3) hC dX10_blames_97 rfl rfl ?_
          refine n_iadd (pc' := 99) hC dX10_blames_98 rfl ?_
          refine g_iload (pc' := 101) (j := 5) hC dX10_blames_99 rfl rfl ?_
          refine a_st (pc' := 102) (k := 30) (i := (6 * ((rd σ 15 22) - 1)) + 3) hC (by decide) (fun σ9 => (ct_30 g σ9)) (by omega) (by decide) dX10_blames_101 rfl ?_
          refine g_aload_n (pc' := 103) (j := 1) hC dX10_blames_102 rfl rfl rfl ?_
          refine gf_X10_20 (pc' := 106) hC wF_X10_53 dX10_blames_103 rfl ?_
          refine g_iload (pc' := 108) (j := 0) hC dX10_blames_106 rfl rfl ?_
          refine g_iconst (pc' := 109) (v := nI 4) hC dX10_blames_108 rfl rfl ?_
          refine n_iadd (pc' := 110) hC dX10_blames_109 rfl ?_
          refine g_iload (pc' := 112) (j := 6) hC dX10_blames_110 rfl rfl ?_
          refine a_st (pc' := 113) (k := 30) (i := (6 * ((rd σ 15 22) - 1)) + 4) hC (by decide) (fun σ9 => (ct_30 g σ9)) (by omega) (by decide) dX10_blames_112 rfl ?_
          refine g_aload_n (pc' := 114) (j := 1) hC dX10_blames_113 rfl rfl rfl ?_
          refine gf_X10_20 (pc' := 117) hC wF_X10_53 dX10_blames_114 rfl ?_
          refine g_iload (pc' := 119) (j := 0) hC dX10_blames_117 rfl rfl ?_
          refine g_iconst (pc' := 120) (v := nI 5) hC dX10_blames_119 rfl rfl ?_
          refine n_iadd (pc' := 121) hC dX10_blames_120 rfl ?_
          refine g_iload (pc' := 123) (j := 7) hC dX10_blames_121 rfl rfl ?_
          refine a_st (pc' := 124) (k := 30) (i := (6 * ((rd σ 15 22) - 1)) + 5) hC (by decide) (fun σ9 => (ct_30 g σ9)) (by omega) (by decide) dX10_blames_123 rfl ?_
          refine g_aload_n (pc' := 125) (j := 1) hC dX10_blames_124 rfl rfl rfl ?_
          refine g_aload_n (pc' := 126) (j := 1) hC dX10_blames_125 rfl rfl rfl ?_
          refine gf_X10_22 (pc' := 129) hC wF_X10_129 dX10_blames_126 rfl ?_
          refine gg_topi (b := nI ((rd σ 15 22) - 1)) ((uv_cell _ _ _ _ (by decide)).trans ((uv_cell _ _ _ _ (by decide)).trans ((uv_cell _ _ _ _ (by decide)).trans ((uv_cell _ _ _ _ (by decide)).trans ((uv_cell _ _ _ _ (by decide)).trans ((uv_cell _ _ _ _ (by decide)).trans (uv_same _ _ _ _))))))) ?_
          refine g_iconst (pc' := 130) (v := nI 1) hC dX10_blames_129 rfl rfl ?_
          refine n_iadd (pc' := 131) hC dX10_blames_130 rfl ?_
          refine pf_X10_22 (pc' := 134) hC wF_X10_129 dX10_blames_131 rfl ?_
          refine g_retv hC dX10_blames_134 ?_
          show _ = mblm σ w c o n f s; first | (have hk : k = 360 := by omega); subst hk; simp [mblm, mb0, mbn, c6] | simp [mblm, mb0, mbn, c6]
        · skip
          refine g_aload_n (pc' := 22) (j := 1) hC dX10_blames_21 rfl rfl rfl ?_
          refine gf_X10_20 (pc' := 25) hC wF_X10_53 dX10_blames_22 rfl ?_
          refine g_iload (pc' := 27) (j := 0) hC dX10_blames_25 rfl rfl ?_
          refine g_bipush (pc' := 29) (v := nI 6) hC dX10_blames_27 rfl rfl ?_
          refine n_isub (pc' := 30) hC dX10_blames_29 rfl (by omega) ?_
          refine g_aload_n (pc' := 31) (j := 1) hC dX10_blames_30 rfl rfl rfl ?_
          refine gf_X10_20 (pc' := 34) hC wF_X10_53 dX10_blames_31 rfl ?_
          refine g_iload (pc' := 36) (j := 0) hC dX10_blames_34 rfl rfl ?_
          refine a_ld (pc' := 37) (k := 30) (i := k) hC (by decide) (ct_30 g (ur σ 30 (shf (σ.1 30) 6 k))) (by omega) (by decide) dX10_blames_36 rfl ?_
          refine a_st (pc' := 38) (k := 30) (i := k - 6) hC (by decide) (fun σ9 => (ct_30 g σ9)) (by omega) (by decide) dX10_blames_37 rfl ?_
          refine g_iinc (pc' := 41) (j := 0) (u := nI (k + 1)) (lv' := [(7, .int (nI (k + 1))), (0, .ref (g.2.1 15)), (1, .int w), (2, .int c), (3, .int o), (4, .int n), (5, .int f), (6, .int s)]) hC dX10_blames_38 rfl rfl (nI_add k 1) (by decide) rfl ?_
          refine g_goto (tgt := 13) hC dX10_blames_41 (by decide) ?_
          refine gg_st (σ' := (ur σ 30 (shf (σ.1 30) 6 (k + 1)))) (shf_step _ _ _ _ (by omega) (by omega)) ?_
          refine gg_lv (lv' := [(7, .int (nI (k + 1))), (0, .ref (g.2.1 15)), (1, .int w), (2, .int c), (3, .int o), (4, .int n), (5, .int f), (6, .int s)]) ?_ [0, 1, 2, 3, 4, 5, 6, 7] rfl
          exact ih13 (k + 1) (by omega) (by omega) (by omega)
    refine gg_st (σ' := (ur σ 30 (shf (σ.1 30) 6 6))) ((shf_0 _ _ _ _ (by omega)).symm) ?_
    refine gg_lv (lv' := [(7, .int (nI 6)), (0, .ref (g.2.1 15)), (1, .int w), (2, .int c), (3, .int o), (4, .int n), (5, .int f), (6, .int s)]) ?_ [0, 1, 2, 3, 4, 5, 6, 7] rfl
    exact L13 (360 - 6 + 1) 6 (by omega) (by omega) (by omega)
set_option maxHeartbeats 4000000 in
set_option maxRecDepth 20000 in
theorem m_putsPost (l : Launch) (g : Lay) (z0 : Nat) (σ : St) (c : Nat) (hc : c < 6) (hp : nb σ 24 c 200) (hN : nb σ 15 21 40)  : CTv l yX10_putsPost cX10_putsPost 3 2 g z0 [.ref (g.2.1 15), .int (nI c)] σ (FV (mpst σ c)) := by
  refine CTv.of (by decide) (Nat.le_of_ble_eq_true rfl) ?_
  intro x hxl hxa hC
  have hC : Cx x RX10 cX10_putsPost 3 none 2 g z0 := hC
  have hN2 := hN.2
  have hp2 := hp.2
  show GG x g z0 3 0 0 (Qv x g z0 (FV (mpst σ c))) σ 0 [(0, .ref (g.2.1 15)), (1, .int (nI c))] []
  refine g_aload_n (pc' := 1) (j := 0) hC dX10_putsPost_0 rfl rfl rfl ?_
  refine gf_X10_21 (pc' := 4) hC wF_X10_126 dX10_putsPost_1 rfl ?_
  refine gg_topi (b := nI (rd σ 15 21)) (hN.1) ?_
  refine g_bipush (pc' := 6) (v := nI 40) hC dX10_putsPost_4 rfl rfl ?_
  refine n_icmp_ne (pc' := 9) (tgt := 48) hC dX10_putsPost_6 (by decide) rfl (by omega) (by omega) (fun c6 => ?_) (fun c6 => ?_)
  · skip
    refine g_aload_n (pc' := 49) (j := 0) hC dX10_putsPost_48 rfl rfl rfl ?_
    refine g_aload_n (pc' := 50) (j := 0) hC dX10_putsPost_49 rfl rfl rfl ?_
    refine gf_X10_23 (pc' := 53) hC wF_X10_132 dX10_putsPost_50 rfl ?_
    refine g_i2l (pc' := 54) hC dX10_putsPost_53 rfl ?_
    refine g_ldc2 (pc' := 57) (v := 1000003) hC wC_X10_98 dX10_putsPost_54 rfl ?_
    refine g_lmul (pc' := 58) hC dX10_putsPost_57 rfl ?_
    refine g_aload_n (pc' := 59) (j := 0) hC dX10_putsPost_58 rfl rfl rfl ?_
    refine g_iload_n (pc' := 60) (j := 1) hC dX10_putsPost_59 rfl rfl rfl ?_
    refine f_Vi (pc' := 63) (k := 15) (st := [.long (((σ.1 15 23).toInt64) * 1000003), .ref (g.2.1 15)]) hC (m_ownHash x.2.1 g z0 σ c (by omega) (by first | exact hp | (simp (disch := decide) only [nb, rd_uv, rd_ur, uv_cell, ur_cell]; exact hp) | omega)) k_X10_ownHash wM_X10_139 (by decide) (by decide) (ct_15 g σ) rfl rfl rfl rfl (Nat.le_of_ble_eq_true rfl) dX10_putsPost_60 rfl (Nat.zero_le _) (Nat.zero_le _) ?_
    refine g_i2l (pc' := 64) hC dX10_putsPost_63 rfl ?_
    refine g_ldc2 (pc' := 67) (v := 7919) hC wC_X10_106 dX10_putsPost_64 rfl ?_
    refine g_lmul (pc' := 68) hC dX10_putsPost_67 rfl ?_
    refine g_ladd (pc' := 69) hC dX10_putsPost_68 rfl ?_
    refine g_aload_n (pc' := 70) (j := 0) hC dX10_putsPost_69 rfl rfl rfl ?_
    refine gf_X10_14 (pc' := 73) hC wF_X10_34 dX10_putsPost_70 rfl ?_
    refine g_iload_n (pc' := 74) (j := 1) hC dX10_putsPost_73 rfl rfl rfl ?_
    refine a_ld (pc' := 75) (k := 24) (i := c) hC (by decide) (ct_24 g σ) (by omega) (by decide) dX10_putsPost_74 rfl ?_
    refine gg_topi (b := nI (rd σ 24 c)) (hp.1) ?_
    refine g_i2l (pc' := 76) hC dX10_putsPost_75 rfl ?_
    refine g_ldc2 (pc' := 79) (v := 17) hC wC_X10_114 dX10_putsPost_76 rfl ?_
    refine g_lmul (pc' := 80) hC dX10_putsPost_79 rfl ?_
    refine g_ladd (pc' := 81) hC dX10_putsPost_80 rfl ?_
    refine g_iload_n (pc' := 82) (j := 1) hC dX10_putsPost_81 rfl rfl rfl ?_
    refine g_i2l (pc' := 83) hC dX10_putsPost_82 rfl ?_
    refine g_ladd (pc' := 84) hC dX10_putsPost_83 rfl ?_
    refine f_Si (pc' := 87) (st := [.ref (g.2.1 15)]) hC (m_rest x.2.1 g z0 σ (((((((σ.1 15 23).toInt64) * 1000003) + (((σ.1 27 (201 * c + rd σ 24 c)).toInt64) * 7919)) + (((nI (rd σ 24 c)).toInt64) * 17)) + ((nI c).toInt64)))) k_X10_rest wM_X10_102 (by decide) rfl rfl (Nat.le_of_ble_eq_true rfl) dX10_putsPost_84 rfl (Nat.zero_le _) (Nat.zero_le _) ?_
    refine pf_X10_23 (pc' := 90) hC wF_X10_132 dX10_putsPost_87 rfl ?_
    refine g_iconst (pc' := 91) (v := nI 4) hC dX10_putsPost_90 rfl rfl ?_
    refine g_aload_n (pc' := 92) (j := 0) hC dX10_putsPost_91 rfl rfl rfl ?_
    refine gf_X10_21 (pc' := 95) hC wF_X10_126 dX10_putsPost_92 rfl ?_
    refine gg_topi (b := nI (rd σ 15 21)) ((uv_idx _ _ _ _ (by decide)).trans (hN.1)) ?_
    refine n_imul (pc' := 96) hC dX10_putsPost_95 rfl ?_
    refine g_istore_n (pc' := 97) (lv' := [(2, .int (nI (4 * (rd σ 15 21)))), (0, .ref (g.2.1 15)), (1, .int (nI c))]) hC dX10_putsPost_96 rfl rfl (by decide) rfl ?_
    refine g_aload_n (pc' := 98) (j := 1) hC dX10_putsPost_97 rfl rfl rfl ?_
    refine gf_X10_19 (pc' := 101) hC wF_X10_50 dX10_putsPost_98 rfl ?_
    refine g_iload_n (pc' := 102) (j := 0) hC dX10_putsPost_101 rfl rfl rfl ?_
    refine g_iload_n (pc' := 103) (j := 2) hC dX10_putsPost_102 rfl rfl rfl ?_
    refine a_st (pc' := 104) (k := 29) (i := 4 * (rd σ 15 21)) hC (by decide) (fun σ9 => (ct_29 g σ9)) (by omega) (by decide) dX10_putsPost_103 rfl ?_
    refine g_aload_n (pc' := 105) (j := 1) hC dX10_putsPost_104 rfl rfl rfl ?_
    refine gf_X10_19 (pc' := 108) hC wF_X10_50 dX10_putsPost_105 rfl ?_
    refine g_iload_n (pc' := 109) (j := 0) hC dX10_putsPost_108 rfl rfl rfl ?_
    refine g_iconst (pc' := 110) (v := nI 1) hC dX10_putsPost_109 rfl rfl ?_
    refine n_iadd (pc' := 111) hC dX10_putsPost_110 rfl ?_
    refine g_aload_n (pc' := 112) (j := 1) hC dX10_putsPost_111 rfl rfl rfl ?_
    refine gf_X10_14 (pc' := 115) hC wF_X10_34 dX10_putsPost_112 rfl ?_
    refine g_iload_n (pc' := 116) (j := 2) hC dX10_putsPost_115 rfl rfl rfl ?_
    refine a_ld (pc' := 117) (k := 24) (i := c) hC (by decide) (ct_24 g (uv (uv σ 15 23 (rs ((((((σ.1 15 23).toInt64) * 1000003) + (((σ.1 27 (201 * c + rd σ 24 c)).toInt64) * 7919)) + (((nI (rd σ 24 c)).toInt64) * 17)) + ((nI c).toInt64)))) 29 (4 * (rd σ 15 21)) (nI c))) (by omega) (by decide) dX10_putsPost_116 rfl ?_
    refine gg_topi (b := nI (rd σ 24 c)) ((uv_cell _ _ _ _ (by decide)).trans ((uv_cell _ _ _ _ (by decide)).trans (hp.1))) ?_
    refine a_st (pc' := 118) (k := 29) (i := (4 * (rd σ 15 21)) + 1) hC (by decide) (fun σ9 => (ct_29 g σ9)) (by omega) (by decide) dX10_putsPost_117 rfl ?_
    refine g_aload_n (pc' := 119) (j := 1) hC dX10_putsPost_118 rfl rfl rfl ?_
    refine gf_X10_19 (pc' := 122) hC wF_X10_50 dX10_putsPost_119 rfl ?_
    refine g_iload_n (pc' := 123) (j := 0) hC dX10_putsPost_122 rfl rfl rfl ?_
    refine g_iconst (pc' := 124) (v := nI 2) hC dX10_putsPost_123 rfl rfl ?_
    refine n_iadd (pc' := 125) hC dX10_putsPost_124 rfl ?_
    refine g_aload_n (pc' := 126) (j := 1) hC dX10_putsPost_125 rfl rfl rfl ?_
    refine g_iload_n (pc' := 127) (j := 2) hC dX10_putsPost_126 rfl rfl rfl ?_
    refine f_Vi (pc' := 130) (k := 15) (st := [.int (nI ((4 * (rd σ 15 21)) + 2)), .ref (g.2.1 29)]) hC (m_ownHash x.2.1 g z0 (uv (uv (uv σ 15 23 (rs ((((((σ.1 15 23).toInt64) * 1000003) + (((σ.1 27 (201 * c + rd σ 24 c)).toInt64) * 7919)) + (((nI (rd σ 24 c)).toInt64) * 17)) + ((nI c).toInt64)))) 29 (4 * (rd σ 15 21)) (nI c)) 29 ((4 * (rd σ 15 21)) + 1) (nI (rd σ 24 c))) c (by omega) (by first | exact hp | (simp (disch := decide) only [nb, rd_uv, rd_ur, uv_cell, ur_cell]; exact hp) | omega)) k_X10_ownHash wM_X10_139 (by decide) (by decide) (ct_15 g (uv (uv (uv σ 15 23 (rs ((((((σ.1 15 23).toInt64) * 1000003) + (((σ.1 27 (201 * c + rd σ 24 c)).toInt64) * 7919)) + (((nI (rd σ 24 c)).toInt64) * 17)) + ((nI c).toInt64)))) 29 (4 * (rd σ 15 21)) (nI c)) 29 ((4 * (rd σ 15 21)) + 1) (nI (rd σ 24 c)))) rfl rfl rfl rfl (Nat.le_of_ble_eq_true rfl) dX10_putsPost_127 rfl (Nat.zero_le _) (Nat.zero_le _) ?_
    refine gg_topi (b := σ.1 27 (201 * c + rd σ 24 c)) (by simp (disch := decide) only [mh_uv, mh_ur, mcomp_uv, rd_uv, rd_ur, uv_cell, ur_cell, uv_idx, uv_fun, rd_idx, ne_eq, not_false_eq_true]) ?_
    refine a_st (pc' := 131) (k := 29) (i := (4 * (rd σ 15 21)) + 2) hC (by decide) (fun σ9 => (ct_29 g σ9)) (by omega) (by decide) dX10_putsPost_130 rfl ?_
    refine g_aload_n (pc' := 132) (j := 1) hC dX10_putsPost_131 rfl rfl rfl ?_
    refine gf_X10_19 (pc' := 135) hC wF_X10_50 dX10_putsPost_132 rfl ?_
    refine g_iload_n (pc' := 136) (j := 0) hC dX10_putsPost_135 rfl rfl rfl ?_
    refine g_iconst (pc' := 137) (v := nI 3) hC dX10_putsPost_136 rfl rfl ?_
    refine n_iadd (pc' := 138) hC dX10_putsPost_137 rfl ?_
    refine g_aload_n (pc' := 139) (j := 1) hC dX10_putsPost_138 rfl rfl rfl ?_
    refine gf_X10_23 (pc' := 142) hC wF_X10_132 dX10_putsPost_139 rfl ?_
    refine gg_topi (b := rs ((((((σ.1 15 23).toInt64) * 1000003) + (((σ.1 27 (201 * c + rd σ 24 c)).toInt64) * 7919)) + (((nI (rd σ 24 c)).toInt64) * 17)) + ((nI c).toInt64))) ((uv_cell _ _ _ _ (by decide)).trans ((uv_cell _ _ _ _ (by decide)).trans ((uv_cell _ _ _ _ (by decide)).trans (uv_same _ _ _ _)))) ?_
    refine a_st (pc' := 143) (k := 29) (i := (4 * (rd σ 15 21)) + 3) hC (by decide) (fun σ9 => (ct_29 g σ9)) (by omega) (by decide) dX10_putsPost_142 rfl ?_
    refine g_aload_n (pc' := 144) (j := 1) hC dX10_putsPost_143 rfl rfl rfl ?_
    refine g_aload_n (pc' := 145) (j := 1) hC dX10_putsPost_144 rfl rfl rfl ?_
    refine gf_X10_21 (pc' := 148) hC wF_X10_126 dX10_putsPost_145 rfl ?_
    refine gg_topi (b := nI (rd σ 15 21)) ((uv_cell _ _ _ _ (by decide)).trans ((uv_cell _ _ _ _ (by decide)).trans ((uv_cell _ _ _ _ (by decide)).trans ((uv_cell _ _ _ _ (by decide)).trans ((uv_idx _ _ _ _ (by decide)).trans (hN.1)))))) ?_
    refine g_iconst (pc' := 149) (v := nI 1) hC dX10_putsPost_148 rfl rfl ?_
    refine n_iadd (pc' := 150) hC dX10_putsPost_149 rfl ?_
    refine pf_X10_21 (pc' := 153) hC wF_X10_126 dX10_putsPost_150 rfl ?_
    refine g_retv hC dX10_putsPost_153 ?_
    show _ = mpst σ c; first | (have hk : k = 160 := by omega); subst hk; simp [mpst, mp0, mpn, msl, c6] | simp [mpst, mp0, mpn, msl, c6]
  · skip
    refine g_iconst (pc' := 10) (v := nI 4) hC dX10_putsPost_9 rfl rfl ?_
    refine g_istore_n (pc' := 11) (lv' := [(2, .int (nI 4)), (0, .ref (g.2.1 15)), (1, .int (nI c))]) hC dX10_putsPost_10 rfl rfl (by decide) rfl ?_
    have L11 : ∀ (fu : Nat) (k : Nat), (4 ≤ k) → (k ≤ 160) → (160 - k) < fu → GG x g z0 3 0 0 (Qv x g z0 (FV (mpst σ c))) (ur σ 29 (shf (σ.1 29) 4 k)) 11 [(2, .int (nI k)), (0, .ref (g.2.1 15)), (1, .int (nI c))] [] := by
      intro fu
      induction fu with
      | zero => intro k h1 h2 hz; exact absurd hz (Nat.not_lt_zero _)
      | succ fu ih11 =>
        intro k h1 h2 hf
        refine g_iload_n (pc' := 12) (j := 0) hC dX10_putsPost_11 rfl rfl rfl ?_
        refine g_sipush (pc' := 15) (v := nI 160) hC dX10_putsPost_12 rfl rfl ?_
        refine n_icmp_ge (pc' := 18) (tgt := 38) hC dX10_putsPost_15 (by decide) rfl (by omega) (by omega) (fun c15 => ?_) (fun c15 => ?_)
        · skip
          refine g_aload_n (pc' := 39) (j := 1) hC dX10_putsPost_38 rfl rfl rfl ?_
          refine g_aload_n (pc' := 40) (j := 1) hC dX10_putsPost_39 rfl rfl rfl ?_
          refine gf_X10_21 (pc' := 43) hC wF_X10_126 dX10_putsPost_40 rfl ?_
          refine gg_topi (b := nI (rd σ 15 21)) ((ur_cell _ _ _ (by decide)).trans (hN.1)) ?_
          refine g_iconst (pc' := 44) (v := nI 1) hC dX10_putsPost_43 rfl rfl ?_
          refine n_isub (pc' := 45) hC dX10_putsPost_44 rfl (by omega) ?_
          refine pf_X10_21 (pc' := 48) hC wF_X10_126 dX10_putsPost_45 rfl ?_
          refine g_aload_n (pc' := 49) (j := 1) hC dX10_putsPost_48 rfl rfl rfl ?_
          refine g_aload_n (pc' := 50) (j := 1) hC dX10_putsPost_49 rfl rfl rfl ?_
          refine gf_X10_23 (pc' := 53) hC wF_X10_132 dX10_putsPost_50 rfl ?_
          refine gg_topi (b := σ.1 15 23) ((uv_idx _ _ _ _ (by decide)).trans (ur_cell _ _ _ (by decide))) ?_
          refine g_i2l (pc' := 54) hC dX10_putsPost_53 rfl ?_
          refine g_ldc2 (pc' := 57) (v := 1000003) hC wC_X10_98 dX10_putsPost_54 rfl ?_
          refine g_lmul (pc' := 58) hC dX10_putsPost_57 rfl ?_
          refine g_aload_n (pc' := 59) (j := 1) hC dX10_putsPost_58 rfl rfl rfl ?_
          refine g_iload_n (pc' := 60) (j := 2) hC dX10_putsPost_59 rfl rfl rfl ?_
          refine f_Vi (pc' := 63) (k := 15) (st := [.long (((σ.1 15 23).toInt64) * 1000003), .ref (g.2.1 15)]) hC (m_ownHash x.2.1 g z0 (uv (ur σ 29 (shf (σ.1 29) 4 k)) 15 21 (nI ((rd σ 15 21) - 1))) c (by omega) (by first | exact hp | (simp (disch := decide) only [nb, rd_uv, rd_ur, uv_cell, ur_cell]; exact hp) | omega)) k_X10_ownHash wM_X10_139 (by decide) (by decide) (ct_15 g (uv (ur σ 29 (shf (σ.1 29) 4 k)) 15 21 (nI ((rd σ 15 21) - 1)))) rfl rfl rfl rfl (Nat.le_of_ble_eq_true rfl) dX10_putsPost_60 rfl (Nat.zero_le _) (Nat.zero_le _) ?_
          refine gg_topi (b := σ.1 27 (201 * c + rd σ 24 c)) (by simp (disch := decide) only [mh_uv, mh_ur, mcomp_uv, rd_uv, rd_ur, uv_cell, ur_cell, uv_idx, uv_fun, rd_idx, ne_eq, not_false_eq_true]) ?_
          refine g_i2l (pc' := 64) hC dX10_putsPost_63 rfl ?_
          refine g_ldc2 (pc' := 67) (v := 7919) hC wC_X10_106 dX10_putsPost_64 rfl ?_
          refine g_lmul (pc' := 68) hC dX10_putsPost_67 rfl ?_
          refine g_ladd (pc' := 69) hC dX10_putsPost_68 rfl ?_
          refine g_aload_n (pc' := 70) (j := 1) hC dX10_putsPost_69 rfl rfl rfl ?_
          refine gf_X10_14 (pc' := 73) hC wF_X10_34 dX10_putsPost_70 rfl ?_
          refine g_iload_n (pc' := 74) (j := 2) hC dX10_putsPost_73 rfl rfl rfl ?_
          refine a_ld (pc' := 75) (k := 24) (i := c) hC (by decide) (ct_24 g (uv (ur σ 29 (shf (σ.1 29) 4 k)) 15 21 (nI ((rd σ 15 21) - 1)))) (by omega) (by decide) dX10_putsPost_74 rfl ?_
          refine gg_topi (b := nI (rd σ 24 c)) ((uv_cell _ _ _ _ (by decide)).trans ((ur_cell _ _ _ (by decide)).trans (hp.1))) ?_
          refine g_i2l (pc' := 76) hC dX10_putsPost_75 rfl ?_
          refine g_ldc2 (pc' := 79) (v := 17) hC wC_X10_114 dX10_putsPost_76 rfl ?_
          refine g_lmul (pc' := 80) hC dX10_putsPost_79 rfl ?_
          refine g_ladd (pc' := 81) hC dX10_putsPost_80 rfl ?_
          refine g_iload_n (pc' := 82) (j := 2) hC dX10_putsPost_81 rfl rfl rfl ?_
          refine g_i2l (pc' := 83) hC dX10_putsPost_82 rfl ?_
          refine g_ladd (pc' := 84) hC dX10_putsPost_83 rfl ?_
          refine f_Si (pc' := 87) (st := [.ref (g.2.1 15)]) hC (m_rest x.2.1 g z0 (uv (ur σ 29 (shf (σ.1 29) 4 k)) 15 21 (nI ((rd σ 15 21) - 1))) (((((((σ.1 15 23).toInt64) * 1000003) + (((σ.1 27 (201 * c + rd σ 24 c)).toInt64) * 7919)) + (((nI (rd σ 24 c)).toInt64) * 17)) + ((nI c).toInt64)))) k_X10_rest wM_X10_102 (by decide) rfl rfl (Nat.le_of_ble_eq_true rfl) dX10_putsPost_84 rfl (Nat.zero_le _) (Nat.zero_le _) ?_
          refine pf_X10_23 (pc' := 90) hC wF_X10_132 dX10_putsPost_87 rfl ?_
          refine g_iconst (pc' := 91) (v := nI 4) hC dX10_putsPost_90 rfl rfl ?_
          refine g_aload_n (pc' := 92) (j := 1) hC dX10_putsPost_91 rfl rfl rfl ?_
          refine gf_X10_21 (pc' := 95) hC wF_X10_126 dX10_putsPost_92 rfl ?_
          refine gg_topi (b := nI ((rd σ 15 21) - 1)) ((uv_idx _ _ _ _ (by decide)).trans (uv_same _ _ _ _)) ?_
          refine n_imul (pc' := 96) hC dX10_putsPost_95 rfl ?_
          refine g_istore_n (pc' := 97) (lv' := [(2, .int (nI (4 * ((rd σ 15 21) - 1)))), (0, .ref (g.2.1 15)), (1, .int (nI c))]) hC dX10_putsPost_96 rfl rfl (by decide) rfl ?_
          refine g_aload_n (pc' := 98) (j := 1) hC dX10_putsPost_97 rfl rfl rfl ?_
          refine gf_X10_19 (pc' := 101) hC wF_X10_50 dX10_putsPost_98 rfl ?_
          refine g_iload_n (pc' := 102) (j := 0) hC dX10_putsPost_101 rfl rfl rfl ?_
          refine g_iload_n (pc' := 103) (j := 2) hC dX10_putsPost_102 rfl rfl rfl ?_
          refine a_st (pc' := 104) (k := 29) (i := 4 * ((rd σ 15 21) - 1)) hC (by decide) (fun σ9 => (ct_29 g σ9)) (by omega) (by decide) dX10_putsPost_103 rfl ?_
          refine g_aload_n (pc' := 105) (j := 1) hC dX10_putsPost_104 rfl rfl rfl ?_
          refine gf_X10_19 (pc' := 108) hC wF_X10_50 dX10_putsPost_105 rfl ?_
          refine g_iload_n (pc' := 109) (j := 0) hC dX10_putsPost_108 rfl rfl rfl ?_
          refine g_iconst (pc' := 110) (v := nI 1) hC dX10_putsPost_109 rfl rfl ?_
          refine n_iadd (pc' := 111) hC dX10_putsPost_110 rfl ?_
          refine g_aload_n (pc' := 112) (j := 1) hC dX10_putsPost_111 rfl rfl rfl ?_
          refine gf_X10_14 (pc' := 115) hC wF_X10_34 dX10_putsPost_112 rfl ?_
          refine g_iload_n (pc' := 116) (j := 2) hC dX10_putsPost_115 rfl rfl rfl ?_
          refine a_ld (pc' := 117) (k := 24) (i := c) hC (by decide) (ct_24 g (uv (uv (uv (ur σ 29 (shf (σ.1 29) 4 k)) 15 21 (nI ((rd σ 15 21) - 1))) 15 23 (rs ((((((σ.1 15 23).toInt64) * 1000003) + (((σ.1 27 (201 * c + rd σ 24 c)).toInt64) * 7919)) + (((nI (rd σ 24 c)).toInt64) * 17)) + ((nI c).toInt64)))) 29 (4 * ((rd σ 15 21) - 1)) (nI c))) (by omega) (by decide) dX10_putsPost_116 rfl ?_
          refine gg_topi (b := nI (rd σ 24 c)) ((uv_cell _ _ _ _ (by decide)).trans ((uv_cell _ _ _ _ (by decide)).trans ((uv_cell _ _ _ _ (by decide)).trans ((ur_cell _ _ _ (by decide)).trans (hp.1))))) ?_
          refine a_st (pc' := 118) (k := 29) (i := (4 * ((rd σ 15 21) - 1)) + 1) hC (by decide) (fun σ9 => (ct_29 g σ9)) (by omega) (by decide) dX10_putsPost_117 rfl ?_
          refine g_aload_n (pc' := 119) (j := 1) hC dX10_putsPost_118 rfl rfl rfl ?_
          refine gf_X10_19 (pc' := 122) hC wF_X10_50 dX10_putsPost_119 rfl ?_
          refine g_iload_n (pc' := 123) (j := 0) hC dX10_putsPost_122 rfl rfl rfl ?_
          refine g_iconst (pc' := 124) (v := nI 2) hC dX10_putsPost_123 rfl rfl ?_
          refine n_iadd (pc' := 125) hC dX10_putsPost_124 rfl ?_
          refine g_aload_n (pc' := 126) (j := 1) hC dX10_putsPost_125 rfl rfl rfl ?_
          refine g_iload_n (pc' := 127) (j := 2) hC dX10_putsPost_126 rfl rfl rfl ?_
          refine f_Vi (pc' := 130) (k := 15) (st := [.int (nI ((4 * ((rd σ 15 21) - 1)) + 2)), .ref (g.2.1 29)]) hC (m_ownHash x.2.1 g z0 (uv (uv (uv (uv (ur σ 29 (shf (σ.1 29) 4 k)) 15 21 (nI ((rd σ 15 21) - 1))) 15 23 (rs ((((((σ.1 15 23).toInt64) * 1000003) + (((σ.1 27 (201 * c + rd σ 24 c)).toInt64) * 7919)) + (((nI (rd σ 24 c)).toInt64) * 17)) + ((nI c).toInt64)))) 29 (4 * ((rd σ 15 21) - 1)) (nI c)) 29 ((4 * ((rd σ 15 21) - 1)) + 1) (nI (rd σ 24 c))) c (by omega) (by first | exact hp | (simp (disch := decide) only [nb, rd_uv, rd_ur, uv_cell, ur_cell]; exact hp) | omega)) k_X10_ownHash wM_X10_139 (by decide) (by decide) (ct_15 g (uv (uv (uv (uv (ur σ 29 (shf (σ.1 29) 4 k)) 15 21 (nI ((rd σ 15 21) - 1))) 15 23 (rs ((((((σ.1 15 23).toInt64) * 1000003) + (((σ.1 27 (201 * c + rd σ 24 c)).toInt64) * 7919)) + (((nI (rd σ 24 c)).toInt64) * 17)) + ((nI c).toInt64)))) 29 (4 * ((rd σ 15 21) - 1)) (nI c)) 29 ((4 * ((rd σ 15 21) - 1)) + 1) (nI (rd σ 24 c)))) rfl rfl rfl rfl (Nat.le_of_ble_eq_true rfl) dX10_putsPost_127 rfl (Nat.zero_le _) (Nat.zero_le _) ?_
          refine gg_topi (b := σ.1 27 (201 * c + rd σ 24 c)) (by simp (disch := decide) only [mh_uv, mh_ur, mcomp_uv, rd_uv, rd_ur, uv_cell, ur_cell, uv_idx, uv_fun, rd_idx, ne_eq, not_false_eq_true]) ?_
          refine a_st (pc' := 131) (k := 29) (i := (4 * ((rd σ 15 21) - 1)) + 2) hC (by decide) (fun σ9 => (ct_29 g σ9)) (by omega) (by decide) dX10_putsPost_130 rfl ?_
          refine g_aload_n (pc' := 132) (j := 1) hC dX10_putsPost_131 rfl rfl rfl ?_
          refine gf_X10_19 (pc' := 135) hC wF_X10_50 dX10_putsPost_132 rfl ?_
          refine g_iload_n (pc' := 136) (j := 0) hC dX10_putsPost_135 rfl rfl rfl ?_
          refine g_iconst (pc' := 137) (v := nI 3) hC dX10_putsPost_136 rfl rfl ?_
          refine n_iadd (pc' := 138) hC dX10_putsPost_137 rfl ?_
          refine g_aload_n (pc' := 139) (j := 1) hC dX10_putsPost_138 rfl rfl rfl ?_
          refine gf_X10_23 (pc' := 142) hC wF_X10_132 dX10_putsPost_139 rfl ?_
          refine gg_topi (b := rs ((((((σ.1 15 23).toInt64) * 1000003) + (((σ.1 27 (201 * c + rd σ 24 c)).toInt64) * 7919)) + (((nI (rd σ 24 c)).toInt64) * 17)) + ((nI c).toInt64))) ((uv_cell _ _ _ _ (by decide)).trans ((uv_cell _ _ _ _ (by decide)).trans ((uv_cell _ _ _ _ (by decide)).trans (uv_same _ _ _ _)))) ?_
          refine a_st (pc' := 143) (k := 29) (i := (4 * ((rd σ 15 21) - 1)) + 3) hC (by decide) (fun σ9 => (ct_29 g σ9)) (by omega) (by decide) dX10_putsPost_142 rfl ?_
          refine g_aload_n (pc' := 144) (j := 1) hC dX10_putsPost_143 rfl rfl rfl ?_
          refine g_aload_n (pc' := 145) (j := 1) hC dX10_putsPost_144 rfl rfl rfl ?_
          refine gf_X10_21 (pc' := 148) hC wF_X10_126 dX10_putsPost_145 rfl ?_
          refine gg_topi (b := nI ((rd σ 15 21) - 1)) ((uv_cell _ _ _ _ (by decide)).trans ((uv_cell _ _ _ _ (by decide)).trans ((uv_cell _ _ _ _ (by decide)).trans ((uv_cell _ _ _ _ (by decide)).trans ((uv_idx _ _ _ _ (by decide)).trans (uv_same _ _ _ _)))))) ?_
          refine g_iconst (pc' := 149) (v := nI 1) hC dX10_putsPost_148 rfl rfl ?_
          refine n_iadd (pc' := 150) hC dX10_putsPost_149 rfl ?_
          refine pf_X10_21 (pc' := 153) hC wF_X10_126 dX10_putsPost_150 rfl ?_
          refine g_retv hC dX10_putsPost_153 ?_
          show _ = mpst σ c; first | (have hk : k = 160 := by omega); subst hk; simp [mpst, mp0, mpn, msl, c6] | simp [mpst, mp0, mpn, msl, c6]
        · skip
          refine g_aload_n (pc' := 19) (j := 1) hC dX10_putsPost_18 rfl rfl rfl ?_
          refine gf_X10_19 (pc' := 22) hC wF_X10_50 dX10_putsPost_19 rfl ?_
          refine g_iload_n (pc' := 23) (j := 0) hC dX10_putsPost_22 rfl rfl rfl ?_
          refine g_iconst (pc' := 24) (v := nI 4) hC dX10_putsPost_23 rfl rfl ?_
          refine n_isub (pc' := 25) hC dX10_putsPost_24 rfl (by omega) ?_
          refine g_aload_n (pc' := 26) (j := 1) hC dX10_putsPost_25 rfl rfl rfl ?_
          refine gf_X10_19 (pc' := 29) hC wF_X10_50 dX10_putsPost_26 rfl ?_
          refine g_iload_n (pc' := 30) (j := 0) hC dX10_putsPost_29 rfl rfl rfl ?_
          refine a_ld (pc' := 31) (k := 29) (i := k) hC (by decide) (ct_29 g (ur σ 29 (shf (σ.1 29) 4 k))) (by omega) (by decide) dX10_putsPost_30 rfl ?_
          refine a_st (pc' := 32) (k := 29) (i := k - 4) hC (by decide) (fun σ9 => (ct_29 g σ9)) (by omega) (by decide) dX10_putsPost_31 rfl ?_
          refine g_iinc (pc' := 35) (j := 0) (u := nI (k + 1)) (lv' := [(2, .int (nI (k + 1))), (0, .ref (g.2.1 15)), (1, .int (nI c))]) hC dX10_putsPost_32 rfl rfl (nI_add k 1) (by decide) rfl ?_
          refine g_goto (tgt := 11) hC dX10_putsPost_35 (by decide) ?_
          refine gg_st (σ' := (ur σ 29 (shf (σ.1 29) 4 (k + 1)))) (shf_step _ _ _ _ (by omega) (by omega)) ?_
          refine gg_lv (lv' := [(2, .int (nI (k + 1))), (0, .ref (g.2.1 15)), (1, .int (nI c))]) ?_ [0, 1, 2] rfl
          exact ih11 (k + 1) (by omega) (by omega) (by omega)
    refine gg_st (σ' := (ur σ 29 (shf (σ.1 29) 4 4))) ((shf_0 _ _ _ _ (by omega)).symm) ?_
    refine gg_lv (lv' := [(2, .int (nI 4)), (0, .ref (g.2.1 15)), (1, .int (nI c))]) ?_ [0, 1, 2] rfl
    exact L11 (160 - 4 + 1) 4 (by omega) (by omega) (by omega)
set_option maxHeartbeats 4000000 in
set_option maxRecDepth 20000 in
theorem m_lowerOf (l : Launch) (g : Lay) (z0 : Nat) (σ : St) (a : Nat) (b : Nat) (ha : a < 6) (hb : b < 6) (hpa : nb σ 24 a 200) (hpb : nb σ 24 b 200)  : CTi l yX10_lowerOf cX10_lowerOf 3 (some .int) 0 g z0 [.ref (g.2.1 15), .int (nI a), .int (nI b)] σ (FI (nI (min (rd σ 24 a) (rd σ 24 b))) σ) := by
  refine CTi.of (by decide) (Nat.le_of_ble_eq_true rfl) ?_
  intro x hxl hxa hC
  have hC : Cx x RX10 cX10_lowerOf 3 (some .int) 0 g z0 := hC
  have hpa2 := hpa.2
  have hpb2 := hpb.2
  show GG x g z0 3 0 0 (Qi x g z0 (FI (nI (min (rd σ 24 a) (rd σ 24 b))) σ)) σ 0 [(0, .ref (g.2.1 15)), (1, .int (nI a)), (2, .int (nI b))] []
  refine g_aload_n (pc' := 1) (j := 0) hC dX10_lowerOf_0 rfl rfl rfl ?_
  refine gf_X10_14 (pc' := 4) hC wF_X10_34 dX10_lowerOf_1 rfl ?_
  refine g_iload_n (pc' := 5) (j := 1) hC dX10_lowerOf_4 rfl rfl rfl ?_
  refine a_ld (pc' := 6) (k := 24) (i := a) hC (by decide) (ct_24 g σ) (by omega) (by decide) dX10_lowerOf_5 rfl ?_
  refine gg_topi (b := nI (rd σ 24 a)) (hpa.1) ?_
  refine g_aload_n (pc' := 7) (j := 0) hC dX10_lowerOf_6 rfl rfl rfl ?_
  refine gf_X10_14 (pc' := 10) hC wF_X10_34 dX10_lowerOf_7 rfl ?_
  refine g_iload_n (pc' := 11) (j := 2) hC dX10_lowerOf_10 rfl rfl rfl ?_
  refine a_ld (pc' := 12) (k := 24) (i := b) hC (by decide) (ct_24 g σ) (by omega) (by decide) dX10_lowerOf_11 rfl ?_
  refine gg_topi (b := nI (rd σ 24 b)) (hpb.1) ?_
  refine n_icmp_ge (pc' := 15) (tgt := 24) hC dX10_lowerOf_12 (by decide) rfl (by omega) (by omega) (fun c12 => ?_) (fun c12 => ?_)
  · skip
    refine g_aload_n (pc' := 25) (j := 0) hC dX10_lowerOf_24 rfl rfl rfl ?_
    refine gf_X10_14 (pc' := 28) hC wF_X10_34 dX10_lowerOf_25 rfl ?_
    refine g_iload_n (pc' := 29) (j := 2) hC dX10_lowerOf_28 rfl rfl rfl ?_
    refine a_ld (pc' := 30) (k := 24) (i := b) hC (by decide) (ct_24 g σ) (by omega) (by decide) dX10_lowerOf_29 rfl ?_
    refine gg_topi (b := nI (rd σ 24 b)) (hpb.1) ?_
    refine g_ret hC dX10_lowerOf_30 rfl ?_
    exact ⟨congrArg nI (by omega), rfl⟩
  · skip
    refine g_aload_n (pc' := 16) (j := 0) hC dX10_lowerOf_15 rfl rfl rfl ?_
    refine gf_X10_14 (pc' := 19) hC wF_X10_34 dX10_lowerOf_16 rfl ?_
    refine g_iload_n (pc' := 20) (j := 1) hC dX10_lowerOf_19 rfl rfl rfl ?_
    refine a_ld (pc' := 21) (k := 24) (i := a) hC (by decide) (ct_24 g σ) (by omega) (by decide) dX10_lowerOf_20 rfl ?_
    refine gg_topi (b := nI (rd σ 24 a)) (hpa.1) ?_
    refine g_goto (tgt := 30) hC dX10_lowerOf_21 (by decide) ?_
    refine g_ret hC dX10_lowerOf_30 rfl ?_
    exact ⟨congrArg nI (by omega), rfl⟩
set_option maxHeartbeats 4000000 in
set_option maxRecDepth 20000 in
theorem m_areForked (l : Launch) (g : Lay) (z0 : Nat) (σ : St) (a : Nat) (b : Nat) (ha : a < 6) (hb : b < 6) (hpa : nb σ 24 a 200) (hpb : nb σ 24 b 200)  : CTi l yX10_areForked cX10_areForked 4 (some .boolean) 1 g z0 [.ref (g.2.1 15), .int (nI a), .int (nI b)] σ (FI (bI (σ.1 27 (201 * a + min (rd σ 24 a) (rd σ 24 b)) ≠ σ.1 27 (201 * b + min (rd σ 24 a) (rd σ 24 b)))) σ) := by
  refine CTi.of (by decide) (Nat.le_of_ble_eq_true rfl) ?_
  intro x hxl hxa hC
  have hC : Cx x RX10 cX10_areForked 4 (some .boolean) 1 g z0 := hC
  have hpa2 := hpa.2
  have hpb2 := hpb.2
  show GG x g z0 4 0 0 (Qi x g z0 (FI (bI (σ.1 27 (201 * a + min (rd σ 24 a) (rd σ 24 b)) ≠ σ.1 27 (201 * b + min (rd σ 24 a) (rd σ 24 b)))) σ)) σ 0 [(0, .ref (g.2.1 15)), (1, .int (nI a)), (2, .int (nI b))] []
  refine g_aload_n (pc' := 1) (j := 0) hC dX10_areForked_0 rfl rfl rfl ?_
  refine g_iload_n (pc' := 2) (j := 1) hC dX10_areForked_1 rfl rfl rfl ?_
  refine g_iload_n (pc' := 3) (j := 2) hC dX10_areForked_2 rfl rfl rfl ?_
  refine f_Vi (pc' := 6) (k := 15) (st := []) hC (m_lowerOf x.2.1 g z0 σ a b (by omega) (by omega) (by first | exact hpa | (simp (disch := decide) only [nb, rd_uv, rd_ur, uv_cell, ur_cell]; exact hpa) | omega) (by first | exact hpb | (simp (disch := decide) only [nb, rd_uv, rd_ur, uv_cell, ur_cell]; exact hpb) | omega)) k_X10_lowerOf wM_X10_182 (by decide) (by decide) (ct_15 g σ) rfl rfl rfl rfl (Nat.le_of_ble_eq_true rfl) dX10_areForked_3 rfl (Nat.zero_le _) (Nat.zero_le _) ?_
  refine g_istore_n (pc' := 7) (lv' := [(3, .int (nI (min (rd σ 24 a) (rd σ 24 b)))), (0, .ref (g.2.1 15)), (1, .int (nI a)), (2, .int (nI b))]) hC dX10_areForked_6 rfl rfl (by decide) rfl ?_
  refine g_aload_n (pc' := 8) (j := 1) hC dX10_areForked_7 rfl rfl rfl ?_
  refine g_iload_n (pc' := 9) (j := 2) hC dX10_areForked_8 rfl rfl rfl ?_
  refine g_iload_n (pc' := 10) (j := 0) hC dX10_areForked_9 rfl rfl rfl ?_
  refine f_Vi (pc' := 13) (k := 15) (st := []) hC (m_hashIn x.2.1 g z0 σ a ((min (rd σ 24 a) (rd σ 24 b))) (by omega) (by omega)) k_X10_hashIn wM_X10_90 (by decide) (by decide) (ct_15 g σ) rfl rfl rfl rfl (Nat.le_of_ble_eq_true rfl) dX10_areForked_10 rfl (Nat.zero_le _) (Nat.zero_le _) ?_
  refine g_aload_n (pc' := 14) (j := 1) hC dX10_areForked_13 rfl rfl rfl ?_
  refine g_iload_n (pc' := 15) (j := 3) hC dX10_areForked_14 rfl rfl rfl ?_
  refine g_iload_n (pc' := 16) (j := 0) hC dX10_areForked_15 rfl rfl rfl ?_
  refine f_Vi (pc' := 19) (k := 15) (st := [.int (σ.1 27 (201 * a + (min (rd σ 24 a) (rd σ 24 b))))]) hC (m_hashIn x.2.1 g z0 σ b ((min (rd σ 24 a) (rd σ 24 b))) (by omega) (by omega)) k_X10_hashIn wM_X10_90 (by decide) (by decide) (ct_15 g σ) rfl rfl rfl rfl (Nat.le_of_ble_eq_true rfl) dX10_areForked_16 rfl (Nat.zero_le _) (Nat.zero_le _) ?_
  refine g_icmp_eq (pc' := 22) (tgt := 26) hC dX10_areForked_19 (by decide) rfl (fun c19 => ?_) (fun c19 => ?_)
  · skip
    refine g_iconst (pc' := 27) (v := nI 0) hC dX10_areForked_26 rfl rfl ?_
    refine g_ret hC dX10_areForked_27 rfl ?_
    refine ⟨?_, rfl⟩; first | exact (bI_t (by assumption)).symm | exact (bI_f (fun z => z (by assumption))).symm
  · skip
    refine g_iconst (pc' := 23) (v := nI 1) hC dX10_areForked_22 rfl rfl ?_
    refine g_goto (tgt := 27) hC dX10_areForked_23 (by decide) ?_
    refine g_ret hC dX10_areForked_27 rfl ?_
    refine ⟨?_, rfl⟩; first | exact (bI_t (by assumption)).symm | exact (bI_f (fun z => z (by assumption))).symm
