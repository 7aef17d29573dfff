set_option maxHeartbeats 4000000 in
set_option maxRecDepth 20000 in
theorem m_takes (l : Launch) (g : Lay) (z0 : Nat) (σ : St) (c : Nat) (b : Nat) (hc : c < 6) (hb : b < 8) (hL : nb σ 16 b 200) (hau : ∀ i, i < 1600 → σ.1 18 i = -1 ∨ nb σ 18 i 5)  : CTv l yX10_takes cX10_takes 5 2 g z0 [.ref (g.2.1 15), .int (nI c), .int (nI b)] σ (FV (mtk σ c b)) := by
  refine CTv.of (by decide) (Nat.le_of_ble_eq_true rfl) ?_
  intro x hxl hxa hC
  have hC : Cx x RX10 cX10_takes 5 none 2 g z0 := hC
  have hL2 := hL.2
  show GG x g z0 5 0 0 (Qv x g z0 (FV (mtk σ c b))) σ 0 [(0, .ref (g.2.1 15)), (1, .int (nI c)), (2, .int (nI b))] []
  refine g_aload_n (pc' := 1) (j := 0) hC dX10_takes_0 rfl rfl rfl ?_
  refine gf_X10_14 (pc' := 4) hC wF_X10_34 dX10_takes_1 rfl ?_
  refine g_iload_n (pc' := 5) (j := 1) hC dX10_takes_4 rfl rfl rfl ?_
  refine g_aload_n (pc' := 6) (j := 0) hC dX10_takes_5 rfl rfl rfl ?_
  refine gf_X10_6 (pc' := 9) hC wF_X10_7 dX10_takes_6 rfl ?_
  refine g_iload_n (pc' := 10) (j := 2) hC dX10_takes_9 rfl rfl rfl ?_
  refine a_ld (pc' := 11) (k := 16) (i := b) hC (by decide) (ct_16 g σ) (by omega) (by decide) dX10_takes_10 rfl ?_
  refine gg_topi (b := nI (rd σ 16 b)) (hL.1) ?_
  refine a_st (pc' := 12) (k := 24) (i := c) hC (by decide) (fun σ9 => (ct_24 g σ9)) (by omega) (by decide) dX10_takes_11 rfl ?_
  refine g_iconst (pc' := 13) (v := nI 0) hC dX10_takes_12 rfl rfl ?_
  refine g_istore_n (pc' := 14) (lv' := [(3, .int (nI 0)), (0, .ref (g.2.1 15)), (1, .int (nI c)), (2, .int (nI b))]) hC dX10_takes_13 rfl rfl (by decide) rfl ?_
  have L14 : ∀ (fu : Nat) (i : Nat), (i ≤ 6) → (6 - i) < fu → GG x g z0 5 0 0 (Qv x g z0 (FV (mtk σ c b))) (ur (uv σ 24 c (nI (rd σ 16 b))) 26 (vz (σ.1 26) c i)) 14 [(3, .int (nI i)), (0, .ref (g.2.1 15)), (1, .int (nI c)), (2, .int (nI b))] [] := by
    intro fu
    induction fu with
    | zero => intro i h1 hz; exact absurd hz (Nat.not_lt_zero _)
    | succ fu ih14 =>
      intro i h1 hf
      refine g_iload_n (pc' := 15) (j := 0) hC dX10_takes_14 rfl rfl rfl ?_
      refine g_bipush (pc' := 17) (v := nI 6) hC dX10_takes_15 rfl rfl ?_
      refine n_icmp_ge (pc' := 20) (tgt := 38) hC dX10_takes_17 (by decide) rfl (by omega) (by omega) (fun c17 => ?_) (fun c17 => ?_)
      · skip
        refine g_iconst (pc' := 39) (v := nI 0) hC dX10_takes_38 rfl rfl ?_
        refine g_istore_n (pc' := 40) (lv' := [(3, .int (nI 0)), (0, .ref (g.2.1 15)), (1, .int (nI c)), (2, .int (nI b))]) hC dX10_takes_39 rfl rfl (by decide) rfl ?_
        have L40 : ∀ (fu : Nat) (i2 : Nat), (i2 ≤ rd σ 16 b + 1) → (rd σ 16 b + 1 - i2) < fu → GG x g z0 5 0 0 (Qv x g z0 (FV (mtk σ c b))) (ur (ur (uv σ 24 c (nI (rd σ 16 b))) 26 (vz (σ.1 26) c 6)) 27 (hi (mh σ b) (σ.1 27) c i2)) 40 [(3, .int (nI i2)), (0, .ref (g.2.1 15)), (1, .int (nI c)), (2, .int (nI b))] [] := by
          intro fu
          induction fu with
          | zero => intro i2 h2 hz; exact absurd hz (Nat.not_lt_zero _)
          | succ fu ih40 =>
            intro i2 h2 hf
            refine g_iload_n (pc' := 41) (j := 0) hC dX10_takes_40 rfl rfl rfl ?_
            refine g_aload_n (pc' := 42) (j := 1) hC dX10_takes_41 rfl rfl rfl ?_
            refine gf_X10_6 (pc' := 45) hC wF_X10_7 dX10_takes_42 rfl ?_
            refine g_iload_n (pc' := 46) (j := 3) hC dX10_takes_45 rfl rfl rfl ?_
            refine a_ld (pc' := 47) (k := 16) (i := b) hC (by decide) (ct_16 g (ur (ur (uv σ 24 c (nI (rd σ 16 b))) 26 (vz (σ.1 26) c 6)) 27 (hi (mh σ b) (σ.1 27) c i2))) (by omega) (by decide) dX10_takes_46 rfl ?_
            refine gg_topi (b := nI (rd σ 16 b)) ((ur_cell _ _ _ (by decide)).trans ((ur_cell _ _ _ (by decide)).trans ((uv_cell _ _ _ _ (by decide)).trans (hL.1)))) ?_
            refine n_icmp_gt (pc' := 50) (tgt := 74) hC dX10_takes_47 (by decide) rfl (by omega) (by omega) (fun c47 => ?_) (fun c47 => ?_)
            · skip
              refine g_iconst (pc' := 75) (v := nI 1) hC dX10_takes_74 rfl rfl ?_
              refine g_istore_n (pc' := 76) (lv' := [(3, .int (nI 1)), (0, .ref (g.2.1 15)), (1, .int (nI c)), (2, .int (nI b))]) hC dX10_takes_75 rfl rfl (by decide) rfl ?_
              have L76 : ∀ (fu : Nat) (i3 : Nat), (i3 ≤ rd σ 16 b) → (rd σ 16 b - i3) < fu → GG x g z0 5 0 0 (Qv x g z0 (FV (mtk σ c b))) (ur (ur (uv σ 24 c (nI (rd σ 16 b))) 26 (vcn (fun n => σ.1 18 (200 * b + n)) (σ.1 26) c i3)) 27 (hi (mh σ b) (σ.1 27) c (rd σ 16 b + 1))) 76 [(3, .int (nI (i3 + 1))), (0, .ref (g.2.1 15)), (1, .int (nI c)), (2, .int (nI b))] [] := by
                intro fu
                induction fu with
                | zero => intro i3 h3 hz; exact absurd hz (Nat.not_lt_zero _)
                | succ fu ih76 =>
                  intro i3 h3 hf
                  refine g_iload_n (pc' := 77) (j := 0) hC dX10_takes_76 rfl rfl rfl ?_
                  refine g_aload_n (pc' := 78) (j := 1) hC dX10_takes_77 rfl rfl rfl ?_
                  refine gf_X10_6 (pc' := 81) hC wF_X10_7 dX10_takes_78 rfl ?_
                  refine g_iload_n (pc' := 82) (j := 3) hC dX10_takes_81 rfl rfl rfl ?_
                  refine a_ld (pc' := 83) (k := 16) (i := b) hC (by decide) (ct_16 g (ur (ur (uv σ 24 c (nI (rd σ 16 b))) 26 (vcn (fun n => σ.1 18 (200 * b + n)) (σ.1 26) c i3)) 27 (hi (mh σ b) (σ.1 27) c (rd σ 16 b + 1)))) (by omega) (by decide) dX10_takes_82 rfl ?_
                  refine gg_topi (b := nI (rd σ 16 b)) ((ur_cell _ _ _ (by decide)).trans ((ur_cell _ _ _ (by decide)).trans ((uv_cell _ _ _ _ (by decide)).trans (hL.1)))) ?_
                  refine n_icmp_gt (pc' := 86) (tgt := 136) hC dX10_takes_83 (by decide) rfl (by omega) (by omega) (fun c83 => ?_) (fun c83 => ?_)
                  · skip
                    refine g_retv hC dX10_takes_136 ?_
                    show _ = mtk σ c b; rw [show i3 = rd σ 16 b by omega]; rfl
                  · skip
                    refine g_aload_n (pc' := 87) (j := 1) hC dX10_takes_86 rfl rfl rfl ?_
                    refine gf_X10_8 (pc' := 90) hC wF_X10_16 dX10_takes_87 rfl ?_
                    refine g_iload_n (pc' := 91) (j := 3) hC dX10_takes_90 rfl rfl rfl ?_
                    refine g_iload_n (pc' := 92) (j := 0) hC dX10_takes_91 rfl rfl rfl ?_
                    refine f_Si (pc' := 95) (st := [.ref (g.2.1 18)]) hC (m_at x.2.1 g z0 (ur (ur (uv σ 24 c (nI (rd σ 16 b))) 26 (vcn (fun n => σ.1 18 (200 * b + n)) (σ.1 26) c i3)) 27 (hi (mh σ b) (σ.1 27) c (rd σ 16 b + 1))) b ((i3 + 1)) (by omega)) k_X10_at wM_X10_86 (by decide) rfl rfl (Nat.le_of_ble_eq_true rfl) dX10_takes_92 rfl (Nat.zero_le _) (Nat.zero_le _) ?_
                    refine a_ld (pc' := 96) (k := 18) (i := 200 * b + (i3 + 1) - 1) hC (by decide) (ct_18 g (ur (ur (uv σ 24 c (nI (rd σ 16 b))) 26 (vcn (fun n => σ.1 18 (200 * b + n)) (σ.1 26) c i3)) 27 (hi (mh σ b) (σ.1 27) c (rd σ 16 b + 1)))) (by omega) (by decide) dX10_takes_95 rfl ?_
                    refine gg_topi (b := σ.1 18 (200 * b + (i3 + 1) - 1)) ((ur_cell _ _ _ (by decide)).trans ((ur_cell _ _ _ (by decide)).trans (uv_cell _ _ _ _ (by decide)))) ?_
                    refine g_istore (pc' := 98) (lv' := [(4, .int (σ.1 18 (200 * b + (i3 + 1) - 1))), (3, .int (nI (i3 + 1))), (0, .ref (g.2.1 15)), (1, .int (nI c)), (2, .int (nI b))]) hC dX10_takes_96 rfl (by decide) rfl ?_
                    refine g_iload (pc' := 100) (j := 0) hC dX10_takes_98 rfl rfl ?_
                    refine g_iconst (pc' := 101) (v := (-1)) hC dX10_takes_100 rfl rfl ?_
                    refine g_icmp_eq (pc' := 104) (tgt := 130) hC dX10_takes_101 (by decide) rfl (fun c101 => ?_) (fun c101 => ?_)
                    · skip
                      refine g_iinc (pc' := 133) (j := 1) (u := nI (i3 + 1 + 1)) (lv' := [(3, .int (nI (i3 + 1 + 1))), (4, .int (σ.1 18 (200 * b + (i3 + 1) - 1))), (0, .ref (g.2.1 15)), (1, .int (nI c)), (2, .int (nI b))]) hC dX10_takes_130 rfl rfl (nI_add (i3 + 1) 1) (by decide) rfl ?_
                      refine g_goto (tgt := 76) hC dX10_takes_133 (by decide) ?_
                      refine gg_st (σ' := (ur (ur (uv σ 24 c (nI (rd σ 16 b))) 26 (vcn (fun n => σ.1 18 (200 * b + n)) (σ.1 26) c (i3 + 1))) 27 (hi (mh σ b) (σ.1 27) c (rd σ 16 b + 1)))) (by first | exact vcn_step _ _ _ _ _ _ _ (by omega) hA.1 | exact congrArg (fun f => ur (ur _ 26 f) 27 _) (vcn_none (fun n => σ.1 18 (200 * b + n)) _ _ i3 c101).symm) ?_
                      refine gg_lv (lv' := [(3, .int (nI (i3 + 1 + 1))), (0, .ref (g.2.1 15)), (1, .int (nI c)), (2, .int (nI b))]) ?_ [0, 2, 3, 4] rfl
                      exact ih76 (i3 + 1) (by omega) (by omega)
                    · skip
                      have hA : nb σ 18 (200 * b + (i3 + 1) - 1) 5 := (hau _ (by omega)).resolve_left c101
                      have hA2 := hA.2
                      refine gg_lve (lv' := [(4, .int (nI (rd σ 18 (200 * b + (i3 + 1) - 1)))), (3, .int (nI (i3 + 1))), (0, .ref (g.2.1 15)), (1, .int (nI c)), (2, .int (nI b))]) (by rw [← hA.1]) ?_
                      refine g_aload_n (pc' := 105) (j := 2) hC dX10_takes_104 rfl rfl rfl ?_
                      refine gf_X10_16 (pc' := 108) hC wF_X10_40 dX10_takes_105 rfl ?_
                      refine g_bipush (pc' := 110) (v := nI 6) hC dX10_takes_108 rfl rfl ?_
                      refine g_iload_n (pc' := 111) (j := 3) hC dX10_takes_110 rfl rfl rfl ?_
                      refine n_imul (pc' := 112) hC dX10_takes_111 rfl ?_
                      refine g_iload (pc' := 114) (j := 0) hC dX10_takes_112 rfl rfl ?_
                      refine n_iadd (pc' := 115) hC dX10_takes_114 rfl ?_
                      refine g_aload_n (pc' := 116) (j := 2) hC dX10_takes_115 rfl rfl rfl ?_
                      refine gf_X10_16 (pc' := 119) hC wF_X10_40 dX10_takes_116 rfl ?_
                      refine g_bipush (pc' := 121) (v := nI 6) hC dX10_takes_119 rfl rfl ?_
                      refine g_iload_n (pc' := 122) (j := 3) hC dX10_takes_121 rfl rfl rfl ?_
                      refine n_imul (pc' := 123) hC dX10_takes_122 rfl ?_
                      refine g_iload (pc' := 125) (j := 0) hC dX10_takes_123 rfl rfl ?_
                      refine n_iadd (pc' := 126) hC dX10_takes_125 rfl ?_
                      refine a_ld (pc' := 127) (k := 26) (i := (6 * c) + (rd σ 18 (200 * b + (i3 + 1) - 1))) hC (by decide) (ct_26 g (ur (ur (uv σ 24 c (nI (rd σ 16 b))) 26 (vcn (fun n => σ.1 18 (200 * b + n)) (σ.1 26) c i3)) 27 (hi (mh σ b) (σ.1 27) c (rd σ 16 b + 1)))) (by omega) (by decide) dX10_takes_126 rfl ?_
                      refine gg_topi (b := (ur (uv σ 24 c (nI (rd σ 16 b))) 26 (vcn (fun n => σ.1 18 (200 * b + n)) (σ.1 26) c i3)).1 26 ((6 * c) + (rd σ 18 (200 * b + (i3 + 1) - 1)))) (ur_cell _ _ _ (by decide)) ?_
                      refine g_iconst (pc' := 128) (v := nI 1) hC dX10_takes_127 rfl rfl ?_
                      refine g_iadd (pc' := 129) hC dX10_takes_128 rfl ?_
                      refine a_st (pc' := 130) (k := 26) (i := (6 * c) + (rd σ 18 (200 * b + (i3 + 1) - 1))) hC (by decide) (fun σ9 => (ct_26 g σ9)) (by omega) (by decide) dX10_takes_129 rfl ?_
                      refine g_iinc (pc' := 133) (j := 1) (u := nI (i3 + 1 + 1)) (lv' := [(3, .int (nI (i3 + 1 + 1))), (4, .int (nI (rd σ 18 (200 * b + (i3 + 1) - 1)))), (0, .ref (g.2.1 15)), (1, .int (nI c)), (2, .int (nI b))]) hC dX10_takes_130 rfl rfl (nI_add (i3 + 1) 1) (by decide) rfl ?_
                      refine g_goto (tgt := 76) hC dX10_takes_133 (by decide) ?_
                      refine gg_st (σ' := (ur (ur (uv σ 24 c (nI (rd σ 16 b))) 26 (vcn (fun n => σ.1 18 (200 * b + n)) (σ.1 26) c (i3 + 1))) 27 (hi (mh σ b) (σ.1 27) c (rd σ 16 b + 1)))) (by first | exact vcn_step _ _ _ _ _ _ _ (by omega) hA.1 | exact congrArg (fun f => ur (ur _ 26 f) 27 _) (vcn_none (fun n => σ.1 18 (200 * b + n)) _ _ i3 c101).symm) ?_
                      refine gg_lv (lv' := [(3, .int (nI (i3 + 1 + 1))), (0, .ref (g.2.1 15)), (1, .int (nI c)), (2, .int (nI b))]) ?_ [0, 2, 3, 4] rfl
                      exact ih76 (i3 + 1) (by omega) (by omega)
              refine gg_st (σ' := (ur (ur (uv σ 24 c (nI (rd σ 16 b))) 26 (vcn (fun n => σ.1 18 (200 * b + n)) (σ.1 26) c 0)) 27 (hi (mh σ b) (σ.1 27) c (rd σ 16 b + 1)))) (by rw [show i2 = rd σ 16 b + 1 by omega]; rfl) ?_
              refine gg_lv (lv' := [(3, .int (nI 1)), (0, .ref (g.2.1 15)), (1, .int (nI c)), (2, .int (nI b))]) ?_ [0, 1, 2, 3] rfl
              exact L76 (rd σ 16 b - 0 + 1) 0 (by omega) (by omega)
            · skip
              refine g_aload_n (pc' := 51) (j := 1) hC dX10_takes_50 rfl rfl rfl ?_
              refine gf_X10_17 (pc' := 54) hC wF_X10_43 dX10_takes_51 rfl ?_
              refine g_sipush (pc' := 57) (v := nI 201) hC dX10_takes_54 rfl rfl ?_
              refine g_iload_n (pc' := 58) (j := 2) hC dX10_takes_57 rfl rfl rfl ?_
              refine n_imul (pc' := 59) hC dX10_takes_58 rfl ?_
              refine g_iload_n (pc' := 60) (j := 0) hC dX10_takes_59 rfl rfl rfl ?_
              refine n_iadd (pc' := 61) hC dX10_takes_60 rfl ?_
              refine g_aload_n (pc' := 62) (j := 1) hC dX10_takes_61 rfl rfl rfl ?_
              refine g_iload_n (pc' := 63) (j := 3) hC dX10_takes_62 rfl rfl rfl ?_
              refine g_iload_n (pc' := 64) (j := 0) hC dX10_takes_63 rfl rfl rfl ?_
              refine f_Vi (pc' := 67) (k := 15) (st := [.int (nI ((201 * c) + i2)), .ref (g.2.1 27)]) hC (m_hashOf x.2.1 g z0 (ur (ur (uv σ 24 c (nI (rd σ 16 b))) 26 (vz (σ.1 26) c 6)) 27 (hi (mh σ b) (σ.1 27) c i2)) b i2 (by omega) (by omega)) k_X10_hashOf wM_X10_95 (by decide) (by decide) (ct_15 g (ur (ur (uv σ 24 c (nI (rd σ 16 b))) 26 (vz (σ.1 26) c 6)) 27 (hi (mh σ b) (σ.1 27) c i2))) rfl rfl rfl rfl (Nat.le_of_ble_eq_true rfl) dX10_takes_64 rfl (Nat.zero_le _) (Nat.zero_le _) ?_
              refine gg_topi (b := mh σ b i2) (by simp (disch := decide) only [mh_uv, mh_ur, mcomp_uv, rd_uv, rd_ur, uv_cell, ur_cell, uv_idx, uv_fun, rd_idx, ne_eq, not_false_eq_true]) ?_
              refine a_st (pc' := 68) (k := 27) (i := (201 * c) + i2) hC (by decide) (fun σ9 => (ct_27 g σ9)) (by omega) (by decide) dX10_takes_67 rfl ?_
              refine g_iinc (pc' := 71) (j := 0) (u := nI (i2 + 1)) (lv' := [(3, .int (nI (i2 + 1))), (0, .ref (g.2.1 15)), (1, .int (nI c)), (2, .int (nI b))]) hC dX10_takes_68 rfl rfl (nI_add i2 1) (by decide) rfl ?_
              refine g_goto (tgt := 40) hC dX10_takes_71 (by decide) ?_
              refine gg_st (σ' := (ur (ur (uv σ 24 c (nI (rd σ 16 b))) 26 (vz (σ.1 26) c 6)) 27 (hi (mh σ b) (σ.1 27) c (i2 + 1)))) (hi_step _ _ _ _ _ _) ?_
              refine gg_lv (lv' := [(3, .int (nI (i2 + 1))), (0, .ref (g.2.1 15)), (1, .int (nI c)), (2, .int (nI b))]) ?_ [0, 1, 2, 3] rfl
              exact ih40 (i2 + 1) (by omega) (by omega)
        refine gg_st (σ' := (ur (ur (uv σ 24 c (nI (rd σ 16 b))) 26 (vz (σ.1 26) c 6)) 27 (hi (mh σ b) (σ.1 27) c 0))) (by rw [show i = 6 by omega]; exact (hi_0 _ _ _ _).symm) ?_
        refine gg_lv (lv' := [(3, .int (nI 0)), (0, .ref (g.2.1 15)), (1, .int (nI c)), (2, .int (nI b))]) ?_ [0, 1, 2, 3] rfl
        exact L40 (rd σ 16 b + 1 - 0 + 1) 0 (by omega) (by omega)
      · skip
        refine g_aload_n (pc' := 21) (j := 1) hC dX10_takes_20 rfl rfl rfl ?_
        refine gf_X10_16 (pc' := 24) hC wF_X10_40 dX10_takes_21 rfl ?_
        refine g_bipush (pc' := 26) (v := nI 6) hC dX10_takes_24 rfl rfl ?_
        refine g_iload_n (pc' := 27) (j := 2) hC dX10_takes_26 rfl rfl rfl ?_
        refine n_imul (pc' := 28) hC dX10_takes_27 rfl ?_
        refine g_iload_n (pc' := 29) (j := 0) hC dX10_takes_28 rfl rfl rfl ?_
        refine n_iadd (pc' := 30) hC dX10_takes_29 rfl ?_
        refine g_iconst (pc' := 31) (v := nI 0) hC dX10_takes_30 rfl rfl ?_
        refine a_st (pc' := 32) (k := 26) (i := (6 * c) + i) hC (by decide) (fun σ9 => (ct_26 g σ9)) (by omega) (by decide) dX10_takes_31 rfl ?_
        refine g_iinc (pc' := 35) (j := 0) (u := nI (i + 1)) (lv' := [(3, .int (nI (i + 1))), (0, .ref (g.2.1 15)), (1, .int (nI c)), (2, .int (nI b))]) hC dX10_takes_32 rfl rfl (nI_add i 1) (by decide) rfl ?_
        refine g_goto (tgt := 14) hC dX10_takes_35 (by decide) ?_
        refine gg_st (σ' := (ur (uv σ 24 c (nI (rd σ 16 b))) 26 (vz (σ.1 26) c (i + 1)))) (vz_step _ _ _ _ _) ?_
        refine gg_lv (lv' := [(3, .int (nI (i + 1))), (0, .ref (g.2.1 15)), (1, .int (nI c)), (2, .int (nI b))]) ?_ [0, 1, 2, 3] rfl
        exact ih14 (i + 1) (by omega) (by omega)
  refine gg_st (σ' := (ur (uv σ 24 c (nI (rd σ 16 b))) 26 (vz (σ.1 26) c 0))) ((vz_0 _ _ _).symm) ?_
  refine gg_lv (lv' := [(3, .int (nI 0)), (0, .ref (g.2.1 15)), (1, .int (nI c)), (2, .int (nI b))]) ?_ [0, 1, 2, 3] rfl
  exact L14 (6 - 0 + 1) 0 (by omega) (by omega)
set_option maxHeartbeats 4000000 in
set_option maxRecDepth 20000 in
theorem m_valueIn (l : Launch) (g : Lay) (z0 : Nat) (σ : St) (b : Nat) (w : Int32) (hb : b < 8) (hL : nb σ 16 b 200)  : CTi l yX10_valueIn cX10_valueIn 5 (some .int) 1 g z0 [.ref (g.2.1 15), .int (nI b), .int w] σ (FI (mval σ b w (rd σ 16 b)) σ) := by
  refine CTi.of (by decide) (Nat.le_of_ble_eq_true rfl) ?_
  intro x hxl hxa hC
  have hC : Cx x RX10 cX10_valueIn 5 (some .int) 1 g z0 := hC
  have hL2 := hL.2
  show GG x g z0 5 0 0 (Qi x g z0 (FI (mval σ b w (rd σ 16 b)) σ)) σ 0 [(0, .ref (g.2.1 15)), (1, .int (nI b)), (2, .int w)] []
  refine g_aload_n (pc' := 1) (j := 0) hC dX10_valueIn_0 rfl rfl rfl ?_
  refine gf_X10_6 (pc' := 4) hC wF_X10_7 dX10_valueIn_1 rfl ?_
  refine g_iload_n (pc' := 5) (j := 1) hC dX10_valueIn_4 rfl rfl rfl ?_
  refine a_ld (pc' := 6) (k := 16) (i := b) hC (by decide) (ct_16 g σ) (by omega) (by decide) dX10_valueIn_5 rfl ?_
  refine gg_topi (b := nI (rd σ 16 b)) (hL.1) ?_
  refine g_istore_n (pc' := 7) (lv' := [(3, .int (nI (rd σ 16 b))), (0, .ref (g.2.1 15)), (1, .int (nI b)), (2, .int w)]) hC dX10_valueIn_6 rfl rfl (by decide) rfl ?_
  have L7 : ∀ (fu : Nat) (i : Nat), (i ≤ 200) → (mval σ b w (rd σ 16 b) = mval σ b w i) → i < fu → GG x g z0 5 0 0 (Qi x g z0 (FI (mval σ b w (rd σ 16 b)) σ)) σ 7 [(3, .int (nI i)), (0, .ref (g.2.1 15)), (1, .int (nI b)), (2, .int w)] [] := by
    intro fu
    induction fu with
    | zero => intro i h1 h2 hz; exact absurd hz (Nat.not_lt_zero _)
    | succ fu ih7 =>
      intro i h1 h2 hf
      refine g_iload_n (pc' := 8) (j := 0) hC dX10_valueIn_7 rfl rfl rfl ?_
      refine n_if_le (pc' := 11) (tgt := 54) hC dX10_valueIn_8 (by decide) rfl (by omega) (fun c8 => ?_) (fun c8 => ?_)
      · skip
        refine g_iconst (pc' := 55) (v := nI 0) hC dX10_valueIn_54 rfl rfl ?_
        refine g_ret hC dX10_valueIn_55 rfl ?_
        exact ⟨by rw [h2, show i = 0 by omega]; rfl, rfl⟩
      · skip
        refine g_iload_n (pc' := 12) (j := 2) hC dX10_valueIn_11 rfl rfl rfl ?_
        refine g_iload_n (pc' := 13) (j := 0) hC dX10_valueIn_12 rfl rfl rfl ?_
        refine f_Si (pc' := 16) (st := []) hC (m_at x.2.1 g z0 σ b i (by omega)) k_X10_at wM_X10_86 (by decide) rfl rfl (Nat.le_of_ble_eq_true rfl) dX10_valueIn_13 rfl (Nat.zero_le _) (Nat.zero_le _) ?_
        refine g_istore (pc' := 18) (lv' := [(4, .int (nI (200 * b + i - 1))), (3, .int (nI i)), (0, .ref (g.2.1 15)), (1, .int (nI b)), (2, .int w)]) hC dX10_valueIn_16 rfl (by decide) rfl ?_
        refine g_aload_n (pc' := 19) (j := 2) hC dX10_valueIn_18 rfl rfl rfl ?_
        refine gf_X10_7 (pc' := 22) hC wF_X10_13 dX10_valueIn_19 rfl ?_
        refine g_iload (pc' := 24) (j := 0) hC dX10_valueIn_22 rfl rfl ?_
        refine a_ld (pc' := 25) (k := 17) (i := 200 * b + i - 1) hC (by decide) (ct_17 g σ) (by omega) (by decide) dX10_valueIn_24 rfl ?_
        refine g_iconst (pc' := 26) (v := nI 1) hC dX10_valueIn_25 rfl rfl ?_
        refine g_icmp_ne (pc' := 29) (tgt := 48) hC dX10_valueIn_26 (by decide) rfl (fun c26 => ?_) (fun c26 => ?_)
        · skip
          refine g_iinc (pc' := 51) (j := 1) (u := nI (i - 1)) (lv' := [(3, .int (nI (i - 1))), (4, .int (nI (200 * b + i - 1))), (0, .ref (g.2.1 15)), (1, .int (nI b)), (2, .int w)]) hC dX10_valueIn_48 rfl rfl (sb_m1 (by omega)) (by decide) rfl ?_
          refine g_goto (tgt := 7) hC dX10_valueIn_51 (by decide) ?_
          refine gg_lv (lv' := [(3, .int (nI (i - 1))), (0, .ref (g.2.1 15)), (1, .int (nI b)), (2, .int w)]) ?_ [0, 2, 3, 4] rfl
          exact ih7 (i - 1) (by omega) (h2.trans (mval_step _ _ _ _ (by omega) (by first | exact Or.inl (by assumption) | exact Or.inr (by assumption)))) (by omega)
        · skip
          refine g_aload_n (pc' := 30) (j := 2) hC dX10_valueIn_29 rfl rfl rfl ?_
          refine gf_X10_9 (pc' := 33) hC wF_X10_19 dX10_valueIn_30 rfl ?_
          refine g_iload (pc' := 35) (j := 0) hC dX10_valueIn_33 rfl rfl ?_
          refine a_ld (pc' := 36) (k := 19) (i := 200 * b + i - 1) hC (by decide) (ct_19 g σ) (by omega) (by decide) dX10_valueIn_35 rfl ?_
          refine g_iload_n (pc' := 37) (j := 4) hC dX10_valueIn_36 rfl rfl rfl ?_
          refine g_icmp_ne (pc' := 40) (tgt := 48) hC dX10_valueIn_37 (by decide) rfl (fun c37 => ?_) (fun c37 => ?_)
          · skip
            refine g_iinc (pc' := 51) (j := 1) (u := nI (i - 1)) (lv' := [(3, .int (nI (i - 1))), (4, .int (nI (200 * b + i - 1))), (0, .ref (g.2.1 15)), (1, .int (nI b)), (2, .int w)]) hC dX10_valueIn_48 rfl rfl (sb_m1 (by omega)) (by decide) rfl ?_
            refine g_goto (tgt := 7) hC dX10_valueIn_51 (by decide) ?_
            refine gg_lv (lv' := [(3, .int (nI (i - 1))), (0, .ref (g.2.1 15)), (1, .int (nI b)), (2, .int w)]) ?_ [0, 2, 3, 4] rfl
            exact ih7 (i - 1) (by omega) (h2.trans (mval_step _ _ _ _ (by omega) (by first | exact Or.inl (by assumption) | exact Or.inr (by assumption)))) (by omega)
          · skip
            refine g_aload_n (pc' := 41) (j := 2) hC dX10_valueIn_40 rfl rfl rfl ?_
            refine gf_X10_10 (pc' := 44) hC wF_X10_22 dX10_valueIn_41 rfl ?_
            refine g_iload (pc' := 46) (j := 0) hC dX10_valueIn_44 rfl rfl ?_
            refine a_ld (pc' := 47) (k := 20) (i := 200 * b + i - 1) hC (by decide) (ct_20 g σ) (by omega) (by decide) dX10_valueIn_46 rfl ?_
            refine g_ret hC dX10_valueIn_47 rfl ?_
            exact ⟨by rw [h2]; exact (mval_hit _ _ _ _ (by omega) (by assumption) (by assumption)).symm, rfl⟩
  refine gg_lv (lv' := [(3, .int (nI (rd σ 16 b))), (0, .ref (g.2.1 15)), (1, .int (nI b)), (2, .int w)]) ?_ [0, 1, 2, 3] rfl
  exact L7 (rd σ 16 b + 1) (rd σ 16 b) (by omega) (rfl) (by omega)
