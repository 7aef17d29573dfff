set_option maxHeartbeats 4000000 in
set_option maxRecDepth 20000 in
theorem c_isBlank (l : Launch) (g : Lay) (z0 : Nat) (σ : St) (c : Int32)   : CTi l yX8_isBlank cX8_isBlank 1 (some .boolean) 0 g z0 [.int c] σ (FI (bI (blk c)) σ) := by
  refine CTi.of (by decide) (Nat.le_of_ble_eq_true rfl) ?_
  intro x hxl hxa hC
  have hC : Cx x RX8 cX8_isBlank 1 (some .boolean) 0 g z0 := hC
  show GG x g z0 1 0 0 (Qi x g z0 (FI (bI (blk c)) σ)) σ 0 [(0, .int c)] []
  refine g_iload_n (pc' := 1) (j := 0) hC dX8_isBlank_0 rfl rfl rfl ?_
  refine g_bipush (pc' := 3) (v := nI 32) hC dX8_isBlank_1 rfl rfl ?_
  refine g_icmp_eq (pc' := 6) (tgt := 12) hC dX8_isBlank_3 (by decide) rfl (fun c3 => ?_) (fun c3 => ?_)
  · skip
    refine g_iconst (pc' := 13) (v := nI 1) hC dX8_isBlank_12 rfl rfl ?_
    refine g_goto (tgt := 17) hC dX8_isBlank_13 (by decide) ?_
    refine g_ret hC dX8_isBlank_17 rfl ?_
    exact ⟨(bI_t (show blk c from Or.inl c3)).symm, rfl⟩
  · skip
    refine g_iload_n (pc' := 7) (j := 0) hC dX8_isBlank_6 rfl rfl rfl ?_
    refine g_bipush (pc' := 9) (v := nI 10) hC dX8_isBlank_7 rfl rfl ?_
    refine g_icmp_ne (pc' := 12) (tgt := 16) hC dX8_isBlank_9 (by decide) rfl (fun c9 => ?_) (fun c9 => ?_)
    · skip
      refine g_iconst (pc' := 17) (v := nI 0) hC dX8_isBlank_16 rfl rfl ?_
      refine g_ret hC dX8_isBlank_17 rfl ?_
      exact ⟨(bI_f (show ¬ blk c from fun z => z.elim c3 c9)).symm, rfl⟩
    · skip
      refine g_iconst (pc' := 13) (v := nI 1) hC dX8_isBlank_12 rfl rfl ?_
      refine g_goto (tgt := 17) hC dX8_isBlank_13 (by decide) ?_
      refine g_ret hC dX8_isBlank_17 rfl ?_
      exact ⟨(bI_t (show blk c from Or.inr c9)).symm, rfl⟩
set_option maxHeartbeats 4000000 in
set_option maxRecDepth 20000 in
theorem c_isLetter (l : Launch) (g : Lay) (z0 : Nat) (σ : St) (c : Int32)   : CTi l yX8_isLetter cX8_isLetter 1 (some .boolean) 0 g z0 [.int c] σ (FI (bI (ltr c)) σ) := by
  refine CTi.of (by decide) (Nat.le_of_ble_eq_true rfl) ?_
  intro x hxl hxa hC
  have hC : Cx x RX8 cX8_isLetter 1 (some .boolean) 0 g z0 := hC
  show GG x g z0 1 0 0 (Qi x g z0 (FI (bI (ltr c)) σ)) σ 0 [(0, .int c)] []
  refine g_iload_n (pc' := 1) (j := 0) hC dX8_isLetter_0 rfl rfl rfl ?_
  refine g_bipush (pc' := 3) (v := nI 97) hC dX8_isLetter_1 rfl rfl ?_
  refine g_icmp_lt (pc' := 6) (tgt := 16) hC dX8_isLetter_3 (by decide) rfl (fun c3 => ?_) (fun c3 => ?_)
  · skip
    refine g_iconst (pc' := 17) (v := nI 0) hC dX8_isLetter_16 rfl rfl ?_
    refine g_ret hC dX8_isLetter_17 rfl ?_
    exact ⟨(bI_f (show ¬ ltr c from fun z => absurd c3 (Int32.not_lt.mpr z.1))).symm, rfl⟩
  · skip
    refine g_iload_n (pc' := 7) (j := 0) hC dX8_isLetter_6 rfl rfl rfl ?_
    refine g_bipush (pc' := 9) (v := nI 122) hC dX8_isLetter_7 rfl rfl ?_
    refine g_icmp_gt (pc' := 12) (tgt := 16) hC dX8_isLetter_9 (by decide) rfl (fun c9 => ?_) (fun c9 => ?_)
    · skip
      refine g_iconst (pc' := 17) (v := nI 0) hC dX8_isLetter_16 rfl rfl ?_
      refine g_ret hC dX8_isLetter_17 rfl ?_
      exact ⟨(bI_f (show ¬ ltr c from fun z => absurd c9 (Int32.not_lt.mpr z.2))).symm, rfl⟩
    · skip
      refine g_iconst (pc' := 13) (v := nI 1) hC dX8_isLetter_12 rfl rfl ?_
      refine g_goto (tgt := 17) hC dX8_isLetter_13 (by decide) ?_
      refine g_ret hC dX8_isLetter_17 rfl ?_
      exact ⟨(bI_t (show ltr c from ⟨Int32.not_lt.mp c3, Int32.not_lt.mp c9⟩)).symm, rfl⟩
set_option maxHeartbeats 4000000 in
set_option maxRecDepth 20000 in
theorem c_isDigit (l : Launch) (g : Lay) (z0 : Nat) (σ : St) (c : Int32)   : CTi l yX8_isDigit cX8_isDigit 1 (some .boolean) 0 g z0 [.int c] σ (FI (bI (dgt c)) σ) := by
  refine CTi.of (by decide) (Nat.le_of_ble_eq_true rfl) ?_
  intro x hxl hxa hC
  have hC : Cx x RX8 cX8_isDigit 1 (some .boolean) 0 g z0 := hC
  show GG x g z0 1 0 0 (Qi x g z0 (FI (bI (dgt c)) σ)) σ 0 [(0, .int c)] []
  refine g_iload_n (pc' := 1) (j := 0) hC dX8_isDigit_0 rfl rfl rfl ?_
  refine g_bipush (pc' := 3) (v := nI 48) hC dX8_isDigit_1 rfl rfl ?_
  refine g_icmp_lt (pc' := 6) (tgt := 16) hC dX8_isDigit_3 (by decide) rfl (fun c3 => ?_) (fun c3 => ?_)
  · skip
    refine g_iconst (pc' := 17) (v := nI 0) hC dX8_isDigit_16 rfl rfl ?_
    refine g_ret hC dX8_isDigit_17 rfl ?_
    exact ⟨(bI_f (show ¬ dgt c from fun z => absurd c3 (Int32.not_lt.mpr z.1))).symm, rfl⟩
  · skip
    refine g_iload_n (pc' := 7) (j := 0) hC dX8_isDigit_6 rfl rfl rfl ?_
    refine g_bipush (pc' := 9) (v := nI 57) hC dX8_isDigit_7 rfl rfl ?_
    refine g_icmp_gt (pc' := 12) (tgt := 16) hC dX8_isDigit_9 (by decide) rfl (fun c9 => ?_) (fun c9 => ?_)
    · skip
      refine g_iconst (pc' := 17) (v := nI 0) hC dX8_isDigit_16 rfl rfl ?_
      refine g_ret hC dX8_isDigit_17 rfl ?_
      exact ⟨(bI_f (show ¬ dgt c from fun z => absurd c9 (Int32.not_lt.mpr z.2))).symm, rfl⟩
    · skip
      refine g_iconst (pc' := 13) (v := nI 1) hC dX8_isDigit_12 rfl rfl ?_
      refine g_goto (tgt := 17) hC dX8_isDigit_13 (by decide) ?_
      refine g_ret hC dX8_isDigit_17 rfl ?_
      exact ⟨(bI_t (show dgt c from ⟨Int32.not_lt.mp c3, Int32.not_lt.mp c9⟩)).symm, rfl⟩
set_option maxHeartbeats 4000000 in
set_option maxRecDepth 20000 in
theorem c_endOfRun (l : Launch) (g : Lay) (z0 : Nat) (σ : St) (s : Nat) (e : Nat) (hse : s ≤ e) (he : e ≤ 900)  : CTi l yX8_endOfRun cX8_endOfRun 4 (some .int) 1 g z0 [.ref (g.2.1 2), .int (nI s), .int (nI e)] σ (FI (nI (eor (σ.1 3) s e)) σ) := by
  refine CTi.of (by decide) (Nat.le_of_ble_eq_true rfl) ?_
  intro x hxl hxa hC
  have hC : Cx x RX8 cX8_endOfRun 4 (some .int) 1 g z0 := hC
  show GG x g z0 4 0 0 (Qi x g z0 (FI (nI (eor (σ.1 3) s e)) σ)) σ 0 [(0, .ref (g.2.1 2)), (1, .int (nI s)), (2, .int (nI e))] []
  refine g_iload_n (pc' := 1) (j := 1) hC dX8_endOfRun_0 rfl rfl rfl ?_
  refine g_istore_n (pc' := 2) (lv' := [(3, .int (nI s)), (0, .ref (g.2.1 2)), (1, .int (nI s)), (2, .int (nI e))]) hC dX8_endOfRun_1 rfl rfl (by decide) rfl ?_
  have L2 : ∀ (fu : Nat) (a : Nat), (s ≤ a) → (a ≤ e) → (∀ j, s ≤ j → j < a → j < e ∧ ltr (σ.1 3 j)) → (e - a) < fu → GG x g z0 4 0 0 (Qi x g z0 (FI (nI (eor (σ.1 3) s e)) σ)) σ 2 [(3, .int (nI a)), (0, .ref (g.2.1 2)), (1, .int (nI s)), (2, .int (nI e))] [] := by
    intro fu
    induction fu with
    | zero => intro a h1 h2 h3 hz; exact absurd hz (Nat.not_lt_zero _)
    | succ fu ih2 =>
      intro a h1 h2 h3 hf
      refine g_iload_n (pc' := 3) (j := 0) hC dX8_endOfRun_2 rfl rfl rfl ?_
      refine g_iload_n (pc' := 4) (j := 3) hC dX8_endOfRun_3 rfl rfl rfl ?_
      refine n_icmp_ge (pc' := 7) (tgt := 25) hC dX8_endOfRun_4 (by decide) rfl (by omega) (by omega) (fun c4 => ?_) (fun c4 => ?_)
      · skip
        have hE : rne ltr (σ.1 3) s e = a := rne_eq h1 (Or.inl c4) h3
        refine g_iload_n (pc' := 26) (j := 0) hC dX8_endOfRun_25 rfl rfl rfl ?_
        refine g_iload_n (pc' := 27) (j := 2) hC dX8_endOfRun_26 rfl rfl rfl ?_
        refine n_icmp_le (pc' := 30) (tgt := 32) hC dX8_endOfRun_27 (by decide) rfl (by omega) (by omega) (fun c27 => ?_) (fun c27 => ?_)
        · skip
          have hsa : a = s := by omega
          have L32 : ∀ (fu : Nat) (a : Nat), (s ≤ a) → (a ≤ e) → (∀ j, s ≤ j → j < a → j < e ∧ dgt (σ.1 3 j)) → (e - a) < fu → GG x g z0 4 0 0 (Qi x g z0 (FI (nI (eor (σ.1 3) s e)) σ)) σ 32 [(3, .int (nI a)), (0, .ref (g.2.1 2)), (1, .int (nI s)), (2, .int (nI e))] [] := by
            intro fu
            induction fu with
            | zero => intro a h1 h2 h3 hz; exact absurd hz (Nat.not_lt_zero _)
            | succ fu ih32 =>
              intro a h1 h2 h3 hf
              refine g_iload_n (pc' := 33) (j := 0) hC dX8_endOfRun_32 rfl rfl rfl ?_
              refine g_iload_n (pc' := 34) (j := 3) hC dX8_endOfRun_33 rfl rfl rfl ?_
              refine n_icmp_ge (pc' := 37) (tgt := 55) hC dX8_endOfRun_34 (by decide) rfl (by omega) (by omega) (fun c34 => ?_) (fun c34 => ?_)
              · skip
                have hD : rne dgt (σ.1 3) s e = a := rne_eq h1 (Or.inl c34) h3
                refine g_iload_n (pc' := 56) (j := 0) hC dX8_endOfRun_55 rfl rfl rfl ?_
                refine g_ret hC dX8_endOfRun_56 rfl ?_
                exact ⟨by unfold eor; rw [cI_f (by omega), hD], rfl⟩
              · skip
                refine g_aload_n (pc' := 38) (j := 1) hC dX8_endOfRun_37 rfl rfl rfl ?_
                refine gf_X8_0 (pc' := 41) hC wF_X8_9 dX8_endOfRun_38 rfl ?_
                refine g_iload_n (pc' := 42) (j := 0) hC dX8_endOfRun_41 rfl rfl rfl ?_
                refine a_ldb (pc' := 43) (k := 3) (i := a) hC (by decide) (ct_3 g σ) (by omega) (by decide) dX8_endOfRun_42 rfl ?_
                refine f_Si (pc' := 46) (st := []) hC (c_isDigit x.2.1 g z0 σ ((σ.1 3 a))) k_X8_isDigit wM_X8_51 (by decide) rfl rfl (Nat.le_of_ble_eq_true rfl) dX8_endOfRun_43 rfl (Nat.zero_le _) (Nat.zero_le _) ?_
                refine b_if_eq (pc' := 49) (tgt := 55) hC dX8_endOfRun_46 (by decide) rfl (fun c46 => ?_) (fun c46 => ?_)
                · skip
                  have hD : rne dgt (σ.1 3) s e = a := rne_eq h1 (Or.inr c46) h3
                  refine g_iload_n (pc' := 56) (j := 0) hC dX8_endOfRun_55 rfl rfl rfl ?_
                  refine g_ret hC dX8_endOfRun_56 rfl ?_
                  exact ⟨by unfold eor; rw [cI_f (by omega), hD], rfl⟩
                · skip
                  refine g_iinc (pc' := 52) (j := 0) (u := nI (a + 1)) (lv' := [(3, .int (nI (a + 1))), (0, .ref (g.2.1 2)), (1, .int (nI s)), (2, .int (nI e))]) hC dX8_endOfRun_49 rfl rfl (nI_add a 1) (by decide) rfl ?_
                  refine g_goto (tgt := 32) hC dX8_endOfRun_52 (by decide) ?_
                  refine gg_lv (lv' := [(3, .int (nI (a + 1))), (0, .ref (g.2.1 2)), (1, .int (nI s)), (2, .int (nI e))]) ?_ [0, 1, 2, 3] rfl
                  exact ih32 ((a + 1)) (by omega) (by omega) (by intro j hj hl; rcases Nat.lt_or_ge j a with q | q; exact h3 j hj q; exact (show j = a by omega) ▸ ⟨by omega, c46⟩) (by omega)
          refine gg_lv (lv' := [(3, .int (nI a)), (0, .ref (g.2.1 2)), (1, .int (nI s)), (2, .int (nI e))]) ?_ [0, 1, 2, 3] rfl
          exact L32 (e - a + 1) a (by omega) (by omega) (by intro j hj hl; omega) (by omega)
        · skip
          refine g_iload_n (pc' := 31) (j := 0) hC dX8_endOfRun_30 rfl rfl rfl ?_
          refine g_ret hC dX8_endOfRun_31 rfl ?_
          exact ⟨by unfold eor; rw [cI_t (by omega), hE], rfl⟩
      · skip
        refine g_aload_n (pc' := 8) (j := 1) hC dX8_endOfRun_7 rfl rfl rfl ?_
        refine gf_X8_0 (pc' := 11) hC wF_X8_9 dX8_endOfRun_8 rfl ?_
        refine g_iload_n (pc' := 12) (j := 0) hC dX8_endOfRun_11 rfl rfl rfl ?_
        refine a_ldb (pc' := 13) (k := 3) (i := a) hC (by decide) (ct_3 g σ) (by omega) (by decide) dX8_endOfRun_12 rfl ?_
        refine f_Si (pc' := 16) (st := []) hC (c_isLetter x.2.1 g z0 σ ((σ.1 3 a))) k_X8_isLetter wM_X8_48 (by decide) rfl rfl (Nat.le_of_ble_eq_true rfl) dX8_endOfRun_13 rfl (Nat.zero_le _) (Nat.zero_le _) ?_
        refine b_if_eq (pc' := 19) (tgt := 25) hC dX8_endOfRun_16 (by decide) rfl (fun c16 => ?_) (fun c16 => ?_)
        · skip
          have hE : rne ltr (σ.1 3) s e = a := rne_eq h1 (Or.inr c16) h3
          refine g_iload_n (pc' := 26) (j := 0) hC dX8_endOfRun_25 rfl rfl rfl ?_
          refine g_iload_n (pc' := 27) (j := 2) hC dX8_endOfRun_26 rfl rfl rfl ?_
          refine n_icmp_le (pc' := 30) (tgt := 32) hC dX8_endOfRun_27 (by decide) rfl (by omega) (by omega) (fun c27 => ?_) (fun c27 => ?_)
          · skip
            have hsa : a = s := by omega
            have L32 : ∀ (fu : Nat) (a : Nat), (s ≤ a) → (a ≤ e) → (∀ j, s ≤ j → j < a → j < e ∧ dgt (σ.1 3 j)) → (e - a) < fu → GG x g z0 4 0 0 (Qi x g z0 (FI (nI (eor (σ.1 3) s e)) σ)) σ 32 [(3, .int (nI a)), (0, .ref (g.2.1 2)), (1, .int (nI s)), (2, .int (nI e))] [] := by
              intro fu
              induction fu with
              | zero => intro a h1 h2 h3 hz; exact absurd hz (Nat.not_lt_zero _)
              | succ fu ih32 =>
                intro a h1 h2 h3 hf
                refine g_iload_n (pc' := 33) (j := 0) hC dX8_endOfRun_32 rfl rfl rfl ?_
                refine g_iload_n (pc' := 34) (j := 3) hC dX8_endOfRun_33 rfl rfl rfl ?_
                refine n_icmp_ge (pc' := 37) (tgt := 55) hC dX8_endOfRun_34 (by decide) rfl (by omega) (by omega) (fun c34 => ?_) (fun c34 => ?_)
                · skip
                  have hD : rne dgt (σ.1 3) s e = a := rne_eq h1 (Or.inl c34) h3
                  refine g_iload_n (pc' := 56) (j := 0) hC dX8_endOfRun_55 rfl rfl rfl ?_
                  refine g_ret hC dX8_endOfRun_56 rfl ?_
                  exact ⟨by unfold eor; rw [cI_f (by omega), hD], rfl⟩
                · skip
                  refine g_aload_n (pc' := 38) (j := 1) hC dX8_endOfRun_37 rfl rfl rfl ?_
                  refine gf_X8_0 (pc' := 41) hC wF_X8_9 dX8_endOfRun_38 rfl ?_
                  refine g_iload_n (pc' := 42) (j := 0) hC dX8_endOfRun_41 rfl rfl rfl ?_
                  refine a_ldb (pc' := 43) (k := 3) (i := a) hC (by decide) (ct_3 g σ) (by omega) (by decide) dX8_endOfRun_42 rfl ?_
                  refine f_Si (pc' := 46) (st := []) hC (c_isDigit x.2.1 g z0 σ ((σ.1 3 a))) k_X8_isDigit wM_X8_51 (by decide) rfl rfl (Nat.le_of_ble_eq_true rfl) dX8_endOfRun_43 rfl (Nat.zero_le _) (Nat.zero_le _) ?_
                  refine b_if_eq (pc' := 49) (tgt := 55) hC dX8_endOfRun_46 (by decide) rfl (fun c46 => ?_) (fun c46 => ?_)
                  · skip
                    have hD : rne dgt (σ.1 3) s e = a := rne_eq h1 (Or.inr c46) h3
                    refine g_iload_n (pc' := 56) (j := 0) hC dX8_endOfRun_55 rfl rfl rfl ?_
                    refine g_ret hC dX8_endOfRun_56 rfl ?_
                    exact ⟨by unfold eor; rw [cI_f (by omega), hD], rfl⟩
                  · skip
                    refine g_iinc (pc' := 52) (j := 0) (u := nI (a + 1)) (lv' := [(3, .int (nI (a + 1))), (0, .ref (g.2.1 2)), (1, .int (nI s)), (2, .int (nI e))]) hC dX8_endOfRun_49 rfl rfl (nI_add a 1) (by decide) rfl ?_
                    refine g_goto (tgt := 32) hC dX8_endOfRun_52 (by decide) ?_
                    refine gg_lv (lv' := [(3, .int (nI (a + 1))), (0, .ref (g.2.1 2)), (1, .int (nI s)), (2, .int (nI e))]) ?_ [0, 1, 2, 3] rfl
                    exact ih32 ((a + 1)) (by omega) (by omega) (by intro j hj hl; rcases Nat.lt_or_ge j a with q | q; exact h3 j hj q; exact (show j = a by omega) ▸ ⟨by omega, c46⟩) (by omega)
            refine gg_lv (lv' := [(3, .int (nI a)), (0, .ref (g.2.1 2)), (1, .int (nI s)), (2, .int (nI e))]) ?_ [0, 1, 2, 3] rfl
            exact L32 (e - a + 1) a (by omega) (by omega) (by intro j hj hl; omega) (by omega)
          · skip
            refine g_iload_n (pc' := 31) (j := 0) hC dX8_endOfRun_30 rfl rfl rfl ?_
            refine g_ret hC dX8_endOfRun_31 rfl ?_
            exact ⟨by unfold eor; rw [cI_t (by omega), hE], rfl⟩
        · skip
          refine g_iinc (pc' := 22) (j := 0) (u := nI (a + 1)) (lv' := [(3, .int (nI (a + 1))), (0, .ref (g.2.1 2)), (1, .int (nI s)), (2, .int (nI e))]) hC dX8_endOfRun_19 rfl rfl (nI_add a 1) (by decide) rfl ?_
          refine g_goto (tgt := 2) hC dX8_endOfRun_22 (by decide) ?_
          refine gg_lv (lv' := [(3, .int (nI (a + 1))), (0, .ref (g.2.1 2)), (1, .int (nI s)), (2, .int (nI e))]) ?_ [0, 1, 2, 3] rfl
          exact ih2 ((a + 1)) (by omega) (by omega) (by intro j hj hl; rcases Nat.lt_or_ge j a with q | q; exact h3 j hj q; exact (show j = a by omega) ▸ ⟨by omega, c16⟩) (by omega)
  refine gg_lv (lv' := [(3, .int (nI s)), (0, .ref (g.2.1 2)), (1, .int (nI s)), (2, .int (nI e))]) ?_ [0, 1, 2, 3] rfl
  exact L2 (e - s + 1) s (by omega) (by omega) (by intro j hj hl; omega) (by omega)
set_option maxHeartbeats 4000000 in
set_option maxRecDepth 20000 in
theorem c_numberAt (l : Launch) (g : Lay) (z0 : Nat) (σ : St) (s : Nat) (e : Nat) (hse : s ≤ e) (he : e ≤ 900)  : CTi l yX8_numberAt cX8_numberAt 5 (some .int) 0 g z0 [.ref (g.2.1 2), .int (nI s), .int (nI e)] σ (FI (nmv (σ.1 3) s (e - s)) σ) := by
  refine CTi.of (by decide) (Nat.le_of_ble_eq_true rfl) ?_
  intro x hxl hxa hC
  have hC : Cx x RX8 cX8_numberAt 5 (some .int) 0 g z0 := hC
  show GG x g z0 5 0 0 (Qi x g z0 (FI (nmv (σ.1 3) s (e - s)) σ)) σ 0 [(0, .ref (g.2.1 2)), (1, .int (nI s)), (2, .int (nI e))] []
  refine g_iconst (pc' := 1) (v := nI 0) hC dX8_numberAt_0 rfl rfl ?_
  refine g_istore_n (pc' := 2) (lv' := [(3, .int (nI 0)), (0, .ref (g.2.1 2)), (1, .int (nI s)), (2, .int (nI e))]) hC dX8_numberAt_1 rfl rfl (by decide) rfl ?_
  refine g_iload_n (pc' := 3) (j := 2) hC dX8_numberAt_2 rfl rfl rfl ?_
  refine g_istore (pc' := 5) (lv' := [(4, .int (nI s)), (3, .int (nI 0)), (0, .ref (g.2.1 2)), (1, .int (nI s)), (2, .int (nI e))]) hC dX8_numberAt_3 rfl (by decide) rfl ?_
  have L5 : ∀ (fu : Nat) (i : Nat), (s + i ≤ e) → (e - s - i) < fu → GG x g z0 5 0 0 (Qi x g z0 (FI (nmv (σ.1 3) s (e - s)) σ)) σ 5 [(4, .int (nI (s + i))), (3, .int (nmv (σ.1 3) s i)), (0, .ref (g.2.1 2)), (1, .int (nI s)), (2, .int (nI e))] [] := by
    intro fu
    induction fu with
    | zero => intro i hi hz; exact absurd hz (Nat.not_lt_zero _)
    | succ fu ih5 =>
      intro i hi hf
      refine g_iload (pc' := 7) (j := 0) hC dX8_numberAt_5 rfl rfl ?_
      refine g_iload_n (pc' := 8) (j := 4) hC dX8_numberAt_7 rfl rfl rfl ?_
      refine n_icmp_ge (pc' := 11) (tgt := 33) hC dX8_numberAt_8 (by decide) rfl (by omega) (by omega) (fun c8 => ?_) (fun c8 => ?_)
      · skip
        refine g_iload_n (pc' := 34) (j := 1) hC dX8_numberAt_33 rfl rfl rfl ?_
        refine g_ret hC dX8_numberAt_34 rfl ?_
        exact ⟨by rw [show e - s = i by omega], rfl⟩
      · skip
        refine g_iload_n (pc' := 12) (j := 1) hC dX8_numberAt_11 rfl rfl rfl ?_
        refine g_bipush (pc' := 14) (v := nI 10) hC dX8_numberAt_12 rfl rfl ?_
        refine g_imul (pc' := 15) hC dX8_numberAt_14 rfl ?_
        refine g_aload_n (pc' := 16) (j := 2) hC dX8_numberAt_15 rfl rfl rfl ?_
        refine gf_X8_0 (pc' := 19) hC wF_X8_9 dX8_numberAt_16 rfl ?_
        refine g_iload (pc' := 21) (j := 0) hC dX8_numberAt_19 rfl rfl ?_
        refine a_ldb (pc' := 22) (k := 3) (i := s + i) hC (by decide) (ct_3 g σ) (by omega) (by decide) dX8_numberAt_21 rfl ?_
        refine g_bipush (pc' := 24) (v := nI 48) hC dX8_numberAt_22 rfl rfl ?_
        refine g_isub (pc' := 25) hC dX8_numberAt_24 rfl ?_
        refine g_iadd (pc' := 26) hC dX8_numberAt_25 rfl ?_
        refine g_istore_n (pc' := 27) (lv' := [(3, .int (((nmv (σ.1 3) s i) * (nI 10)) + ((σ.1 3 (s + i)) - (nI 48)))), (4, .int (nI (s + i))), (0, .ref (g.2.1 2)), (1, .int (nI s)), (2, .int (nI e))]) hC dX8_numberAt_26 rfl rfl (by decide) rfl ?_
        refine g_iinc (pc' := 30) (j := 1) (u := nI (s + i + 1)) (lv' := [(4, .int (nI (s + i + 1))), (3, .int (((nmv (σ.1 3) s i) * (nI 10)) + ((σ.1 3 (s + i)) - (nI 48)))), (0, .ref (g.2.1 2)), (1, .int (nI s)), (2, .int (nI e))]) hC dX8_numberAt_27 rfl rfl (nI_add (s + i) 1) (by decide) rfl ?_
        refine g_goto (tgt := 5) hC dX8_numberAt_30 (by decide) ?_
        refine gg_lv (lv' := [(4, .int (nI (s + i + 1))), (3, .int (((nmv (σ.1 3) s i) * (nI 10)) + ((σ.1 3 (s + i)) - (nI 48)))), (0, .ref (g.2.1 2)), (1, .int (nI s)), (2, .int (nI e))]) ?_ [0, 1, 2, 3, 4] rfl
        refine gg_lve (lv' := [(4, .int (nI (s + (i + 1)))), (3, .int (nmv (σ.1 3) s ((i + 1)))), (0, .ref (g.2.1 2)), (1, .int (nI s)), (2, .int (nI e))]) (rfl) ?_
        exact ih5 ((i + 1)) (by omega) (by omega)
  refine gg_lv (lv' := [(4, .int (nI s)), (3, .int (nI 0)), (0, .ref (g.2.1 2)), (1, .int (nI s)), (2, .int (nI e))]) ?_ [0, 1, 2, 3, 4] rfl
  refine gg_lve (lv' := [(4, .int (nI (s + 0))), (3, .int (nmv (σ.1 3) s 0)), (0, .ref (g.2.1 2)), (1, .int (nI s)), (2, .int (nI e))]) (rfl) ?_
  exact L5 (e - s - 0 + 1) 0 (by omega) (by omega)
set_option maxHeartbeats 4000000 in
set_option maxRecDepth 20000 in
theorem c_isSpelled (l : Launch) (g : Lay) (z0 : Nat) {KA : KAd} (σ : St) (w : Nat) (s : Nat) (e : Nat) (hK : GK g z0 KA) (hw : w < 22) (hse : s ≤ e) (he : e ≤ 900)  : CTi l yX8_isSpelled cX8_isSpelled 5 (some .boolean) 4 g z0 [.ref (g.2.1 2), .ref (KA.1 w), .int (nI s), .int (nI e)] σ (FI (bI (spl (σ.1 3) w s e)) σ) := by
  refine CTi.of (by decide) (Nat.le_of_ble_eq_true rfl) ?_
  intro x hxl hxa hC
  have hC : Cx x RX8 cX8_isSpelled 5 (some .boolean) 4 g z0 := hC
  have hL8 := k_len hw
  show GG x g z0 5 0 0 (Qi x g z0 (FI (bI (spl (σ.1 3) w s e)) σ)) σ 0 [(0, .ref (g.2.1 2)), (1, .ref (KA.1 w)), (2, .int (nI s)), (3, .int (nI e))] []
  refine g_aload_n (pc' := 1) (j := 1) hC dX8_isSpelled_0 rfl rfl rfl ?_
  refine f_Ki (pc' := 4) (i := w) (st := []) hC hK (by omega : w < 22) (j_length x.2.1 g z0 σ w (hK) (by omega)) k_J0_length_8abf5 rfl wM_X8_83 (by decide) rfl rfl (Nat.le_of_ble_eq_true rfl) dX8_isSpelled_1 rfl (Nat.zero_le _) (Nat.zero_le _) ?_
  refine g_iload_n (pc' := 5) (j := 3) hC dX8_isSpelled_4 rfl rfl rfl ?_
  refine g_iload_n (pc' := 6) (j := 2) hC dX8_isSpelled_5 rfl rfl rfl ?_
  refine n_isub (pc' := 7) hC dX8_isSpelled_6 rfl (by omega) ?_
  refine n_icmp_eq (pc' := 10) (tgt := 12) hC dX8_isSpelled_7 (by decide) rfl (by omega) (by omega) (fun c7 => ?_) (fun c7 => ?_)
  · skip
    refine g_iload_n (pc' := 13) (j := 2) hC dX8_isSpelled_12 rfl rfl rfl ?_
    refine g_istore (pc' := 15) (lv' := [(4, .int (nI s)), (0, .ref (g.2.1 2)), (1, .ref (KA.1 w)), (2, .int (nI s)), (3, .int (nI e))]) hC dX8_isSpelled_13 rfl (by decide) rfl ?_
    have L15 : ∀ (fu : Nat) (a : Nat), (s ≤ a) → (a ≤ e) → (∀ j, s + j < a → σ.1 3 (s + j) = (kByt.getD w []).getD j 0) → (e - a) < fu → GG x g z0 5 0 0 (Qi x g z0 (FI (bI (spl (σ.1 3) w s e)) σ)) σ 15 [(4, .int (nI a)), (0, .ref (g.2.1 2)), (1, .ref (KA.1 w)), (2, .int (nI s)), (3, .int (nI e))] [] := by
      intro fu
      induction fu with
      | zero => intro a h1 h2 h3 hz; exact absurd hz (Nat.not_lt_zero _)
      | succ fu ih15 =>
        intro a h1 h2 h3 hf
        refine g_iload (pc' := 17) (j := 0) hC dX8_isSpelled_15 rfl rfl ?_
        refine g_iload_n (pc' := 18) (j := 4) hC dX8_isSpelled_17 rfl rfl rfl ?_
        refine n_icmp_ge (pc' := 21) (tgt := 47) hC dX8_isSpelled_18 (by decide) rfl (by omega) (by omega) (fun c18 => ?_) (fun c18 => ?_)
        · skip
          refine g_iconst (pc' := 48) (v := nI 1) hC dX8_isSpelled_47 rfl rfl ?_
          refine g_ret hC dX8_isSpelled_48 rfl ?_
          exact ⟨(bI_t ⟨c7, fun j hj => h3 j (by omega)⟩).symm, rfl⟩
        · skip
          refine g_aload_n (pc' := 22) (j := 1) hC dX8_isSpelled_21 rfl rfl rfl ?_
          refine gf_X8_0 (pc' := 25) hC wF_X8_9 dX8_isSpelled_22 rfl ?_
          refine g_iload (pc' := 27) (j := 0) hC dX8_isSpelled_25 rfl rfl ?_
          refine a_ldb (pc' := 28) (k := 3) (i := a) hC (by decide) (ct_3 g σ) (by omega) (by decide) dX8_isSpelled_27 rfl ?_
          refine g_aload_n (pc' := 29) (j := 2) hC dX8_isSpelled_28 rfl rfl rfl ?_
          refine g_iload (pc' := 31) (j := 0) hC dX8_isSpelled_29 rfl rfl ?_
          refine g_iload_n (pc' := 32) (j := 3) hC dX8_isSpelled_31 rfl rfl rfl ?_
          refine n_isub (pc' := 33) hC dX8_isSpelled_32 rfl (by omega) ?_
          refine f_Ki (pc' := 36) (i := w) (st := [.int (σ.1 3 a)]) hC hK (by omega : w < 22) (j_charAt x.2.1 g z0 σ w ((a - s)) (hK) (by omega) (by omega)) k_J0_charAt_5068e rfl wM_X8_89 (by decide) rfl rfl (Nat.le_of_ble_eq_true rfl) dX8_isSpelled_33 rfl (Nat.zero_le _) (Nat.zero_le _) ?_
          refine g_icmp_eq (pc' := 39) (tgt := 41) hC dX8_isSpelled_36 (by decide) rfl (fun c36 => ?_) (fun c36 => ?_)
          · skip
            refine g_iinc (pc' := 44) (j := 0) (u := nI (a + 1)) (lv' := [(4, .int (nI (a + 1))), (0, .ref (g.2.1 2)), (1, .ref (KA.1 w)), (2, .int (nI s)), (3, .int (nI e))]) hC dX8_isSpelled_41 rfl rfl (nI_add a 1) (by decide) rfl ?_
            refine g_goto (tgt := 15) hC dX8_isSpelled_44 (by decide) ?_
            refine gg_lv (lv' := [(4, .int (nI (a + 1))), (0, .ref (g.2.1 2)), (1, .ref (KA.1 w)), (2, .int (nI s)), (3, .int (nI e))]) ?_ [0, 1, 2, 3, 4] rfl
            exact ih15 ((a + 1)) (by omega) (by omega) (by intro j hj; rcases Nat.lt_or_ge (s + j) a with q | q; exact h3 j q; rw [show s + j = a by omega, show j = a - s by omega]; exact c36) (by omega)
          · skip
            refine g_iconst (pc' := 40) (v := nI 0) hC dX8_isSpelled_39 rfl rfl ?_
            refine g_ret hC dX8_isSpelled_40 rfl ?_
            exact ⟨(bI_f (fun z => c36 (by have := z.2 (a - s) (by omega); rw [show s + (a - s) = a by omega] at this; exact this))).symm, rfl⟩
    refine gg_lv (lv' := [(4, .int (nI s)), (0, .ref (g.2.1 2)), (1, .ref (KA.1 w)), (2, .int (nI s)), (3, .int (nI e))]) ?_ [0, 1, 2, 3, 4] rfl
    exact L15 (e - s + 1) s (by omega) (by omega) (by intro j hj; omega) (by omega)
  · skip
    refine g_iconst (pc' := 11) (v := nI 0) hC dX8_isSpelled_10 rfl rfl ?_
    refine g_ret hC dX8_isSpelled_11 rfl ?_
    exact ⟨(bI_f (fun z => c7 z.1)).symm, rfl⟩
set_option maxHeartbeats 4000000 in
set_option maxRecDepth 20000 in
theorem c_kindOf (l : Launch) (g : Lay) (z0 : Nat) {KA : KAd} (σ : St) (s : Nat) (e : Nat) (hK : GK g z0 KA) (hse : s < e) (he : e ≤ 900)  : CTe l yX8_kindOf cX8_kindOf 7 (some (.object "ForkWatch$Kind")) 5 g z0 [.ref (g.2.1 2), .int (nI s), .int (nI e)] σ (FE (some (kdo (σ.1 3) s e)) σ) := by
  refine CTe.of (by decide) (Nat.le_of_ble_eq_true rfl) ?_
  intro x hxl hxa hC
  have hC : Cx x RX8 cX8_kindOf 7 (some (.object "ForkWatch$Kind")) 5 g z0 := hC
  show GG x g z0 7 0 0 (Qe x g z0 (FE (some (kdo (σ.1 3) s e)) σ)) σ 0 [(0, .ref (g.2.1 2)), (1, .int (nI s)), (2, .int (nI e))] []
  refine g_aload_n (pc' := 1) (j := 0) hC dX8_kindOf_0 rfl rfl rfl ?_
  refine gf_X8_0 (pc' := 4) hC wF_X8_9 dX8_kindOf_1 rfl ?_
  refine g_iload_n (pc' := 5) (j := 1) hC dX8_kindOf_4 rfl rfl rfl ?_
  refine a_ldb (pc' := 6) (k := 3) (i := s) hC (by decide) (ct_3 g σ) (by omega) (by decide) dX8_kindOf_5 rfl ?_
  refine f_Si (pc' := 9) (st := []) hC (c_isDigit x.2.1 g z0 σ ((σ.1 3 s))) k_X8_isDigit wM_X8_51 (by decide) rfl rfl (Nat.le_of_ble_eq_true rfl) dX8_kindOf_6 rfl (Nat.zero_le _) (Nat.zero_le _) ?_
  refine b_if_eq (pc' := 12) (tgt := 30) hC dX8_kindOf_9 (by decide) rfl (fun c9 => ?_) (fun c9 => ?_)
  · skip
    refine g_gsA (pc' := 33) hC hK dX8_kindOf_30 rfl ?_
    refine g_astore_n (pc' := 34) (lv' := [(3, .ref KA.2.2.1), (0, .ref (g.2.1 2)), (1, .int (nI s)), (2, .int (nI e))]) hC dX8_kindOf_33 rfl rfl (by decide) rfl ?_
    refine g_aload_n (pc' := 35) (j := 0) hC dX8_kindOf_34 rfl rfl rfl ?_
    refine g_tlen (pc' := 36) hC (hK.at hC).2.2.2.2.1.2 dX8_kindOf_35 rfl ?_
    refine g_istore (pc' := 38) (lv' := [(4, .int (nI 16)), (3, .ref KA.2.2.1), (0, .ref (g.2.1 2)), (1, .int (nI s)), (2, .int (nI e))]) hC dX8_kindOf_36 rfl (by decide) rfl ?_
    refine g_iconst (pc' := 39) (v := nI 0) hC dX8_kindOf_38 rfl rfl ?_
    refine g_istore (pc' := 41) (lv' := [(5, .int (nI 0)), (4, .int (nI 16)), (3, .ref KA.2.2.1), (0, .ref (g.2.1 2)), (1, .int (nI s)), (2, .int (nI e))]) hC dX8_kindOf_39 rfl (by decide) rfl ?_
    have L41 : ∀ (fu : Nat) (i : Nat), (i ≤ 16) → (∀ j, j < i → ¬ spl (σ.1 3) (kSp.getD j 0) s e) → (16 - i) < fu → GG x g z0 7 0 0 (Qe x g z0 (FE (some (kdo (σ.1 3) s e)) σ)) σ 41 [(5, .int (nI i)), (4, .int (nI 16)), (3, .ref KA.2.2.1), (0, .ref (g.2.1 2)), (1, .int (nI s)), (2, .int (nI e))] [] := by
      intro fu
      induction fu with
      | zero => intro i hi h3 hz; exact absurd hz (Nat.not_lt_zero _)
      | succ fu ih41 =>
        intro i hi h3 hf
        refine g_iload (pc' := 43) (j := 0) hC dX8_kindOf_41 rfl rfl ?_
        refine g_iload (pc' := 45) (j := 1) hC dX8_kindOf_43 rfl rfl ?_
        refine n_icmp_ge (pc' := 48) (tgt := 77) hC dX8_kindOf_45 (by decide) rfl (by omega) (by omega) (fun c45 => ?_) (fun c45 => ?_)
        · skip
          refine g_gsE (pc' := 80) (i := 1) hC hK (by decide) rfl wF_X8_54 dX8_kindOf_77 rfl ?_
          refine e_ret (i := 1) hC dX8_kindOf_80 ?_
          exact ⟨by unfold kdo; rw [cI_f c9, kfi_n (by intro j hj; exact h3 j (by omega))], rfl⟩
        · skip
          refine g_aload_n (pc' := 49) (j := 2) hC dX8_kindOf_48 rfl rfl rfl ?_
          refine g_iload (pc' := 51) (j := 0) hC dX8_kindOf_49 rfl rfl ?_
          refine g_tq (pc' := 52) (i := i) hC hK (by omega : i < 16) dX8_kindOf_51 rfl ?_
          refine g_astore (pc' := 54) (lv' := [(6, .ref (g.2.2.1 i)), (5, .int (nI i)), (4, .int (nI 16)), (3, .ref KA.2.2.1), (0, .ref (g.2.1 2)), (1, .int (nI s)), (2, .int (nI e))]) hC dX8_kindOf_52 rfl (by decide) rfl ?_
          refine g_aload_n (pc' := 55) (j := 4) hC dX8_kindOf_54 rfl rfl rfl ?_
          refine g_aload (pc' := 57) (j := 0) hC dX8_kindOf_55 rfl rfl ?_
          refine g_gSp (pc' := 60) (i := i) hC hK (by omega : i < 16) wF_X8_75 dX8_kindOf_57 rfl ?_
          refine g_iload_n (pc' := 61) (j := 5) hC dX8_kindOf_60 rfl rfl rfl ?_
          refine g_iload_n (pc' := 62) (j := 6) hC dX8_kindOf_61 rfl rfl rfl ?_
          refine f_Vi (pc' := 65) (k := 2) (st := []) hC (c_isSpelled x.2.1 g z0 σ ((kSp.getD i 0)) s e (hK) (kSp_lt (by omega)) (by omega) (by omega)) k_X8_isSpelled wM_X8_79 (by decide) (by decide) (ct_2 g σ) rfl rfl rfl rfl (Nat.le_of_ble_eq_true rfl) dX8_kindOf_62 rfl (Nat.zero_le _) (Nat.zero_le _) ?_
          refine b_if_eq (pc' := 68) (tgt := 71) hC dX8_kindOf_65 (by decide) rfl (fun c65 => ?_) (fun c65 => ?_)
          · skip
            refine g_iinc (pc' := 74) (j := 1) (u := nI (i + 1)) (lv' := [(5, .int (nI (i + 1))), (6, .ref (g.2.2.1 i)), (4, .int (nI 16)), (3, .ref KA.2.2.1), (0, .ref (g.2.1 2)), (1, .int (nI s)), (2, .int (nI e))]) hC dX8_kindOf_71 rfl rfl (nI_add i 1) (by decide) rfl ?_
            refine g_goto (tgt := 41) hC dX8_kindOf_74 (by decide) ?_
            refine gg_lv (lv' := [(5, .int (nI (i + 1))), (4, .int (nI 16)), (3, .ref KA.2.2.1), (0, .ref (g.2.1 2)), (1, .int (nI s)), (2, .int (nI e))]) ?_ [0, 2, 3, 4, 5, 6] rfl
            exact ih41 ((i + 1)) (by omega) (by intro j hj; rcases Nat.lt_or_ge j i with q | q; exact h3 j q; exact (show j = i by omega) ▸ c65) (by omega)
          · skip
            refine g_aload (pc' := 70) (j := 0) hC dX8_kindOf_68 rfl rfl ?_
            refine e_ret (i := i) hC dX8_kindOf_70 ?_
            exact ⟨by unfold kdo; rw [cI_f c9, kfi_y (by omega) c65 h3], rfl⟩
    refine gg_lv (lv' := [(5, .int (nI 0)), (4, .int (nI 16)), (3, .ref KA.2.2.1), (0, .ref (g.2.1 2)), (1, .int (nI s)), (2, .int (nI e))]) ?_ [0, 1, 2, 3, 4, 5] rfl
    exact L41 (16 - 0 + 1) 0 (by omega) (by intro j hj; omega) (by omega)
  · skip
    refine g_iload_n (pc' := 13) (j := 2) hC dX8_kindOf_12 rfl rfl rfl ?_
    refine g_iload_n (pc' := 14) (j := 1) hC dX8_kindOf_13 rfl rfl rfl ?_
    refine n_isub (pc' := 15) hC dX8_kindOf_14 rfl (by omega) ?_
    refine g_bipush (pc' := 17) (v := nI 6) hC dX8_kindOf_15 rfl rfl ?_
    refine n_icmp_le (pc' := 20) (tgt := 26) hC dX8_kindOf_17 (by decide) rfl (by omega) (by omega) (fun c17 => ?_) (fun c17 => ?_)
    · skip
      refine g_gsE (pc' := 29) (i := 3) hC hK (by decide) rfl wF_X8_69 dX8_kindOf_26 rfl ?_
      refine e_ret (i := 3) hC dX8_kindOf_29 ?_
      exact ⟨by unfold kdo; rw [cI_t c9, cI_f (by omega)], rfl⟩
    · skip
      refine g_gsE (pc' := 23) (i := 1) hC hK (by decide) rfl wF_X8_54 dX8_kindOf_20 rfl ?_
      refine g_goto (tgt := 29) hC dX8_kindOf_23 (by decide) ?_
      refine e_ret (i := 1) hC dX8_kindOf_29 ?_
      exact ⟨by unfold kdo; rw [cI_t c9, cI_t (by omega)], rfl⟩
set_option maxHeartbeats 4000000 in
set_option maxRecDepth 20000 in
theorem c_addToken (l : Launch) (g : Lay) (z0 : Nat) {KA : KAd} (σ : St) (k : Nat) (s : Nat) (e : Nat) (hK : GK g z0 KA) (hk : k < 16) (hse : s ≤ e) (he : e ≤ 900) (hc : nb σ 2 4 900)  : CTv l yX8_addToken cX8_addToken 4 1 g z0 [.ref (g.2.1 2), .ref (g.2.2.1 k), .int (nI s), .int (nI e)] σ (FV (cat σ k s e)) := by
  refine CTv.of (by decide) (Nat.le_of_ble_eq_true rfl) ?_
  intro x hxl hxa hC
  have hC : Cx x RX8 cX8_addToken 4 none 1 g z0 := hC
  have hc2 := hc.2
  show GG x g z0 4 0 0 (Qv x g z0 (FV (cat σ k s e))) σ 0 [(0, .ref (g.2.1 2)), (1, .ref (g.2.2.1 k)), (2, .int (nI s)), (3, .int (nI e))] []
  refine g_aload_n (pc' := 1) (j := 0) hC dX8_addToken_0 rfl rfl rfl ?_
  refine gf_X8_4 (pc' := 4) hC wF_X8_37 dX8_addToken_1 rfl ?_
  refine gg_topi (b := nI (rd σ 2 4)) (hc.1) ?_
  refine g_sipush (pc' := 7) (v := nI 900) hC dX8_addToken_4 rfl rfl ?_
  refine n_icmp_le (pc' := 10) (tgt := 11) hC dX8_addToken_7 (by decide) rfl (by omega) (by omega) (fun c7 => ?_) (fun c7 => ?_)
  · skip
    refine g_aload_n (pc' := 12) (j := 0) hC dX8_addToken_11 rfl rfl rfl ?_
    refine gf_X8_1 (pc' := 15) hC wF_X8_17 dX8_addToken_12 rfl ?_
    refine g_aload_n (pc' := 16) (j := 0) hC dX8_addToken_15 rfl rfl rfl ?_
    refine gf_X8_4 (pc' := 19) hC wF_X8_37 dX8_addToken_16 rfl ?_
    refine gg_topi (b := nI (rd σ 2 4)) (hc.1) ?_
    refine g_aload_n (pc' := 20) (j := 1) hC dX8_addToken_19 rfl rfl rfl ?_
    refine e_stK (pc' := 21) (i := rd σ 2 4) (k0 := k) hC hK (by omega) (by omega : k < 16) dX8_addToken_20 rfl ?_
    refine g_aload_n (pc' := 22) (j := 0) hC dX8_addToken_21 rfl rfl rfl ?_
    refine gf_X8_2 (pc' := 25) hC wF_X8_21 dX8_addToken_22 rfl ?_
    refine g_aload_n (pc' := 26) (j := 0) hC dX8_addToken_25 rfl rfl rfl ?_
    refine gf_X8_4 (pc' := 29) hC wF_X8_37 dX8_addToken_26 rfl ?_
    refine gg_topi (b := nI (rd σ 2 4)) ((uq_c _ _ _ _ _ _).trans (hc.1)) ?_
    refine g_iload_n (pc' := 30) (j := 2) hC dX8_addToken_29 rfl rfl rfl ?_
    refine a_st (pc' := 31) (k := 5) (i := rd σ 2 4) hC (by decide) (fun σ9 => (ct_5 g σ9)) (by omega) (by decide) dX8_addToken_30 rfl ?_
    refine g_aload_n (pc' := 32) (j := 0) hC dX8_addToken_31 rfl rfl rfl ?_
    refine gf_X8_3 (pc' := 35) hC wF_X8_25 dX8_addToken_32 rfl ?_
    refine g_aload_n (pc' := 36) (j := 0) hC dX8_addToken_35 rfl rfl rfl ?_
    refine gf_X8_4 (pc' := 39) hC wF_X8_37 dX8_addToken_36 rfl ?_
    refine gg_topi (b := nI (rd σ 2 4)) ((uv_cell _ _ _ _ (by decide)).trans ((uq_c _ _ _ _ _ _).trans (hc.1))) ?_
    refine g_aload_n (pc' := 40) (j := 1) hC dX8_addToken_39 rfl rfl rfl ?_
    refine g_gsE (pc' := 43) (i := 3) hC hK (by decide) rfl wF_X8_69 dX8_addToken_40 rfl ?_
    refine e_acmp_ne (pc' := 46) (a := k) (b := 3) (tgt := 55) hC hK (by omega : k < 16) (by decide) dX8_addToken_43 (by decide) rfl (fun c43 => ?_) (fun c43 => ?_)
    · skip
      refine g_iconst (pc' := 56) (v := nI 0) hC dX8_addToken_55 rfl rfl ?_
      refine a_st (pc' := 57) (k := 6) (i := rd σ 2 4) hC (by decide) (fun σ9 => (ct_6 g σ9)) (by omega) (by decide) dX8_addToken_56 rfl ?_
      refine g_aload_n (pc' := 58) (j := 0) hC dX8_addToken_57 rfl rfl rfl ?_
      refine g_dup (pc' := 59) hC dX8_addToken_58 rfl rfl ?_
      refine gf_X8_4 (pc' := 62) hC wF_X8_37 dX8_addToken_59 rfl ?_
      refine gg_topi (b := nI (rd σ 2 4)) ((uv_cell _ _ _ _ (by decide)).trans ((uv_cell _ _ _ _ (by decide)).trans ((uq_c _ _ _ _ _ _).trans (hc.1)))) ?_
      refine g_iconst (pc' := 63) (v := nI 1) hC dX8_addToken_62 rfl rfl ?_
      refine n_iadd (pc' := 64) hC dX8_addToken_63 rfl ?_
      refine pf_X8_4 (pc' := 67) hC wF_X8_37 dX8_addToken_64 rfl ?_
      refine g_retv hC dX8_addToken_67 ?_
      exact by unfold cat; rw [if_neg c43]; rfl
    · skip
      refine g_aload_n (pc' := 47) (j := 0) hC dX8_addToken_46 rfl rfl rfl ?_
      refine g_iload_n (pc' := 48) (j := 2) hC dX8_addToken_47 rfl rfl rfl ?_
      refine g_iload_n (pc' := 49) (j := 3) hC dX8_addToken_48 rfl rfl rfl ?_
      refine f_Vi (pc' := 52) (k := 2) (st := [.int (nI (rd σ 2 4)), .ref (g.2.1 6)]) hC (c_numberAt x.2.1 g z0 (uv (uq σ 4 (rd σ 2 4) (some k)) 5 (rd σ 2 4) (nI s)) s e (by omega) (by omega)) k_X8_numberAt wM_X8_93 (by decide) (by decide) (ct_2 g (uv (uq σ 4 (rd σ 2 4) (some k)) 5 (rd σ 2 4) (nI s))) rfl rfl rfl rfl (Nat.le_of_ble_eq_true rfl) dX8_addToken_49 rfl (Nat.zero_le _) (Nat.zero_le _) ?_
      refine gg_topi (b := nmv (σ.1 3) s (e - s)) (by simp (disch := decide) only [mh_uv, mh_ur, mcomp_uv, rd_uv, rd_ur, uv_cell, ur_cell, uv_idx, uv_fun, rd_idx, ne_eq, not_false_eq_true, uq_1, uv_fun]) ?_
      refine g_goto (tgt := 56) hC dX8_addToken_52 (by decide) ?_
      refine a_st (pc' := 57) (k := 6) (i := rd σ 2 4) hC (by decide) (fun σ9 => (ct_6 g σ9)) (by omega) (by decide) dX8_addToken_56 rfl ?_
      refine g_aload_n (pc' := 58) (j := 0) hC dX8_addToken_57 rfl rfl rfl ?_
      refine g_dup (pc' := 59) hC dX8_addToken_58 rfl rfl ?_
      refine gf_X8_4 (pc' := 62) hC wF_X8_37 dX8_addToken_59 rfl ?_
      refine gg_topi (b := nI (rd σ 2 4)) ((uv_cell _ _ _ _ (by decide)).trans ((uv_cell _ _ _ _ (by decide)).trans ((uq_c _ _ _ _ _ _).trans (hc.1)))) ?_
      refine g_iconst (pc' := 63) (v := nI 1) hC dX8_addToken_62 rfl rfl ?_
      refine n_iadd (pc' := 64) hC dX8_addToken_63 rfl ?_
      refine pf_X8_4 (pc' := 67) hC wF_X8_37 dX8_addToken_64 rfl ?_
      refine g_retv hC dX8_addToken_67 ?_
      exact by unfold cat; rw [if_pos c43]; rfl
  · skip
    omega
set_option maxHeartbeats 4000000 in
set_option maxRecDepth 20000 in
theorem c_scan (l : Launch) (g : Lay) (z0 : Nat) {KA : KAd} (σ : St) (e : Nat) (hK : GK g z0 KA) (he : e ≤ 900)  : CTv l yX8_scan cX8_scan 7 6 g z0 [.ref (g.2.1 2), .int (nI e)] σ (FV (csc σ e)) := by
  refine CTv.of (by decide) (Nat.le_of_ble_eq_true rfl) ?_
  intro x hxl hxa hC
  have hC : Cx x RX8 cX8_scan 7 none 6 g z0 := hC
  show GG x g z0 7 0 0 (Qv x g z0 (FV (csc σ e))) σ 0 [(0, .ref (g.2.1 2)), (1, .int (nI e))] []
  refine g_iconst (pc' := 1) (v := nI 0) hC dX8_scan_0 rfl rfl ?_
  refine g_iload_n (pc' := 2) (j := 1) hC dX8_scan_1 rfl rfl rfl ?_
  refine g_sipush (pc' := 5) (v := nI 900) hC dX8_scan_2 rfl rfl ?_
  refine n_min (pc' := 8) (st := [.int (nI 0)]) hC wM_X8_28 (by decide) (by omega) (by omega) (Nat.le_of_ble_eq_true rfl) dX8_scan_5 rfl (Nat.zero_le _) (Nat.zero_le _) ?_
  refine n_max (pc' := 11) (st := []) hC wM_X8_34 (by decide) (by omega) (by omega) (Nat.le_of_ble_eq_true rfl) dX8_scan_8 rfl (Nat.zero_le _) (Nat.zero_le _) ?_
  refine g_istore_n (pc' := 12) (lv' := [(2, .int (nI (max 0 (min e 900)))), (0, .ref (g.2.1 2)), (1, .int (nI e))]) hC dX8_scan_11 rfl rfl (by decide) rfl ?_
  refine gg_lve (lv' := [(2, .int (nI e)), (0, .ref (g.2.1 2)), (1, .int (nI e))]) (by rw [show max 0 (min e 900) = e by omega]) ?_
  refine g_iconst (pc' := 13) (v := (-1)) hC dX8_scan_12 rfl rfl ?_
  refine g_istore_n (pc' := 14) (lv' := [(3, .int ((-1))), (2, .int (nI e)), (0, .ref (g.2.1 2)), (1, .int (nI e))]) hC dX8_scan_13 rfl rfl (by decide) rfl ?_
  refine g_aload_n (pc' := 15) (j := 2) hC dX8_scan_14 rfl rfl rfl ?_
  refine g_iconst (pc' := 16) (v := nI 0) hC dX8_scan_15 rfl rfl ?_
  refine pf_X8_4 (pc' := 19) hC wF_X8_37 dX8_scan_16 rfl ?_
  refine g_iconst (pc' := 20) (v := nI 0) hC dX8_scan_19 rfl rfl ?_
  refine g_istore (pc' := 22) (lv' := [(4, .int (nI 0)), (3, .int ((-1))), (2, .int (nI e)), (0, .ref (g.2.1 2)), (1, .int (nI e))]) hC dX8_scan_20 rfl (by decide) rfl ?_
  refine g_iconst (pc' := 23) (v := nI 0) hC dX8_scan_22 rfl rfl ?_
  refine g_istore (pc' := 25) (lv' := [(5, .int (nI 0)), (4, .int (nI 0)), (3, .int ((-1))), (2, .int (nI e)), (0, .ref (g.2.1 2)), (1, .int (nI e))]) hC dX8_scan_23 rfl (by decide) rfl ?_
  have L25 : ∀ (fu : Nat) (a : Nat) (r : Int32) (f : Nat) (τ : St), (a ≤ e) → (e ≤ a + f) → (nb τ 2 4 a) → (scn (τ.1 3) e f a r τ = scn (σ.1 3) e e 0 (-1) (uv σ 2 4 (nI 0))) → (e - a) < fu → GG x g z0 7 0 0 (Qv x g z0 (FV (csc σ e))) τ 25 [(4, .int (nI a)), (3, .int r), (0, .ref (g.2.1 2)), (2, .int (nI e))] [] := by
    intro fu
    induction fu with
    | zero => intro a r f τ h1 h2 h3 hE9 hz; exact absurd hz (Nat.not_lt_zero _)
    | succ fu ih25 =>
      intro a r f τ h1 h2 h3 hE9 hf
      refine g_iload (pc' := 27) (j := 0) hC dX8_scan_25 rfl rfl ?_
      refine g_iload_n (pc' := 28) (j := 3) hC dX8_scan_27 rfl rfl rfl ?_
      refine n_icmp_ge (pc' := 31) (tgt := 148) hC dX8_scan_28 (by decide) rfl (by omega) (by omega) (fun c28 => ?_) (fun c28 => ?_)
      · skip
        refine g_aload_n (pc' := 149) (j := 2) hC dX8_scan_148 rfl rfl rfl ?_
        refine g_gsE (pc' := 152) (i := 0) hC hK (by decide) rfl wF_X8_66 dX8_scan_149 rfl ?_
        refine g_iload_n (pc' := 153) (j := 3) hC dX8_scan_152 rfl rfl rfl ?_
        refine g_iload_n (pc' := 154) (j := 3) hC dX8_scan_153 rfl rfl rfl ?_
        refine f_Vv (pc' := 157) (k := 2) (st := []) hC (c_addToken x.2.1 g z0 τ 0 e e (hK) (by decide) (by omega) (by omega) (nb_le h3 (by omega))) k_X8_addToken wM_X8_62 (by decide) (by decide) (ct_2 g τ) rfl rfl rfl rfl (Nat.le_of_ble_eq_true rfl) dX8_scan_154 rfl (Nat.zero_le _) (Nat.zero_le _) ?_
        refine g_retv hC dX8_scan_157 ?_
        exact (by unfold csc; rw [← hE9, scn_e c28]; exact rfl)
      · skip
        have hEO := eor_ok (T := τ.1 3) (Nat.le_of_lt c28)
        have h32 := h3.2
        refine g_iload (pc' := 33) (j := 0) hC dX8_scan_31 rfl rfl ?_
        refine g_iconst (pc' := 34) (v := nI 1) hC dX8_scan_33 rfl rfl ?_
        refine n_iadd (pc' := 35) hC dX8_scan_34 rfl ?_
        refine g_aload_n (pc' := 36) (j := 2) hC dX8_scan_35 rfl rfl rfl ?_
        refine g_iload (pc' := 38) (j := 0) hC dX8_scan_36 rfl rfl ?_
        refine g_iload_n (pc' := 39) (j := 3) hC dX8_scan_38 rfl rfl rfl ?_
        refine f_Vi (pc' := 42) (k := 2) (st := [.int (nI (a + 1))]) hC (c_endOfRun x.2.1 g z0 τ a e (by omega) (he)) k_X8_endOfRun wM_X8_41 (by decide) (by decide) (ct_2 g τ) rfl rfl rfl rfl (Nat.le_of_ble_eq_true rfl) dX8_scan_39 rfl (Nat.zero_le _) (Nat.zero_le _) ?_
        refine n_max (pc' := 45) (st := []) hC wM_X8_34 (by decide) (by omega) (by omega) (Nat.le_of_ble_eq_true rfl) dX8_scan_42 rfl (Nat.zero_le _) (Nat.zero_le _) ?_
        refine g_istore (pc' := 47) (lv' := [(5, .int (nI (max (a + 1) (eor (τ.1 3) a e)))), (4, .int (nI a)), (3, .int r), (0, .ref (g.2.1 2)), (2, .int (nI e))]) hC dX8_scan_45 rfl (by decide) rfl ?_
        refine g_aload_n (pc' := 48) (j := 3) hC dX8_scan_47 rfl rfl rfl ?_
        refine gf_X8_0 (pc' := 51) hC wF_X8_9 dX8_scan_48 rfl ?_
        refine g_iload (pc' := 53) (j := 1) hC dX8_scan_51 rfl rfl ?_
        refine a_ldb (pc' := 54) (k := 3) (i := a) hC (by decide) (ct_3 g τ) (by omega) (by decide) dX8_scan_53 rfl ?_
        refine f_Si (pc' := 57) (st := []) hC (c_isBlank x.2.1 g z0 τ ((τ.1 3 a))) k_X8_isBlank wM_X8_44 (by decide) rfl rfl (Nat.le_of_ble_eq_true rfl) dX8_scan_54 rfl (Nat.zero_le _) (Nat.zero_le _) ?_
        refine b_if_eq (pc' := 60) (tgt := 63) hC dX8_scan_57 (by decide) rfl (fun c57 => ?_) (fun c57 => ?_)
        · skip
          refine g_aload_n (pc' := 64) (j := 3) hC dX8_scan_63 rfl rfl rfl ?_
          refine gf_X8_0 (pc' := 67) hC wF_X8_9 dX8_scan_64 rfl ?_
          refine g_iload (pc' := 69) (j := 1) hC dX8_scan_67 rfl rfl ?_
          refine a_ldb (pc' := 70) (k := 3) (i := a) hC (by decide) (ct_3 g τ) (by omega) (by decide) dX8_scan_69 rfl ?_
          refine f_Si (pc' := 73) (st := []) hC (c_isLetter x.2.1 g z0 τ ((τ.1 3 a))) k_X8_isLetter wM_X8_48 (by decide) rfl rfl (Nat.le_of_ble_eq_true rfl) dX8_scan_70 rfl (Nat.zero_le _) (Nat.zero_le _) ?_
          refine b_if_ne (pc' := 76) (tgt := 89) hC dX8_scan_73 (by decide) rfl (fun c73 => ?_) (fun c73 => ?_)
          · skip
            refine g_iconst (pc' := 90) (v := nI 1) hC dX8_scan_89 rfl rfl ?_
            refine g_goto (tgt := 94) hC dX8_scan_90 (by decide) ?_
            refine g_istore (pc' := 96) (lv' := [(6, .int (nI 1)), (5, .int (nI (max (a + 1) (eor (τ.1 3) a e)))), (4, .int (nI a)), (3, .int r), (0, .ref (g.2.1 2)), (2, .int (nI e))]) hC dX8_scan_94 rfl (by decide) rfl ?_
            refine g_aload_n (pc' := 97) (j := 4) hC dX8_scan_96 rfl rfl rfl ?_
            refine g_iload (pc' := 99) (j := 0) hC dX8_scan_97 rfl rfl ?_
            refine n_if_eq (pc' := 102) (tgt := 114) hC dX8_scan_99 (by decide) rfl (by omega) (fun c99 => ?_) (fun c99 => ?_)
            · skip
              first | exact absurd c99 (by decide) | exact c99.elim
            · skip
              refine g_iload (pc' := 104) (j := 2) hC dX8_scan_102 rfl rfl ?_
              refine g_iload_n (pc' := 105) (j := 3) hC dX8_scan_104 rfl rfl rfl ?_
              refine g_icmp_ne (pc' := 108) (tgt := 114) hC dX8_scan_105 (by decide) rfl (fun c105 => ?_) (fun c105 => ?_)
              · skip
                refine g_aload_n (pc' := 115) (j := 4) hC dX8_scan_114 rfl rfl rfl ?_
                refine g_iload (pc' := 117) (j := 2) hC dX8_scan_115 rfl rfl ?_
                refine g_iload (pc' := 119) (j := 1) hC dX8_scan_117 rfl rfl ?_
                refine f_Ve (pc' := 122) (k := 2) (st := [.ref (g.2.1 2)]) hC (c_kindOf x.2.1 g z0 τ a ((max (a + 1) (eor (τ.1 3) a e))) (hK) (by omega) (by omega)) k_X8_kindOf wM_X8_58 (by decide) (by decide) (ct_2 g τ) rfl rfl rfl rfl (Nat.le_of_ble_eq_true rfl) dX8_scan_119 rfl (Nat.zero_le _) (Nat.zero_le _) ?_
                refine g_iload (pc' := 124) (j := 2) hC dX8_scan_122 rfl rfl ?_
                refine g_iload (pc' := 126) (j := 1) hC dX8_scan_124 rfl rfl ?_
                refine f_Vv (pc' := 129) (k := 2) (st := []) hC (c_addToken x.2.1 g z0 τ ((kdo (τ.1 3) a (max (a + 1) (eor (τ.1 3) a e)))) a ((max (a + 1) (eor (τ.1 3) a e))) (hK) (by first | exact kdo_lt _ _ _ | decide) (by omega) (by omega) (nb_le h3 (by omega))) k_X8_addToken wM_X8_62 (by decide) (by decide) (ct_2 g τ) rfl rfl rfl rfl (Nat.le_of_ble_eq_true rfl) dX8_scan_126 rfl (Nat.zero_le _) (Nat.zero_le _) ?_
                refine g_iload (pc' := 131) (j := 0) hC dX8_scan_129 rfl rfl ?_
                refine n_if_eq (pc' := 134) (tgt := 139) hC dX8_scan_131 (by decide) rfl (by omega) (fun c131 => ?_) (fun c131 => ?_)
                · skip
                  first | exact absurd c131 (by decide) | exact c131.elim
                · skip
                  refine g_iload (pc' := 136) (j := 1) hC dX8_scan_134 rfl rfl ?_
                  refine g_goto (tgt := 140) hC dX8_scan_136 (by decide) ?_
                  refine g_istore_n (pc' := 141) (lv' := [(3, .int (nI (max (a + 1) (eor (τ.1 3) a e)))), (6, .int (nI 1)), (5, .int (nI (max (a + 1) (eor (τ.1 3) a e)))), (4, .int (nI a)), (0, .ref (g.2.1 2)), (2, .int (nI e))]) hC dX8_scan_140 rfl rfl (by decide) rfl ?_
                  refine g_iload (pc' := 143) (j := 2) hC dX8_scan_141 rfl rfl ?_
                  refine g_istore (pc' := 145) (lv' := [(4, .int (nI (max (a + 1) (eor (τ.1 3) a e)))), (3, .int (nI (max (a + 1) (eor (τ.1 3) a e)))), (6, .int (nI 1)), (5, .int (nI (max (a + 1) (eor (τ.1 3) a e)))), (0, .ref (g.2.1 2)), (2, .int (nI e))]) hC dX8_scan_143 rfl (by decide) rfl ?_
                  refine g_goto (tgt := 25) hC dX8_scan_145 (by decide) ?_
                  have hEO := eor_ok (T := τ.1 3) (Nat.le_of_lt c28)
                  obtain ⟨f9, rfl⟩ : ∃ f9, f = f9 + 1 := ⟨f - 1, by omega⟩
                  refine gg_st (σ' := ((cat τ (kdo (τ.1 3) a (max (a + 1) (eor (τ.1 3) a e))) a (max (a + 1) (eor (τ.1 3) a e))))) (rfl) ?_
                  refine gg_lv (lv' := [(4, .int (nI (max (a + 1) (eor (τ.1 3) a e)))), (3, .int (nI (max (a + 1) (eor (τ.1 3) a e)))), (0, .ref (g.2.1 2)), (2, .int (nI e))]) ?_ [0, 1, 4, 5] rfl
                  exact ih25 (max (a + 1) (eor (τ.1 3) a e)) (nI (max (a + 1) (eor (τ.1 3) a e))) f9 ((cat τ (kdo (τ.1 3) a (max (a + 1) (eor (τ.1 3) a e))) a (max (a + 1) (eor (τ.1 3) a e)))) (by omega) (by omega) (nb_le (cat_n (by have := h3.2; omega) (by omega : a + 1 < _)).1 (by omega)) (by rw [cat_3]; exact (scn_t c28 c57 (by unfold scK; rw [cI_f (fun z => c105 z.2)]) (cI_t (show ltr (τ.1 3 a) ∨ dgt (τ.1 3 a) from Or.inl c73))).symm.trans hE9) (by omega)
              · skip
                refine g_gsE (pc' := 111) (i := 1) hC hK (by decide) rfl wF_X8_54 dX8_scan_108 rfl ?_
                refine g_goto (tgt := 122) hC dX8_scan_111 (by decide) ?_
                refine g_iload (pc' := 124) (j := 2) hC dX8_scan_122 rfl rfl ?_
                refine g_iload (pc' := 126) (j := 1) hC dX8_scan_124 rfl rfl ?_
                refine f_Vv (pc' := 129) (k := 2) (st := []) hC (c_addToken x.2.1 g z0 τ 1 a ((max (a + 1) (eor (τ.1 3) a e))) (hK) (by first | exact kdo_lt _ _ _ | decide) (by omega) (by omega) (nb_le h3 (by omega))) k_X8_addToken wM_X8_62 (by decide) (by decide) (ct_2 g τ) rfl rfl rfl rfl (Nat.le_of_ble_eq_true rfl) dX8_scan_126 rfl (Nat.zero_le _) (Nat.zero_le _) ?_
                refine g_iload (pc' := 131) (j := 0) hC dX8_scan_129 rfl rfl ?_
                refine n_if_eq (pc' := 134) (tgt := 139) hC dX8_scan_131 (by decide) rfl (by omega) (fun c131 => ?_) (fun c131 => ?_)
                · skip
                  first | exact absurd c131 (by decide) | exact c131.elim
                · skip
                  refine g_iload (pc' := 136) (j := 1) hC dX8_scan_134 rfl rfl ?_
                  refine g_goto (tgt := 140) hC dX8_scan_136 (by decide) ?_
                  refine g_istore_n (pc' := 141) (lv' := [(3, .int (nI (max (a + 1) (eor (τ.1 3) a e)))), (6, .int (nI 1)), (5, .int (nI (max (a + 1) (eor (τ.1 3) a e)))), (4, .int (nI a)), (0, .ref (g.2.1 2)), (2, .int (nI e))]) hC dX8_scan_140 rfl rfl (by decide) rfl ?_
                  refine g_iload (pc' := 143) (j := 2) hC dX8_scan_141 rfl rfl ?_
                  refine g_istore (pc' := 145) (lv' := [(4, .int (nI (max (a + 1) (eor (τ.1 3) a e)))), (3, .int (nI (max (a + 1) (eor (τ.1 3) a e)))), (6, .int (nI 1)), (5, .int (nI (max (a + 1) (eor (τ.1 3) a e)))), (0, .ref (g.2.1 2)), (2, .int (nI e))]) hC dX8_scan_143 rfl (by decide) rfl ?_
                  refine g_goto (tgt := 25) hC dX8_scan_145 (by decide) ?_
                  have hEO := eor_ok (T := τ.1 3) (Nat.le_of_lt c28)
                  obtain ⟨f9, rfl⟩ : ∃ f9, f = f9 + 1 := ⟨f - 1, by omega⟩
                  refine gg_st (σ' := ((cat τ 1 a (max (a + 1) (eor (τ.1 3) a e))))) (rfl) ?_
                  refine gg_lv (lv' := [(4, .int (nI (max (a + 1) (eor (τ.1 3) a e)))), (3, .int (nI (max (a + 1) (eor (τ.1 3) a e)))), (0, .ref (g.2.1 2)), (2, .int (nI e))]) ?_ [0, 1, 4, 5] rfl
                  exact ih25 (max (a + 1) (eor (τ.1 3) a e)) (nI (max (a + 1) (eor (τ.1 3) a e))) f9 ((cat τ 1 a (max (a + 1) (eor (τ.1 3) a e)))) (by omega) (by omega) (nb_le (cat_n (by have := h3.2; omega) (by omega : a + 1 < _)).1 (by omega)) (by rw [cat_3]; exact (scn_t c28 c57 (by unfold scK; rw [cI_t ⟨(show ltr (τ.1 3 a) ∨ dgt (τ.1 3 a) from Or.inl c73), c105⟩]) (cI_t (show ltr (τ.1 3 a) ∨ dgt (τ.1 3 a) from Or.inl c73))).symm.trans hE9) (by omega)
          · skip
            refine g_aload_n (pc' := 77) (j := 3) hC dX8_scan_76 rfl rfl rfl ?_
            refine gf_X8_0 (pc' := 80) hC wF_X8_9 dX8_scan_77 rfl ?_
            refine g_iload (pc' := 82) (j := 1) hC dX8_scan_80 rfl rfl ?_
            refine a_ldb (pc' := 83) (k := 3) (i := a) hC (by decide) (ct_3 g τ) (by omega) (by decide) dX8_scan_82 rfl ?_
            refine f_Si (pc' := 86) (st := []) hC (c_isDigit x.2.1 g z0 τ ((τ.1 3 a))) k_X8_isDigit wM_X8_51 (by decide) rfl rfl (Nat.le_of_ble_eq_true rfl) dX8_scan_83 rfl (Nat.zero_le _) (Nat.zero_le _) ?_
            refine b_if_eq (pc' := 89) (tgt := 93) hC dX8_scan_86 (by decide) rfl (fun c86 => ?_) (fun c86 => ?_)
            · skip
              refine g_iconst (pc' := 94) (v := nI 0) hC dX8_scan_93 rfl rfl ?_
              refine g_istore (pc' := 96) (lv' := [(6, .int (nI 0)), (5, .int (nI (max (a + 1) (eor (τ.1 3) a e)))), (4, .int (nI a)), (3, .int r), (0, .ref (g.2.1 2)), (2, .int (nI e))]) hC dX8_scan_94 rfl (by decide) rfl ?_
              refine g_aload_n (pc' := 97) (j := 4) hC dX8_scan_96 rfl rfl rfl ?_
              refine g_iload (pc' := 99) (j := 0) hC dX8_scan_97 rfl rfl ?_
              refine n_if_eq (pc' := 102) (tgt := 114) hC dX8_scan_99 (by decide) rfl (by omega) (fun c99 => ?_) (fun c99 => ?_)
              · skip
                refine g_aload_n (pc' := 115) (j := 4) hC dX8_scan_114 rfl rfl rfl ?_
                refine g_iload (pc' := 117) (j := 2) hC dX8_scan_115 rfl rfl ?_
                refine g_iload (pc' := 119) (j := 1) hC dX8_scan_117 rfl rfl ?_
                refine f_Ve (pc' := 122) (k := 2) (st := [.ref (g.2.1 2)]) hC (c_kindOf x.2.1 g z0 τ a ((max (a + 1) (eor (τ.1 3) a e))) (hK) (by omega) (by omega)) k_X8_kindOf wM_X8_58 (by decide) (by decide) (ct_2 g τ) rfl rfl rfl rfl (Nat.le_of_ble_eq_true rfl) dX8_scan_119 rfl (Nat.zero_le _) (Nat.zero_le _) ?_
                refine g_iload (pc' := 124) (j := 2) hC dX8_scan_122 rfl rfl ?_
                refine g_iload (pc' := 126) (j := 1) hC dX8_scan_124 rfl rfl ?_
                refine f_Vv (pc' := 129) (k := 2) (st := []) hC (c_addToken x.2.1 g z0 τ ((kdo (τ.1 3) a (max (a + 1) (eor (τ.1 3) a e)))) a ((max (a + 1) (eor (τ.1 3) a e))) (hK) (by first | exact kdo_lt _ _ _ | decide) (by omega) (by omega) (nb_le h3 (by omega))) k_X8_addToken wM_X8_62 (by decide) (by decide) (ct_2 g τ) rfl rfl rfl rfl (Nat.le_of_ble_eq_true rfl) dX8_scan_126 rfl (Nat.zero_le _) (Nat.zero_le _) ?_
                refine g_iload (pc' := 131) (j := 0) hC dX8_scan_129 rfl rfl ?_
                refine n_if_eq (pc' := 134) (tgt := 139) hC dX8_scan_131 (by decide) rfl (by omega) (fun c131 => ?_) (fun c131 => ?_)
                · skip
                  refine g_iconst (pc' := 140) (v := (-1)) hC dX8_scan_139 rfl rfl ?_
                  refine g_istore_n (pc' := 141) (lv' := [(3, .int ((-1))), (6, .int (nI 0)), (5, .int (nI (max (a + 1) (eor (τ.1 3) a e)))), (4, .int (nI a)), (0, .ref (g.2.1 2)), (2, .int (nI e))]) hC dX8_scan_140 rfl rfl (by decide) rfl ?_
                  refine g_iload (pc' := 143) (j := 2) hC dX8_scan_141 rfl rfl ?_
                  refine g_istore (pc' := 145) (lv' := [(4, .int (nI (max (a + 1) (eor (τ.1 3) a e)))), (3, .int ((-1))), (6, .int (nI 0)), (5, .int (nI (max (a + 1) (eor (τ.1 3) a e)))), (0, .ref (g.2.1 2)), (2, .int (nI e))]) hC dX8_scan_143 rfl (by decide) rfl ?_
                  refine g_goto (tgt := 25) hC dX8_scan_145 (by decide) ?_
                  have hEO := eor_ok (T := τ.1 3) (Nat.le_of_lt c28)
                  obtain ⟨f9, rfl⟩ : ∃ f9, f = f9 + 1 := ⟨f - 1, by omega⟩
                  refine gg_st (σ' := ((cat τ (kdo (τ.1 3) a (max (a + 1) (eor (τ.1 3) a e))) a (max (a + 1) (eor (τ.1 3) a e))))) (rfl) ?_
                  refine gg_lv (lv' := [(4, .int (nI (max (a + 1) (eor (τ.1 3) a e)))), (3, .int ((-1))), (0, .ref (g.2.1 2)), (2, .int (nI e))]) ?_ [0, 1, 4, 5] rfl
                  exact ih25 (max (a + 1) (eor (τ.1 3) a e)) ((-1)) f9 ((cat τ (kdo (τ.1 3) a (max (a + 1) (eor (τ.1 3) a e))) a (max (a + 1) (eor (τ.1 3) a e)))) (by omega) (by omega) (nb_le (cat_n (by have := h3.2; omega) (by omega : a + 1 < _)).1 (by omega)) (by rw [cat_3]; exact (scn_t c28 c57 (by unfold scK; rw [cI_f (fun z => z.1.elim c73 c86)]) (cI_f (fun z => z.elim c73 c86))).symm.trans hE9) (by omega)
                · skip
                  first | exact absurd c131 (by decide) | exact c131.elim
              · skip
                first | exact absurd c99 (by decide) | exact c99.elim
            · skip
              refine g_iconst (pc' := 90) (v := nI 1) hC dX8_scan_89 rfl rfl ?_
              refine g_goto (tgt := 94) hC dX8_scan_90 (by decide) ?_
              refine g_istore (pc' := 96) (lv' := [(6, .int (nI 1)), (5, .int (nI (max (a + 1) (eor (τ.1 3) a e)))), (4, .int (nI a)), (3, .int r), (0, .ref (g.2.1 2)), (2, .int (nI e))]) hC dX8_scan_94 rfl (by decide) rfl ?_
              refine g_aload_n (pc' := 97) (j := 4) hC dX8_scan_96 rfl rfl rfl ?_
              refine g_iload (pc' := 99) (j := 0) hC dX8_scan_97 rfl rfl ?_
              refine n_if_eq (pc' := 102) (tgt := 114) hC dX8_scan_99 (by decide) rfl (by omega) (fun c99 => ?_) (fun c99 => ?_)
              · skip
                first | exact absurd c99 (by decide) | exact c99.elim
              · skip
                refine g_iload (pc' := 104) (j := 2) hC dX8_scan_102 rfl rfl ?_
                refine g_iload_n (pc' := 105) (j := 3) hC dX8_scan_104 rfl rfl rfl ?_
                refine g_icmp_ne (pc' := 108) (tgt := 114) hC dX8_scan_105 (by decide) rfl (fun c105 => ?_) (fun c105 => ?_)
                · skip
                  refine g_aload_n (pc' := 115) (j := 4) hC dX8_scan_114 rfl rfl rfl ?_
                  refine g_iload (pc' := 117) (j := 2) hC dX8_scan_115 rfl rfl ?_
                  refine g_iload (pc' := 119) (j := 1) hC dX8_scan_117 rfl rfl ?_
                  refine f_Ve (pc' := 122) (k := 2) (st := [.ref (g.2.1 2)]) hC (c_kindOf x.2.1 g z0 τ a ((max (a + 1) (eor (τ.1 3) a e))) (hK) (by omega) (by omega)) k_X8_kindOf wM_X8_58 (by decide) (by decide) (ct_2 g τ) rfl rfl rfl rfl (Nat.le_of_ble_eq_true rfl) dX8_scan_119 rfl (Nat.zero_le _) (Nat.zero_le _) ?_
                  refine g_iload (pc' := 124) (j := 2) hC dX8_scan_122 rfl rfl ?_
                  refine g_iload (pc' := 126) (j := 1) hC dX8_scan_124 rfl rfl ?_
                  refine f_Vv (pc' := 129) (k := 2) (st := []) hC (c_addToken x.2.1 g z0 τ ((kdo (τ.1 3) a (max (a + 1) (eor (τ.1 3) a e)))) a ((max (a + 1) (eor (τ.1 3) a e))) (hK) (by first | exact kdo_lt _ _ _ | decide) (by omega) (by omega) (nb_le h3 (by omega))) k_X8_addToken wM_X8_62 (by decide) (by decide) (ct_2 g τ) rfl rfl rfl rfl (Nat.le_of_ble_eq_true rfl) dX8_scan_126 rfl (Nat.zero_le _) (Nat.zero_le _) ?_
                  refine g_iload (pc' := 131) (j := 0) hC dX8_scan_129 rfl rfl ?_
                  refine n_if_eq (pc' := 134) (tgt := 139) hC dX8_scan_131 (by decide) rfl (by omega) (fun c131 => ?_) (fun c131 => ?_)
                  · skip
                    first | exact absurd c131 (by decide) | exact c131.elim
                  · skip
                    refine g_iload (pc' := 136) (j := 1) hC dX8_scan_134 rfl rfl ?_
                    refine g_goto (tgt := 140) hC dX8_scan_136 (by decide) ?_
                    refine g_istore_n (pc' := 141) (lv' := [(3, .int (nI (max (a + 1) (eor (τ.1 3) a e)))), (6, .int (nI 1)), (5, .int (nI (max (a + 1) (eor (τ.1 3) a e)))), (4, .int (nI a)), (0, .ref (g.2.1 2)), (2, .int (nI e))]) hC dX8_scan_140 rfl rfl (by decide) rfl ?_
                    refine g_iload (pc' := 143) (j := 2) hC dX8_scan_141 rfl rfl ?_
                    refine g_istore (pc' := 145) (lv' := [(4, .int (nI (max (a + 1) (eor (τ.1 3) a e)))), (3, .int (nI (max (a + 1) (eor (τ.1 3) a e)))), (6, .int (nI 1)), (5, .int (nI (max (a + 1) (eor (τ.1 3) a e)))), (0, .ref (g.2.1 2)), (2, .int (nI e))]) hC dX8_scan_143 rfl (by decide) rfl ?_
                    refine g_goto (tgt := 25) hC dX8_scan_145 (by decide) ?_
                    have hEO := eor_ok (T := τ.1 3) (Nat.le_of_lt c28)
                    obtain ⟨f9, rfl⟩ : ∃ f9, f = f9 + 1 := ⟨f - 1, by omega⟩
                    refine gg_st (σ' := ((cat τ (kdo (τ.1 3) a (max (a + 1) (eor (τ.1 3) a e))) a (max (a + 1) (eor (τ.1 3) a e))))) (rfl) ?_
                    refine gg_lv (lv' := [(4, .int (nI (max (a + 1) (eor (τ.1 3) a e)))), (3, .int (nI (max (a + 1) (eor (τ.1 3) a e)))), (0, .ref (g.2.1 2)), (2, .int (nI e))]) ?_ [0, 1, 4, 5] rfl
                    exact ih25 (max (a + 1) (eor (τ.1 3) a e)) (nI (max (a + 1) (eor (τ.1 3) a e))) f9 ((cat τ (kdo (τ.1 3) a (max (a + 1) (eor (τ.1 3) a e))) a (max (a + 1) (eor (τ.1 3) a e)))) (by omega) (by omega) (nb_le (cat_n (by have := h3.2; omega) (by omega : a + 1 < _)).1 (by omega)) (by rw [cat_3]; exact (scn_t c28 c57 (by unfold scK; rw [cI_f (fun z => c105 z.2)]) (cI_t (show ltr (τ.1 3 a) ∨ dgt (τ.1 3 a) from Or.inr c86))).symm.trans hE9) (by omega)
                · skip
                  refine g_gsE (pc' := 111) (i := 1) hC hK (by decide) rfl wF_X8_54 dX8_scan_108 rfl ?_
                  refine g_goto (tgt := 122) hC dX8_scan_111 (by decide) ?_
                  refine g_iload (pc' := 124) (j := 2) hC dX8_scan_122 rfl rfl ?_
                  refine g_iload (pc' := 126) (j := 1) hC dX8_scan_124 rfl rfl ?_
                  refine f_Vv (pc' := 129) (k := 2) (st := []) hC (c_addToken x.2.1 g z0 τ 1 a ((max (a + 1) (eor (τ.1 3) a e))) (hK) (by first | exact kdo_lt _ _ _ | decide) (by omega) (by omega) (nb_le h3 (by omega))) k_X8_addToken wM_X8_62 (by decide) (by decide) (ct_2 g τ) rfl rfl rfl rfl (Nat.le_of_ble_eq_true rfl) dX8_scan_126 rfl (Nat.zero_le _) (Nat.zero_le _) ?_
                  refine g_iload (pc' := 131) (j := 0) hC dX8_scan_129 rfl rfl ?_
                  refine n_if_eq (pc' := 134) (tgt := 139) hC dX8_scan_131 (by decide) rfl (by omega) (fun c131 => ?_) (fun c131 => ?_)
                  · skip
                    first | exact absurd c131 (by decide) | exact c131.elim
                  · skip
                    refine g_iload (pc' := 136) (j := 1) hC dX8_scan_134 rfl rfl ?_
                    refine g_goto (tgt := 140) hC dX8_scan_136 (by decide) ?_
                    refine g_istore_n (pc' := 141) (lv' := [(3, .int (nI (max (a + 1) (eor (τ.1 3) a e)))), (6, .int (nI 1)), (5, .int (nI (max (a + 1) (eor (τ.1 3) a e)))), (4, .int (nI a)), (0, .ref (g.2.1 2)), (2, .int (nI e))]) hC dX8_scan_140 rfl rfl (by decide) rfl ?_
                    refine g_iload (pc' := 143) (j := 2) hC dX8_scan_141 rfl rfl ?_
                    refine g_istore (pc' := 145) (lv' := [(4, .int (nI (max (a + 1) (eor (τ.1 3) a e)))), (3, .int (nI (max (a + 1) (eor (τ.1 3) a e)))), (6, .int (nI 1)), (5, .int (nI (max (a + 1) (eor (τ.1 3) a e)))), (0, .ref (g.2.1 2)), (2, .int (nI e))]) hC dX8_scan_143 rfl (by decide) rfl ?_
                    refine g_goto (tgt := 25) hC dX8_scan_145 (by decide) ?_
                    have hEO := eor_ok (T := τ.1 3) (Nat.le_of_lt c28)
                    obtain ⟨f9, rfl⟩ : ∃ f9, f = f9 + 1 := ⟨f - 1, by omega⟩
                    refine gg_st (σ' := ((cat τ 1 a (max (a + 1) (eor (τ.1 3) a e))))) (rfl) ?_
                    refine gg_lv (lv' := [(4, .int (nI (max (a + 1) (eor (τ.1 3) a e)))), (3, .int (nI (max (a + 1) (eor (τ.1 3) a e)))), (0, .ref (g.2.1 2)), (2, .int (nI e))]) ?_ [0, 1, 4, 5] rfl
                    exact ih25 (max (a + 1) (eor (τ.1 3) a e)) (nI (max (a + 1) (eor (τ.1 3) a e))) f9 ((cat τ 1 a (max (a + 1) (eor (τ.1 3) a e)))) (by omega) (by omega) (nb_le (cat_n (by have := h3.2; omega) (by omega : a + 1 < _)).1 (by omega)) (by rw [cat_3]; exact (scn_t c28 c57 (by unfold scK; rw [cI_t ⟨(show ltr (τ.1 3 a) ∨ dgt (τ.1 3 a) from Or.inr c86), c105⟩]) (cI_t (show ltr (τ.1 3 a) ∨ dgt (τ.1 3 a) from Or.inr c86))).symm.trans hE9) (by omega)
        · skip
          refine g_goto (tgt := 141) hC dX8_scan_60 (by decide) ?_
          refine g_iload (pc' := 143) (j := 0) hC dX8_scan_141 rfl rfl ?_
          refine g_istore (pc' := 145) (lv' := [(4, .int (nI (max (a + 1) (eor (τ.1 3) a e)))), (5, .int (nI (max (a + 1) (eor (τ.1 3) a e)))), (3, .int r), (0, .ref (g.2.1 2)), (2, .int (nI e))]) hC dX8_scan_143 rfl (by decide) rfl ?_
          refine g_goto (tgt := 25) hC dX8_scan_145 (by decide) ?_
          have hEO := eor_ok (T := τ.1 3) (Nat.le_of_lt c28)
          obtain ⟨f9, rfl⟩ : ∃ f9, f = f9 + 1 := ⟨f - 1, by omega⟩
          refine gg_lv (lv' := [(4, .int (nI (max (a + 1) (eor (τ.1 3) a e)))), (3, .int r), (0, .ref (g.2.1 2)), (2, .int (nI e))]) ?_ [0, 2, 3, 4] rfl
          exact ih25 (max (a + 1) (eor (τ.1 3) a e)) r f9 τ (by omega) (by omega) (nb_le h3 (by omega)) ((scn_b c28 c57).symm.trans hE9) (by omega)
  refine gg_st (σ' := ((uv σ 2 4 (nI 0)))) (rfl) ?_
  refine gg_lv (lv' := [(4, .int (nI 0)), (3, .int ((-1))), (0, .ref (g.2.1 2)), (2, .int (nI e))]) ?_ [1, 2, 4, 3] rfl
  exact L25 (e - 0 + 1) 0 ((-1)) e ((uv σ 2 4 (nI 0))) (by omega) (by omega) ((nb_of (uv_same _ _ _ _) (Nat.le_refl _) (by decide)).1) (by rw [uv_fun _ _ _ (by decide)]) (by omega)
