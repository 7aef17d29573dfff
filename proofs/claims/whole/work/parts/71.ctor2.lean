/-- an array's first t places are filled with objects made one behind another, d cells each, from b0 on -/
def lS (g : Lay) (a tc N b0 d : Nat) (E : Nat → va_E) (z0 : Nat) (B : Nat → va_E) (t : Nat) : Nat → va_E := fun j =>
  if j = a then .inl (g.2.2.2.1 tc, N, qA (fun k => if k < t then some (z0 + (b0 + d * k)) else none)) else if b0 ≤ j ∧ j < b0 + d * t then E j else B j
theorem lS_a {g : Lay} {a tc N b0 d z0 t : Nat} {E B : Nat → va_E} : lS g a tc N b0 d E z0 B t a = .inl (g.2.2.2.1 tc, N, qA (fun k => if k < t then some (z0 + (b0 + d * k)) else none)) := if_pos rfl
theorem lS_o {g : Lay} {a tc N b0 d z0 t j : Nat} {E B : Nat → va_E} (h1 : j ≠ a) (h2 : ¬ (b0 ≤ j ∧ j < b0 + d * t)) : lS g a tc N b0 d E z0 B t j = B j := by
  unfold lS
  rw [if_neg h1, if_neg h2]
theorem lS_e {g : Lay} {a tc N b0 d z0 t j : Nat} {E B : Nat → va_E} (h1 : j ≠ a) (h2 : b0 ≤ j ∧ j < b0 + d * t) : lS g a tc N b0 d E z0 B t j = E j := by
  unfold lS
  rw [if_neg h1, if_pos h2]
theorem lS_step {g : Lay} {a tc N b0 d z0 t : Nat} {E B M : Nat → va_E} (ha : a < b0) (h1 : M a = .inl (g.2.2.2.1 tc, N, qA (va_up (fun k => if k < t then some (z0 + (b0 + d * k)) else none) t (some (z0 + (b0 + d * t)))))) (h2 : ∀ r, r < d → M (b0 + d * t + r) = E (b0 + d * t + r)) (h3 : ∀ j, j ≠ a → j < b0 + d * t → M j = lS g a tc N b0 d E z0 B t j) : ∀ j, j < b0 + d * (t + 1) → M j = lS g a tc N b0 d E z0 B (t + 1) j := by
  intro j hj
  have hm : b0 + d * (t + 1) = b0 + d * t + d := by rw [Nat.mul_succ]; omega
  by_cases q : j = a
  · subst q
    rw [h1, lS_a]
    have e : va_up (fun k => if k < t then some (z0 + (b0 + d * k)) else none) t (some (z0 + (b0 + d * t))) = fun k => if k < t + 1 then some (z0 + (b0 + d * k)) else none := by
      funext k
      unfold va_up
      by_cases hk : k = t
      · subst hk
        rw [if_pos rfl, if_pos (by omega)]
      · rw [if_neg hk]
        show (if k < t then _ else _) = _
        by_cases hk2 : k < t
        · rw [if_pos hk2, if_pos (by omega)]
        · rw [if_neg hk2, if_neg (by omega)]
    rw [e]
  · by_cases q2 : j < b0 + d * t
    · rw [h3 j q q2]
      by_cases q3 : b0 ≤ j
      · rw [lS_e q ⟨q3, q2⟩, lS_e q ⟨q3, by omega⟩]
      · rw [lS_o q (fun z => q3 z.1), lS_o q (fun z => q3 z.1)]
    · have := h2 (j - (b0 + d * t)) (by omega)
      rw [show b0 + d * t + (j - (b0 + d * t)) = j by omega] at this
      rw [this, lS_e q ⟨by omega, by omega⟩]
theorem lS_0 {g : Lay} {a tc N b0 d z0 : Nat} {E B : Nat → va_E} (h : B a = .inl (g.2.2.2.1 tc, N, qA (fun _ => none))) : ∀ j, B j = lS g a tc N b0 d E z0 B 0 j := by
  intro j
  by_cases q : j = a
  · subst q
    rw [h, lS_a]
    have e : (fun k => if k < 0 then some (z0 + (b0 + d * k)) else none) = fun _ => (none : Option Nat) := by
      funext k
      rw [if_neg (Nat.not_lt_zero _)]
    rw [e]
  · rw [lS_o q (by rw [Nat.mul_zero]; omega)]
def eP (g : Lay) (z0 j : Nat) : va_E := if j % 2 = 0 then .inr (5, [.ref (z0 + (j + 1)), .ref (g.2.2.1 0)]) else aI g 3
def eB (g : Lay) (z0 j : Nat) : va_E := if (j - 135) % 7 = 0 then .inr (0, [.ref (z0 + (j + 1)), .ref (z0 + (j + 2)), .ref (z0 + (j + 3)), .ref (z0 + (j + 4)), .ref (z0 + (j + 5)), .ref (z0 + (j + 6)), .int 0]) else if (j - 135) % 7 = 6 then .inl (g.2.2.2.1 0, 201, .inl (upd (fun _ => 0) 0 (nI 1))) else aI g 201
def eC (g : Lay) (z0 j : Nat) : va_E := if (j - 191) % 3 = 0 then .inr (1, [.ref (z0 + (j + 1)), .ref (z0 + (j + 2)), .int 0, .int 0, .int 0, .int 0]) else if (j - 191) % 3 = 1 then aI g 201 else aI g 6
def pB (g : Lay) (z0 : Nat) (S : Nat → va_E) : Nat → va_E := (us (us (us (us (us (us (us (us S 2 (.inr (6, [.null, .null, .null, .null, .int 0]))) 3 (.inl (g.2.2.2.1 1, 900, .inl (fun _ => 0)))) 4 (.inl (g.2.2.2.1 4, 901, qA (fun _ => none)))) 5 (aI g 901)) 6 (aI g 901)) 2 (.inr (6, [.ref (z0 + 3), .ref (z0 + 4), .ref (z0 + 5), .ref (z0 + 6), .int 0]))) 7 (.inl (g.2.2.2.1 7, 60, qA (fun _ => none)))) 1 (.inr (3, [.ref (z0 + 2), .ref (z0 + 7), .int 0, .int 0, .int 0, .int 0, .int 0, .int 0, .int ((-1))])))
def pF (g : Lay) (z0 : Nat) (S : Nat → va_E) : Nat → va_E := lS g 7 7 60 8 2 (eP g z0) z0 (pB g z0 S) 60
set_option maxHeartbeats 4000000 in
set_option maxRecDepth 20000 in
theorem n_X5 (l : Launch) (g : Lay) (z0 : Nat) {KA : KAd} (hK : GK g z0 KA) (hG2 : GX2 g) (S : Nat → va_E) (hS : S 1 = .inr (3, [.null, .null, .int 0, .int 0, .int 0, .int 0, .int 0, .int 0, .int 0])) : CN l yX5_init cX5_init 2 2 126 3968 g z0 [.ref (z0 + 1)] S 2 (pF g z0 S) 128 := by
  refine CN.of (by decide) rfl (Nat.le_of_ble_eq_true rfl) ?_
  intro x hxl hxa hC hR
  have hC : Cx x RX5 cX5_init 2 none 2 g z0 := hC
  show GN x g z0 2 0 0 _ S 2 0 [(0, .ref (z0 + 1))] []
  refine q_aload_n (pc' := 1) (j := 0) hC dX5_init_0 rfl rfl rfl ?_
  refine q_obj (pc' := 4) hC (by decide) w_oi_X5 (Nat.le_of_ble_eq_true rfl) dX5_init_1 rfl ?_
  refine q_aload_n (pc' := 5) (j := 0) hC dX5_init_4 rfl rfl rfl ?_
  refine q_new (pc' := 8) (ty := tyX8) (fs := [.null, .null, .null, .null, .int 0]) hC lay_X8 (ci := 6) rfl tyX8_ok w_cl_X5_9 w_in_X8 w_ini_X8 (fun j hj => by rcases (show j = 0 ∨ j = 1 ∨ j = 2 ∨ j = 3 ∨ j = 4 by omega) with rfl | rfl | rfl | rfl | rfl <;> rfl) (Nat.le_trans (m := 126) (by decide) hR.1.1) (Nat.le_trans (m := 3968) (Nat.le_of_ble_eq_true rfl) hR.1.2) dX5_init_5 rfl ?_
  refine q_dup (pc' := 9) hC dX5_init_8 rfl rfl ?_
  refine q_initN (pc' := 12) (st := [.ref (z0 + 2), .ref (z0 + 1)]) hC (n_X8 x.2.1 g z0 hG2 (us S 2 (.inr (6, [.null, .null, .null, .null, .int 0]))) 3 2 (by omega) (us_s _ _ _)) ki_X8 (hG2 _ _ hC.2.2.2.2.2.2.2.2.2).1 (by decide) rfl rfl (Nat.le_of_ble_eq_true rfl) dX5_init_9 rfl (Nat.le_trans (m := 126) (by decide) hR.1.1) (Nat.le_trans (m := 3968) (Nat.le_of_ble_eq_true rfl) hR.1.2) ?_
  refine q_put (pc' := 15) (C := RX5) (T := TX5) (N := 9) (ci := 3) (i := 1) (j := 0) (ty0 := tyX5) hC hR.2 lay_X5 rfl tyX5_ok nmX5 wF_X5_12 (by omega) ((us_o _ _ (by omega)).trans ((us_o _ _ (by omega)).trans ((us_o _ _ (by omega)).trans ((us_o _ _ (by omega)).trans ((us_o _ _ (by omega)).trans ((us_o _ _ (by omega)).trans (hS))))))) (by decide) (by first | exact Or.inl rfl | exact Or.inr ⟨rfl, rfl⟩) (tyX5_ok 0 (by decide)) rfl rfl (Nat.le_of_ble_eq_true rfl) dX5_init_12 rfl ?_
  refine qq_Se (S' := (us (us (us (us (us (us (us S 2 (.inr (6, [.null, .null, .null, .null, .int 0]))) 3 (.inl (g.2.2.2.1 1, 900, .inl (fun _ => 0)))) 4 (.inl (g.2.2.2.1 4, 901, qA (fun _ => none)))) 5 (aI g 901)) 6 (aI g 901)) 2 (.inr (6, [.ref (z0 + 3), .ref (z0 + 4), .ref (z0 + 5), .ref (z0 + 6), .int 0]))) 1 (.inr (3, [.ref (z0 + 2), .null, .int 0, .int 0, .int 0, .int 0, .int 0, .int 0, .int 0])))) (rfl) ?_
  refine q_aload_n (pc' := 16) (j := 0) hC dX5_init_15 rfl rfl rfl ?_
  refine q_bipush (pc' := 18) (v := nI 60) hC dX5_init_16 rfl rfl ?_
  refine q_newq (pc' := 21) (t := 7) (N := 60) hC w_cl_X5_18 (hG2 _ _ hC.2.2.2.2.2.2.2.2.2).2.2.2.2.1 rfl (by decide) (Nat.le_of_ble_eq_true rfl) (Nat.le_trans (m := 126) (by decide) hR.1.1) (Nat.le_trans (m := 3968) (Nat.le_of_ble_eq_true rfl) hR.1.2) dX5_init_18 rfl ?_
  refine qq_Se (S' := (us (us (us (us (us (us (us (us S 2 (.inr (6, [.null, .null, .null, .null, .int 0]))) 3 (.inl (g.2.2.2.1 1, 900, .inl (fun _ => 0)))) 4 (.inl (g.2.2.2.1 4, 901, qA (fun _ => none)))) 5 (aI g 901)) 6 (aI g 901)) 2 (.inr (6, [.ref (z0 + 3), .ref (z0 + 4), .ref (z0 + 5), .ref (z0 + 6), .int 0]))) 7 (.inl (g.2.2.2.1 7, 60, qA (fun _ => none)))) 1 (.inr (3, [.ref (z0 + 2), .null, .int 0, .int 0, .int 0, .int 0, .int 0, .int 0, .int 0])))) (us_comm (by omega)) ?_
  refine q_put (pc' := 24) (C := RX5) (T := TX5) (N := 9) (ci := 3) (i := 1) (j := 1) (ty0 := tyX5) hC hR.2 lay_X5 rfl tyX5_ok nmX5 wF_X5_20 (by omega) (us_s _ _ _) (by decide) (by first | exact Or.inl rfl | exact Or.inr ⟨rfl, rfl⟩) (tyX5_ok 1 (by decide)) rfl rfl (Nat.le_of_ble_eq_true rfl) dX5_init_21 rfl ?_
  refine qq_Se (S' := (us (us (us (us (us (us (us (us S 2 (.inr (6, [.null, .null, .null, .null, .int 0]))) 3 (.inl (g.2.2.2.1 1, 900, .inl (fun _ => 0)))) 4 (.inl (g.2.2.2.1 4, 901, qA (fun _ => none)))) 5 (aI g 901)) 6 (aI g 901)) 2 (.inr (6, [.ref (z0 + 3), .ref (z0 + 4), .ref (z0 + 5), .ref (z0 + 6), .int 0]))) 7 (.inl (g.2.2.2.1 7, 60, qA (fun _ => none)))) 1 (.inr (3, [.ref (z0 + 2), .ref (z0 + 7), .int 0, .int 0, .int 0, .int 0, .int 0, .int 0, .int 0])))) (us_us) ?_
  refine q_aload_n (pc' := 25) (j := 0) hC dX5_init_24 rfl rfl rfl ?_
  refine q_iconst (pc' := 26) (v := (-1)) hC dX5_init_25 rfl rfl ?_
  refine q_put (pc' := 29) (C := RX5) (T := TX5) (N := 9) (ci := 3) (i := 1) (j := 8) (ty0 := tyX5) hC hR.2 lay_X5 rfl tyX5_ok nmX5 wF_X5_24 (by omega) (us_s _ _ _) (by decide) (by first | exact Or.inl rfl | exact Or.inr ⟨rfl, rfl⟩) (tyX5_ok 8 (by decide)) rfl rfl (Nat.le_of_ble_eq_true rfl) dX5_init_26 rfl ?_
  refine qq_Se (S' := (us (us (us (us (us (us (us (us S 2 (.inr (6, [.null, .null, .null, .null, .int 0]))) 3 (.inl (g.2.2.2.1 1, 900, .inl (fun _ => 0)))) 4 (.inl (g.2.2.2.1 4, 901, qA (fun _ => none)))) 5 (aI g 901)) 6 (aI g 901)) 2 (.inr (6, [.ref (z0 + 3), .ref (z0 + 4), .ref (z0 + 5), .ref (z0 + 6), .int 0]))) 7 (.inl (g.2.2.2.1 7, 60, qA (fun _ => none)))) 1 (.inr (3, [.ref (z0 + 2), .ref (z0 + 7), .int 0, .int 0, .int 0, .int 0, .int 0, .int 0, .int ((-1))])))) (us_us) ?_
  refine q_iconst (pc' := 30) (v := nI 0) hC dX5_init_29 rfl rfl ?_
  refine q_istore_n (pc' := 31) (lv' := [(1, .int (nI 0)), (0, .ref (z0 + 1))]) hC dX5_init_30 rfl rfl (by decide) rfl ?_
  have hB1 : pB g z0 S 1 = .inr (3, [.ref (z0 + 2), .ref (z0 + 7), .int 0, .int 0, .int 0, .int 0, .int 0, .int 0, .int ((-1))]) := us_s _ _ _
  have hB7 : pB g z0 S 7 = .inl (g.2.2.2.1 7, 60, qA (fun _ => none)) := (us_o _ _ (by omega)).trans (us_s _ _ _)
  have L31 : ∀ (fu t : Nat), t ≤ 60 → 60 - t < fu → GN x g z0 2 (6 + 2 * t) (3668 + 5 * t) (QN x g z0 (pF g z0 S) 128 126 3968) (lS g 7 7 60 8 2 (eP g z0) z0 (pB g z0 S) t) (8 + 2 * t) 31 [(1, .int (nI t)), (0, .ref (z0 + 1))] [] := by
    intro fu
    induction fu with
    | zero => intro t ht hz; exact absurd hz (Nat.not_lt_zero _)
    | succ fu ih =>
      intro t ht hf
      refine q_iload_n (pc' := 32) (j := 0) hC dX5_init_31 rfl rfl rfl ?_
      refine q_bipush (pc' := 34) (v := nI 60) hC dX5_init_32 rfl rfl ?_
      refine qn_icmp_ge (pc' := 37) (tgt := 56) hC dX5_init_34 (by decide) rfl (by omega) (by decide) (fun c9 => ?_) (fun c9 => ?_)
      · have ht9 : t = 60 := by omega
        subst ht9
        exact q_ret hC dX5_init_56 rfl (fun _ _ => rfl)
      · skip
        refine q_aload_n (pc' := 38) (j := 1) hC dX5_init_37 rfl rfl rfl ?_
        refine q_get (pc' := 41) (C := RX5) (T := TX5) (N := 9) (ci := 3) (i := 1) (j := 1) hC lay_X5 rfl wF_X5_20 (by omega) ((lS_o (by omega) (by omega)).trans hB1) (by decide) rfl dX5_init_38 rfl ?_
        refine q_iload_n (pc' := 42) (j := 0) hC dX5_init_41 rfl rfl rfl ?_
        refine q_new (pc' := 45) (ty := tyX7) (fs := [.null, .null]) hC lay_X7 (ci := 5) rfl tyX7_ok w_cl_X5_18 w_in_X7 w_ini_X7 (fun j hj => by rcases (show j = 0 ∨ j = 1 by omega) with rfl | rfl <;> rfl) (Nat.le_trans (m := 126) (by omega) hR.1.1) (Nat.le_trans (m := 3968) (by omega) hR.1.2) dX5_init_42 rfl ?_
        refine q_dup (pc' := 46) hC dX5_init_45 rfl rfl ?_
        refine q_initN (pc' := 49) (st := [.ref (z0 + (8 + 2 * t)), .int (nI t), .ref (z0 + 7)]) hC (n_X7 x.2.1 g z0 hK (us (lS g 7 7 60 8 2 (eP g z0) z0 (pB g z0 S) t) (8 + 2 * t) (.inr (5, [.null, .null]))) (8 + 2 * t + 1) (8 + 2 * t) (by omega) (us_s _ _ _)) ki_X7 (hG2 _ _ hC.2.2.2.2.2.2.2.2.2).2.1 (by decide) rfl rfl (Nat.le_of_ble_eq_true rfl) dX5_init_46 rfl (Nat.le_trans (m := 126) (by omega) hR.1.1) (Nat.le_trans (m := 3968) (by omega) hR.1.2) ?_
        refine q_aast (pc' := 50) (i := 7) (j := t) (k := 8 + 2 * t) (t := 7) hC (by omega) ((us_o _ _ (by omega)).trans ((us_o _ _ (by omega)).trans ((us_o _ _ (by omega)).trans (lS_a)))) rfl (by omega) (us_s _ _ _) rfl (by omega) (by decide) dX5_init_49 rfl ?_
        refine q_iinc (pc' := 53) (j := 0) (u := nI (t + 1)) (lv' := [(1, .int (nI (t + 1))), (0, .ref (z0 + 1))]) hC dX5_init_50 rfl rfl (nI_add t 1) (by decide) rfl ?_
        refine q_goto (tgt := 31) hC dX5_init_53 (by decide) ?_
        refine qq_S (S' := lS g 7 7 60 8 2 (eP g z0) z0 (pB g z0 S) (t + 1)) (w' := 8 + 2 * (t + 1)) (m1 := 6 + 2 * (t + 1)) (m2 := 3668 + 5 * (t + 1)) (by omega) (by omega) (by omega) (fun j hj => lS_step (by decide) (us_s _ _ _) (fun r hr => by rcases (show r = 0 ∨ r = 1 by omega) with rfl | rfl; exact ((us_o _ _ (by omega)).trans (us_s _ _ _)).trans (by unfold eP; rw [if_pos (by omega)]); exact ((us_o _ _ (by omega)).trans ((us_o _ _ (by omega)).trans (us_s _ _ _))).trans (by unfold eP; rw [if_neg (by omega)])) (fun j9 h9 h8 => (us_o _ _ (by omega)).trans ((us_o _ _ (by omega)).trans ((us_o _ _ (by omega)).trans ((us_o _ _ (by omega)).trans (rfl))))) j (by omega)) ?_
        exact ih (t + 1) (by omega) (by omega)
  refine qq_S (S' := lS g 7 7 60 8 2 (eP g z0) z0 (pB g z0 S) 0) (w' := 8 + 2 * 0) (m1 := 6 + 2 * 0) (m2 := 3668 + 5 * 0) rfl rfl rfl (fun j _ => lS_0 hB7 j) ?_
  exact L31 (60 - 0 + 1) 0 (by omega) (by omega)
def sB (g : Lay) (z0 : Nat) (S : Nat → va_E) : Nat → va_E := (us (us (us (us (us (us (us (us (us (us (us S 129 (.inl (g.2.2.2.1 5, 8, qA (fun _ => none)))) 130 (.inl (g.2.2.2.1 6, 6, qA (fun _ => none)))) 128 (.inr (4, [.ref (z0 + 129), .ref (z0 + 130), .null, .null, .int 0, .int 0, .int 0, .int 0, .int 0]))) 131 (.inr (2, [.int 0, .int 0, .null, .int 0]))) 132 (aI g 360)) 131 (.inr (2, [.int (nI 60), .int (nI 6), .ref (z0 + 132), .int 0]))) 128 (.inr (4, [.ref (z0 + 129), .ref (z0 + 130), .ref (z0 + 131), .null, .int 0, .int 0, .int 0, .int 0, .int 0]))) 133 (.inr (2, [.int 0, .int 0, .null, .int 0]))) 134 (aI g 160)) 133 (.inr (2, [.int (nI 40), .int (nI 4), .ref (z0 + 134), .int 0]))) 128 (.inr (4, [.ref (z0 + 129), .ref (z0 + 130), .ref (z0 + 131), .ref (z0 + 133), .int 0, .int 0, .int 0, .int (nI 1), .int (nI 1)])))
def sD (g : Lay) (z0 : Nat) (S : Nat → va_E) : Nat → va_E := lS g 129 5 8 135 7 (eB g z0) z0 (sB g z0 S) 8
def sF (g : Lay) (z0 : Nat) (S : Nat → va_E) : Nat → va_E := lS g 130 6 6 191 3 (eC g z0) z0 (sD g z0 S) 6
set_option maxHeartbeats 4000000 in
set_option maxRecDepth 20000 in
theorem n_X6 (l : Launch) (g : Lay) (z0 : Nat) (hG2 : GX2 g) (S : Nat → va_E) (hS : S 128 = .inr (4, [.null, .null, .null, .null, .int 0, .int 0, .int 0, .int 0, .int 0])) : CN l yX6_init cX6_init 2 2 80 11524 g z0 [.ref (z0 + 128)] S 129 (sF g z0 S) 209 := by
  refine CN.of (by decide) rfl (Nat.le_of_ble_eq_true rfl) ?_
  intro x hxl hxa hC hR
  have hC : Cx x RX6 cX6_init 2 none 2 g z0 := hC
  show GN x g z0 2 0 0 _ S 129 0 [(0, .ref (z0 + 128))] []
  refine q_aload_n (pc' := 1) (j := 0) hC dX6_init_0 rfl rfl rfl ?_
  refine q_obj (pc' := 4) hC (by decide) w_oi_X6 (Nat.le_of_ble_eq_true rfl) dX6_init_1 rfl ?_
  refine q_aload_n (pc' := 5) (j := 0) hC dX6_init_4 rfl rfl rfl ?_
  refine q_bipush (pc' := 7) (v := nI 8) hC dX6_init_5 rfl rfl ?_
  refine q_newq (pc' := 10) (t := 5) (N := 8) hC w_cl_X6_9 (hG2 _ _ hC.2.2.2.2.2.2.2.2.2).2.2.2.2.2.1 rfl (by decide) (Nat.le_of_ble_eq_true rfl) (Nat.le_trans (m := 80) (by decide) hR.1.1) (Nat.le_trans (m := 11524) (Nat.le_of_ble_eq_true rfl) hR.1.2) dX6_init_7 rfl ?_
  refine q_put (pc' := 13) (C := RX6) (T := TX6) (N := 9) (ci := 4) (i := 128) (j := 0) (ty0 := tyX6) hC hR.2 lay_X6 rfl tyX6_ok nmX6 wF_X6_11 (by omega) ((us_o _ _ (by omega)).trans (hS)) (by decide) (by first | exact Or.inl rfl | exact Or.inr ⟨rfl, rfl⟩) (tyX6_ok 0 (by decide)) rfl rfl (Nat.le_of_ble_eq_true rfl) dX6_init_10 rfl ?_
  refine qq_Se (S' := (us (us S 129 (.inl (g.2.2.2.1 5, 8, qA (fun _ => none)))) 128 (.inr (4, [.ref (z0 + 129), .null, .null, .null, .int 0, .int 0, .int 0, .int 0, .int 0])))) (rfl) ?_
  refine q_aload_n (pc' := 14) (j := 0) hC dX6_init_13 rfl rfl rfl ?_
  refine q_bipush (pc' := 16) (v := nI 6) hC dX6_init_14 rfl rfl ?_
  refine q_newq (pc' := 19) (t := 6) (N := 6) hC w_cl_X6_17 (hG2 _ _ hC.2.2.2.2.2.2.2.2.2).2.2.2.2.2.2 rfl (by decide) (Nat.le_of_ble_eq_true rfl) (Nat.le_trans (m := 80) (by decide) hR.1.1) (Nat.le_trans (m := 11524) (Nat.le_of_ble_eq_true rfl) hR.1.2) dX6_init_16 rfl ?_
  refine qq_Se (S' := (us (us (us S 129 (.inl (g.2.2.2.1 5, 8, qA (fun _ => none)))) 130 (.inl (g.2.2.2.1 6, 6, qA (fun _ => none)))) 128 (.inr (4, [.ref (z0 + 129), .null, .null, .null, .int 0, .int 0, .int 0, .int 0, .int 0])))) (us_comm (by omega)) ?_
  refine q_put (pc' := 22) (C := RX6) (T := TX6) (N := 9) (ci := 4) (i := 128) (j := 1) (ty0 := tyX6) hC hR.2 lay_X6 rfl tyX6_ok nmX6 wF_X6_19 (by omega) (us_s _ _ _) (by decide) (by first | exact Or.inl rfl | exact Or.inr ⟨rfl, rfl⟩) (tyX6_ok 1 (by decide)) rfl rfl (Nat.le_of_ble_eq_true rfl) dX6_init_19 rfl ?_
  refine qq_Se (S' := (us (us (us S 129 (.inl (g.2.2.2.1 5, 8, qA (fun _ => none)))) 130 (.inl (g.2.2.2.1 6, 6, qA (fun _ => none)))) 128 (.inr (4, [.ref (z0 + 129), .ref (z0 + 130), .null, .null, .int 0, .int 0, .int 0, .int 0, .int 0])))) (us_us) ?_
  refine q_aload_n (pc' := 23) (j := 0) hC dX6_init_22 rfl rfl rfl ?_
  refine q_new (pc' := 26) (ty := tyX4) (fs := [.int 0, .int 0, .null, .int 0]) hC lay_X4 (ci := 2) rfl tyX4_ok w_cl_X6_23 w_in_X4 w_ini_X4 (fun j hj => by rcases (show j = 0 ∨ j = 1 ∨ j = 2 ∨ j = 3 by omega) with rfl | rfl | rfl | rfl <;> rfl) (Nat.le_trans (m := 80) (by decide) hR.1.1) (Nat.le_trans (m := 11524) (Nat.le_of_ble_eq_true rfl) hR.1.2) dX6_init_23 rfl ?_
  refine q_dup (pc' := 27) hC dX6_init_26 rfl rfl ?_
  refine q_bipush (pc' := 29) (v := nI 60) hC dX6_init_27 rfl rfl ?_
  refine q_bipush (pc' := 31) (v := nI 6) hC dX6_init_29 rfl rfl ?_
  refine q_init (pc' := 34) (st := [.ref (z0 + 131), .ref (z0 + 128)]) hC (n_X4a x.2.1 g z0 (us (us (us (us S 129 (.inl (g.2.2.2.1 5, 8, qA (fun _ => none)))) 130 (.inl (g.2.2.2.1 6, 6, qA (fun _ => none)))) 128 (.inr (4, [.ref (z0 + 129), .ref (z0 + 130), .null, .null, .int 0, .int 0, .int 0, .int 0, .int 0]))) 131 (.inr (2, [.int 0, .int 0, .null, .int 0]))) 132 131 (by omega) (us_s _ _ _)) ki_X4 w_li_X6_25 (by decide) rfl rfl (Nat.le_of_ble_eq_true rfl) dX6_init_31 rfl (Nat.le_trans (m := 80) (by decide) hR.1.1) (Nat.le_trans (m := 11524) (Nat.le_of_ble_eq_true rfl) hR.1.2) ?_
  refine q_put (pc' := 37) (C := RX6) (T := TX6) (N := 9) (ci := 4) (i := 128) (j := 2) (ty0 := tyX6) hC hR.2 lay_X6 rfl tyX6_ok nmX6 wF_X6_28 (by omega) ((us_o _ _ (by omega)).trans ((us_o _ _ (by omega)).trans ((us_o _ _ (by omega)).trans (us_s _ _ _)))) (by decide) (by first | exact Or.inl rfl | exact Or.inr ⟨rfl, rfl⟩) (tyX6_ok 2 (by decide)) rfl rfl (Nat.le_of_ble_eq_true rfl) dX6_init_34 rfl ?_
  refine qq_Se (S' := (us (us (us (us (us (us (us S 129 (.inl (g.2.2.2.1 5, 8, qA (fun _ => none)))) 130 (.inl (g.2.2.2.1 6, 6, qA (fun _ => none)))) 128 (.inr (4, [.ref (z0 + 129), .ref (z0 + 130), .null, .null, .int 0, .int 0, .int 0, .int 0, .int 0]))) 131 (.inr (2, [.int 0, .int 0, .null, .int 0]))) 132 (aI g 360)) 131 (.inr (2, [.int (nI 60), .int (nI 6), .ref (z0 + 132), .int 0]))) 128 (.inr (4, [.ref (z0 + 129), .ref (z0 + 130), .ref (z0 + 131), .null, .int 0, .int 0, .int 0, .int 0, .int 0])))) (rfl) ?_
  refine q_aload_n (pc' := 38) (j := 0) hC dX6_init_37 rfl rfl rfl ?_
  refine q_new (pc' := 41) (ty := tyX4) (fs := [.int 0, .int 0, .null, .int 0]) hC lay_X4 (ci := 2) rfl tyX4_ok w_cl_X6_23 w_in_X4 w_ini_X4 (fun j hj => by rcases (show j = 0 ∨ j = 1 ∨ j = 2 ∨ j = 3 by omega) with rfl | rfl | rfl | rfl <;> rfl) (Nat.le_trans (m := 80) (by decide) hR.1.1) (Nat.le_trans (m := 11524) (Nat.le_of_ble_eq_true rfl) hR.1.2) dX6_init_38 rfl ?_
  refine q_dup (pc' := 42) hC dX6_init_41 rfl rfl ?_
  refine q_bipush (pc' := 44) (v := nI 40) hC dX6_init_42 rfl rfl ?_
  refine q_iconst (pc' := 45) (v := nI 4) hC dX6_init_44 rfl rfl ?_
  refine q_init (pc' := 48) (st := [.ref (z0 + 133), .ref (z0 + 128)]) hC (n_X4b x.2.1 g z0 (us (us (us (us (us (us (us (us S 129 (.inl (g.2.2.2.1 5, 8, qA (fun _ => none)))) 130 (.inl (g.2.2.2.1 6, 6, qA (fun _ => none)))) 128 (.inr (4, [.ref (z0 + 129), .ref (z0 + 130), .null, .null, .int 0, .int 0, .int 0, .int 0, .int 0]))) 131 (.inr (2, [.int 0, .int 0, .null, .int 0]))) 132 (aI g 360)) 131 (.inr (2, [.int (nI 60), .int (nI 6), .ref (z0 + 132), .int 0]))) 128 (.inr (4, [.ref (z0 + 129), .ref (z0 + 130), .ref (z0 + 131), .null, .int 0, .int 0, .int 0, .int 0, .int 0]))) 133 (.inr (2, [.int 0, .int 0, .null, .int 0]))) 134 133 (by omega) (us_s _ _ _)) ki_X4 w_li_X6_25 (by decide) rfl rfl (Nat.le_of_ble_eq_true rfl) dX6_init_45 rfl (Nat.le_trans (m := 80) (by decide) hR.1.1) (Nat.le_trans (m := 11524) (Nat.le_of_ble_eq_true rfl) hR.1.2) ?_
  refine q_put (pc' := 51) (C := RX6) (T := TX6) (N := 9) (ci := 4) (i := 128) (j := 3) (ty0 := tyX6) hC hR.2 lay_X6 rfl tyX6_ok nmX6 wF_X6_32 (by omega) ((us_o _ _ (by omega)).trans ((us_o _ _ (by omega)).trans ((us_o _ _ (by omega)).trans (us_s _ _ _)))) (by decide) (by first | exact Or.inl rfl | exact Or.inr ⟨rfl, rfl⟩) (tyX6_ok 3 (by decide)) rfl rfl (Nat.le_of_ble_eq_true rfl) dX6_init_48 rfl ?_
  refine qq_Se (S' := (us (us (us (us (us (us (us (us (us (us (us S 129 (.inl (g.2.2.2.1 5, 8, qA (fun _ => none)))) 130 (.inl (g.2.2.2.1 6, 6, qA (fun _ => none)))) 128 (.inr (4, [.ref (z0 + 129), .ref (z0 + 130), .null, .null, .int 0, .int 0, .int 0, .int 0, .int 0]))) 131 (.inr (2, [.int 0, .int 0, .null, .int 0]))) 132 (aI g 360)) 131 (.inr (2, [.int (nI 60), .int (nI 6), .ref (z0 + 132), .int 0]))) 128 (.inr (4, [.ref (z0 + 129), .ref (z0 + 130), .ref (z0 + 131), .null, .int 0, .int 0, .int 0, .int 0, .int 0]))) 133 (.inr (2, [.int 0, .int 0, .null, .int 0]))) 134 (aI g 160)) 133 (.inr (2, [.int (nI 40), .int (nI 4), .ref (z0 + 134), .int 0]))) 128 (.inr (4, [.ref (z0 + 129), .ref (z0 + 130), .ref (z0 + 131), .ref (z0 + 133), .int 0, .int 0, .int 0, .int 0, .int 0])))) (rfl) ?_
  refine q_aload_n (pc' := 52) (j := 0) hC dX6_init_51 rfl rfl rfl ?_
  refine q_iconst (pc' := 53) (v := nI 1) hC dX6_init_52 rfl rfl ?_
  refine q_put (pc' := 56) (C := RX6) (T := TX6) (N := 9) (ci := 4) (i := 128) (j := 7) (ty0 := tyX6) hC hR.2 lay_X6 rfl tyX6_ok nmX6 wF_X6_35 (by omega) (us_s _ _ _) (by decide) (by first | exact Or.inl rfl | exact Or.inr ⟨rfl, rfl⟩) (tyX6_ok 7 (by decide)) rfl rfl (Nat.le_of_ble_eq_true rfl) dX6_init_53 rfl ?_
  refine qq_Se (S' := (us (us (us (us (us (us (us (us (us (us (us S 129 (.inl (g.2.2.2.1 5, 8, qA (fun _ => none)))) 130 (.inl (g.2.2.2.1 6, 6, qA (fun _ => none)))) 128 (.inr (4, [.ref (z0 + 129), .ref (z0 + 130), .null, .null, .int 0, .int 0, .int 0, .int 0, .int 0]))) 131 (.inr (2, [.int 0, .int 0, .null, .int 0]))) 132 (aI g 360)) 131 (.inr (2, [.int (nI 60), .int (nI 6), .ref (z0 + 132), .int 0]))) 128 (.inr (4, [.ref (z0 + 129), .ref (z0 + 130), .ref (z0 + 131), .null, .int 0, .int 0, .int 0, .int 0, .int 0]))) 133 (.inr (2, [.int 0, .int 0, .null, .int 0]))) 134 (aI g 160)) 133 (.inr (2, [.int (nI 40), .int (nI 4), .ref (z0 + 134), .int 0]))) 128 (.inr (4, [.ref (z0 + 129), .ref (z0 + 130), .ref (z0 + 131), .ref (z0 + 133), .int 0, .int 0, .int 0, .int (nI 1), .int 0])))) (us_us) ?_
  refine q_aload_n (pc' := 57) (j := 0) hC dX6_init_56 rfl rfl rfl ?_
  refine q_iconst (pc' := 58) (v := nI 1) hC dX6_init_57 rfl rfl ?_
  refine q_put (pc' := 61) (C := RX6) (T := TX6) (N := 9) (ci := 4) (i := 128) (j := 8) (ty0 := tyX6) hC hR.2 lay_X6 rfl tyX6_ok nmX6 wF_X6_39 (by omega) (us_s _ _ _) (by decide) (by first | exact Or.inl rfl | exact Or.inr ⟨rfl, rfl⟩) (tyX6_ok 8 (by decide)) rfl rfl (Nat.le_of_ble_eq_true rfl) dX6_init_58 rfl ?_
  refine qq_Se (S' := (us (us (us (us (us (us (us (us (us (us (us S 129 (.inl (g.2.2.2.1 5, 8, qA (fun _ => none)))) 130 (.inl (g.2.2.2.1 6, 6, qA (fun _ => none)))) 128 (.inr (4, [.ref (z0 + 129), .ref (z0 + 130), .null, .null, .int 0, .int 0, .int 0, .int 0, .int 0]))) 131 (.inr (2, [.int 0, .int 0, .null, .int 0]))) 132 (aI g 360)) 131 (.inr (2, [.int (nI 60), .int (nI 6), .ref (z0 + 132), .int 0]))) 128 (.inr (4, [.ref (z0 + 129), .ref (z0 + 130), .ref (z0 + 131), .null, .int 0, .int 0, .int 0, .int 0, .int 0]))) 133 (.inr (2, [.int 0, .int 0, .null, .int 0]))) 134 (aI g 160)) 133 (.inr (2, [.int (nI 40), .int (nI 4), .ref (z0 + 134), .int 0]))) 128 (.inr (4, [.ref (z0 + 129), .ref (z0 + 130), .ref (z0 + 131), .ref (z0 + 133), .int 0, .int 0, .int 0, .int (nI 1), .int (nI 1)])))) (us_us) ?_
  refine q_iconst (pc' := 62) (v := nI 0) hC dX6_init_61 rfl rfl ?_
  refine q_istore_n (pc' := 63) (lv' := [(1, .int (nI 0)), (0, .ref (z0 + 128))]) hC dX6_init_62 rfl rfl (by decide) rfl ?_
  have hB1 : sB g z0 S 128 = .inr (4, [.ref (z0 + 129), .ref (z0 + 130), .ref (z0 + 131), .ref (z0 + 133), .int 0, .int 0, .int 0, .int (nI 1), .int (nI 1)]) := us_s _ _ _
  have hB9 : sB g z0 S 129 = .inl (g.2.2.2.1 5, 8, qA (fun _ => none)) := (us_o _ _ (by omega)).trans ((us_o _ _ (by omega)).trans ((us_o _ _ (by omega)).trans ((us_o _ _ (by omega)).trans ((us_o _ _ (by omega)).trans ((us_o _ _ (by omega)).trans ((us_o _ _ (by omega)).trans ((us_o _ _ (by omega)).trans ((us_o _ _ (by omega)).trans ((us_o _ _ (by omega)).trans (us_s _ _ _))))))))))
  have hB10 : sB g z0 S 130 = .inl (g.2.2.2.1 6, 6, qA (fun _ => none)) := (us_o _ _ (by omega)).trans ((us_o _ _ (by omega)).trans ((us_o _ _ (by omega)).trans ((us_o _ _ (by omega)).trans ((us_o _ _ (by omega)).trans ((us_o _ _ (by omega)).trans ((us_o _ _ (by omega)).trans ((us_o _ _ (by omega)).trans ((us_o _ _ (by omega)).trans (us_s _ _ _)))))))))
  have hD1 : sD g z0 S 128 = .inr (4, [.ref (z0 + 129), .ref (z0 + 130), .ref (z0 + 131), .ref (z0 + 133), .int 0, .int 0, .int 0, .int (nI 1), .int (nI 1)]) := (lS_o (by omega) (by omega)).trans hB1
  have hD10 : sD g z0 S 130 = .inl (g.2.2.2.1 6, 6, qA (fun _ => none)) := (lS_o (by omega) (by omega)).trans hB10
  have L90 : ∀ (fu t : Nat), t ≤ 6 → 6 - t < fu → GN x g z0 2 (62 + 3 * t) (10246 + 213 * t) (QN x g z0 (sF g z0 S) 209 80 11524) (lS g 130 6 6 191 3 (eC g z0) z0 (sD g z0 S) t) (191 + 3 * t) 90 [(1, .int (nI t)), (0, .ref (z0 + 128))] [] := by
    intro fu
    induction fu with
    | zero => intro t ht hz; exact absurd hz (Nat.not_lt_zero _)
    | succ fu ih =>
      intro t ht hf
      refine q_iload_n (pc' := 91) (j := 0) hC dX6_init_90 rfl rfl rfl ?_
      refine q_bipush (pc' := 93) (v := nI 6) hC dX6_init_91 rfl rfl ?_
      refine qn_icmp_ge (pc' := 96) (tgt := 115) hC dX6_init_93 (by decide) rfl (by omega) (by decide) (fun c9 => ?_) (fun c9 => ?_)
      · have ht9 : t = 6 := by omega
        subst ht9
        exact q_ret hC dX6_init_115 rfl (fun _ _ => rfl)
      · skip
        refine q_aload_n (pc' := 97) (j := 1) hC dX6_init_96 rfl rfl rfl ?_
        refine q_get (pc' := 100) (C := RX6) (T := TX6) (N := 9) (ci := 4) (i := 128) (j := 1) hC lay_X6 rfl wF_X6_19 (by omega) ((lS_o (by omega) (by omega)).trans hD1) (by decide) rfl dX6_init_97 rfl ?_
        refine q_iload_n (pc' := 101) (j := 0) hC dX6_init_100 rfl rfl rfl ?_
        refine q_new (pc' := 104) (ty := tyX2) (fs := [.null, .null, .int 0, .int 0, .int 0, .int 0]) hC lay_X2 (ci := 1) rfl tyX2_ok w_cl_X6_17 w_in_X2 w_ini_X2 (fun j hj => by rcases (show j = 0 ∨ j = 1 ∨ j = 2 ∨ j = 3 ∨ j = 4 ∨ j = 5 by omega) with rfl | rfl | rfl | rfl | rfl | rfl <;> rfl) (Nat.le_trans (m := 80) (by omega) hR.1.1) (Nat.le_trans (m := 11524) (by omega) hR.1.2) dX6_init_101 rfl ?_
        refine q_dup (pc' := 105) hC dX6_init_104 rfl rfl ?_
        refine q_initN (pc' := 108) (st := [.ref (z0 + (191 + 3 * t)), .int (nI t), .ref (z0 + 130)]) hC (n_X2 x.2.1 g z0 (us (lS g 130 6 6 191 3 (eC g z0) z0 (sD g z0 S) t) (191 + 3 * t) (.inr (1, [.null, .null, .int 0, .int 0, .int 0, .int 0]))) (191 + 3 * t + 1) (191 + 3 * t) (by omega) (us_s _ _ _)) ki_X2 (hG2 _ _ hC.2.2.2.2.2.2.2.2.2).2.2.1 (by decide) rfl rfl (Nat.le_of_ble_eq_true rfl) dX6_init_105 rfl (Nat.le_trans (m := 80) (by omega) hR.1.1) (Nat.le_trans (m := 11524) (by omega) hR.1.2) ?_
        refine q_aast (pc' := 109) (i := 130) (j := t) (k := 191 + 3 * t) (t := 6) hC (by omega) ((us_o _ _ (by omega)).trans ((us_o _ _ (by omega)).trans ((us_o _ _ (by omega)).trans ((us_o _ _ (by omega)).trans (lS_a))))) rfl (by omega) (us_s _ _ _) rfl (by omega) (by decide) dX6_init_108 rfl ?_
        refine q_iinc (pc' := 112) (j := 0) (u := nI (t + 1)) (lv' := [(1, .int (nI (t + 1))), (0, .ref (z0 + 128))]) hC dX6_init_109 rfl rfl (nI_add t 1) (by decide) rfl ?_
        refine q_goto (tgt := 90) hC dX6_init_112 (by decide) ?_
        refine qq_S (S' := lS g 130 6 6 191 3 (eC g z0) z0 (sD g z0 S) (t + 1)) (w' := 191 + 3 * (t + 1)) (m1 := 62 + 3 * (t + 1)) (m2 := 10246 + 213 * (t + 1)) (by omega) (by omega) (by omega) (fun j hj => lS_step (by decide) (us_s _ _ _) (fun r hr => by rcases (show r = 0 ∨ r = 1 ∨ r = 2 by omega) with rfl | rfl | rfl; exact ((us_o _ _ (by omega)).trans (us_s _ _ _)).trans (by unfold eC; rw [if_pos (by omega)]); exact ((us_o _ _ (by omega)).trans ((us_o _ _ (by omega)).trans ((us_o _ _ (by omega)).trans (us_s _ _ _)))).trans (by unfold eC; rw [if_neg (by omega), if_pos (by omega)]); exact ((us_o _ _ (by omega)).trans ((us_o _ _ (by omega)).trans (us_s _ _ _))).trans (by unfold eC; rw [if_neg (by omega), if_neg (by omega)])) (fun j9 h9 h8 => (us_o _ _ (by omega)).trans ((us_o _ _ (by omega)).trans ((us_o _ _ (by omega)).trans ((us_o _ _ (by omega)).trans ((us_o _ _ (by omega)).trans (rfl)))))) j (by omega)) ?_
        exact ih (t + 1) (by omega) (by omega)
  have L63 : ∀ (fu t : Nat), t ≤ 8 → 8 - t < fu → GN x g z0 2 (6 + 7 * t) (542 + 1213 * t) (QN x g z0 (sF g z0 S) 209 80 11524) (lS g 129 5 8 135 7 (eB g z0) z0 (sB g z0 S) t) (135 + 7 * t) 63 [(1, .int (nI t)), (0, .ref (z0 + 128))] [] := by
    intro fu
    induction fu with
    | zero => intro t ht hz; exact absurd hz (Nat.not_lt_zero _)
    | succ fu ih =>
      intro t ht hf
      refine q_iload_n (pc' := 64) (j := 0) hC dX6_init_63 rfl rfl rfl ?_
      refine q_bipush (pc' := 66) (v := nI 8) hC dX6_init_64 rfl rfl ?_
      refine qn_icmp_ge (pc' := 69) (tgt := 88) hC dX6_init_66 (by decide) rfl (by omega) (by decide) (fun c9 => ?_) (fun c9 => ?_)
      · have ht9 : t = 8 := by omega
        subst ht9
        refine q_iconst (pc' := 89) (v := nI 0) hC dX6_init_88 rfl rfl ?_
        refine q_istore_n (pc' := 90) (lv' := [(1, .int (nI 0)), (0, .ref (z0 + 128))]) hC dX6_init_89 rfl rfl (by decide) rfl ?_
        refine qq_S (S' := lS g 130 6 6 191 3 (eC g z0) z0 (sD g z0 S) 0) (w' := 191 + 3 * 0) (m1 := 62 + 3 * 0) (m2 := 10246 + 213 * 0) rfl rfl rfl (fun j _ => lS_0 hD10 j) ?_
        exact L90 (6 - 0 + 1) 0 (by omega) (by omega)
      · skip
        refine q_aload_n (pc' := 70) (j := 1) hC dX6_init_69 rfl rfl rfl ?_
        refine q_get (pc' := 73) (C := RX6) (T := TX6) (N := 9) (ci := 4) (i := 128) (j := 0) hC lay_X6 rfl wF_X6_11 (by omega) ((lS_o (by omega) (by omega)).trans hB1) (by decide) rfl dX6_init_70 rfl ?_
        refine q_iload_n (pc' := 74) (j := 0) hC dX6_init_73 rfl rfl rfl ?_
        refine q_new (pc' := 77) (ty := tyX1) (fs := [.null, .null, .null, .null, .null, .null, .int 0]) hC lay_X1 (ci := 0) rfl tyX1_ok w_cl_X6_9 w_in_X1 w_ini_X1 (fun j hj => by rcases (show j = 0 ∨ j = 1 ∨ j = 2 ∨ j = 3 ∨ j = 4 ∨ j = 5 ∨ j = 6 by omega) with rfl | rfl | rfl | rfl | rfl | rfl | rfl <;> rfl) (Nat.le_trans (m := 80) (by omega) hR.1.1) (Nat.le_trans (m := 11524) (by omega) hR.1.2) dX6_init_74 rfl ?_
        refine q_dup (pc' := 78) hC dX6_init_77 rfl rfl ?_
        refine q_init (pc' := 81) (st := [.ref (z0 + (135 + 7 * t)), .int (nI t), .ref (z0 + 129)]) hC (n_X1 x.2.1 g z0 (us (lS g 129 5 8 135 7 (eB g z0) z0 (sB g z0 S) t) (135 + 7 * t) (.inr (0, [.null, .null, .null, .null, .null, .null, .int 0]))) (135 + 7 * t + 1) (135 + 7 * t) (by omega) (us_s _ _ _)) ki_X1 w_li_X6_42 (by decide) rfl rfl (Nat.le_of_ble_eq_true rfl) dX6_init_78 rfl (Nat.le_trans (m := 80) (by omega) hR.1.1) (Nat.le_trans (m := 11524) (by omega) hR.1.2) ?_
        refine q_aast (pc' := 82) (i := 129) (j := t) (k := 135 + 7 * t) (t := 5) hC (by omega) ((us_o _ _ (by omega)).trans ((us_o _ _ (by omega)).trans ((us_o _ _ (by omega)).trans ((us_o _ _ (by omega)).trans ((us_o _ _ (by omega)).trans ((us_o _ _ (by omega)).trans ((us_o _ _ (by omega)).trans ((us_o _ _ (by omega)).trans (lS_a))))))))) rfl (by omega) (us_s _ _ _) rfl (by omega) (by decide) dX6_init_81 rfl ?_
        refine q_iinc (pc' := 85) (j := 0) (u := nI (t + 1)) (lv' := [(1, .int (nI (t + 1))), (0, .ref (z0 + 128))]) hC dX6_init_82 rfl rfl (nI_add t 1) (by decide) rfl ?_
        refine q_goto (tgt := 63) hC dX6_init_85 (by decide) ?_
        refine qq_S (S' := lS g 129 5 8 135 7 (eB g z0) z0 (sB g z0 S) (t + 1)) (w' := 135 + 7 * (t + 1)) (m1 := 6 + 7 * (t + 1)) (m2 := 542 + 1213 * (t + 1)) (by omega) (by omega) (by omega) (fun j hj => lS_step (by decide) (us_s _ _ _) (fun r hr => by rcases (show r = 0 ∨ r = 1 ∨ r = 2 ∨ r = 3 ∨ r = 4 ∨ r = 5 ∨ r = 6 by omega) with rfl | rfl | rfl | rfl | rfl | rfl | rfl; exact ((us_o _ _ (by omega)).trans (us_s _ _ _)).trans (by unfold eB; rw [if_pos (by omega)]); exact ((us_o _ _ (by omega)).trans ((us_o _ _ (by omega)).trans ((us_o _ _ (by omega)).trans ((us_o _ _ (by omega)).trans ((us_o _ _ (by omega)).trans ((us_o _ _ (by omega)).trans ((us_o _ _ (by omega)).trans (us_s _ _ _)))))))).trans (by unfold eB; rw [if_neg (by omega), if_neg (by omega)]); exact ((us_o _ _ (by omega)).trans ((us_o _ _ (by omega)).trans ((us_o _ _ (by omega)).trans ((us_o _ _ (by omega)).trans ((us_o _ _ (by omega)).trans ((us_o _ _ (by omega)).trans (us_s _ _ _))))))).trans (by unfold eB; rw [if_neg (by omega), if_neg (by omega)]); exact ((us_o _ _ (by omega)).trans ((us_o _ _ (by omega)).trans ((us_o _ _ (by omega)).trans ((us_o _ _ (by omega)).trans ((us_o _ _ (by omega)).trans (us_s _ _ _)))))).trans (by unfold eB; rw [if_neg (by omega), if_neg (by omega)]); exact ((us_o _ _ (by omega)).trans ((us_o _ _ (by omega)).trans ((us_o _ _ (by omega)).trans ((us_o _ _ (by omega)).trans (us_s _ _ _))))).trans (by unfold eB; rw [if_neg (by omega), if_neg (by omega)]); exact ((us_o _ _ (by omega)).trans ((us_o _ _ (by omega)).trans ((us_o _ _ (by omega)).trans (us_s _ _ _)))).trans (by unfold eB; rw [if_neg (by omega), if_neg (by omega)]); exact ((us_o _ _ (by omega)).trans ((us_o _ _ (by omega)).trans (us_s _ _ _))).trans (by unfold eB; rw [if_neg (by omega), if_pos (by omega)])) (fun j9 h9 h8 => (us_o _ _ (by omega)).trans ((us_o _ _ (by omega)).trans ((us_o _ _ (by omega)).trans ((us_o _ _ (by omega)).trans ((us_o _ _ (by omega)).trans ((us_o _ _ (by omega)).trans ((us_o _ _ (by omega)).trans ((us_o _ _ (by omega)).trans ((us_o _ _ (by omega)).trans (rfl)))))))))) j (by omega)) ?_
        exact ih (t + 1) (by omega) (by omega)
  refine qq_S (S' := lS g 129 5 8 135 7 (eB g z0) z0 (sB g z0 S) 0) (w' := 135 + 7 * 0) (m1 := 6 + 7 * 0) (m2 := 542 + 1213 * 0) rfl rfl rfl (fun j _ => lS_0 hB9 j) ?_
  exact L63 (8 - 0 + 1) 0 (by omega) (by omega)
theorem pF_0 (g : Lay) (z0 : Nat) (S : Nat → va_E) : pF g z0 S 0 = S 0 := rfl
theorem sF_0 (g : Lay) (z0 : Nat) (S : Nat → va_E) : sF g z0 S 0 = S 0 := rfl
def wF (g : Lay) (z0 : Nat) (S : Nat → va_E) : Nat → va_E := (us (sF g z0 (us (us (pF g z0 (us S 1 (.inr (3, [.null, .null, .int 0, .int 0, .int 0, .int 0, .int 0, .int 0, .int 0])))) 0 (.inr (7, [.ref (z0 + 1), .null, .int 0, .int 0]))) 128 (.inr (4, [.null, .null, .null, .null, .int 0, .int 0, .int 0, .int 0, .int 0])))) 0 (.inr (7, [.ref (z0 + 1), .ref (z0 + 128), .int 0, .int 0])))
set_option maxHeartbeats 4000000 in
set_option maxRecDepth 20000 in
theorem n_X9 (l : Launch) (g : Lay) (z0 : Nat) {KA : KAd} (hK : GK g z0 KA) (hG2 : GX2 g) (S : Nat → va_E) (hS : S 0 = .inr (7, [.null, .null, .int 0, .int 0])) : CN l yX9_init cX9_init 1 3 208 15510 g z0 [.ref (z0 + 0)] S 1 (wF g z0 S) 209 := by
  refine CN.of (by decide) rfl (Nat.le_of_ble_eq_true rfl) ?_
  intro x hxl hxa hC hR
  have hC : Cx x RX9 cX9_init 1 none 3 g z0 := hC
  show GN x g z0 1 0 0 _ S 1 0 [(0, .ref (z0 + 0))] []
  refine q_aload_n (pc' := 1) (j := 0) hC dX9_init_0 rfl rfl rfl ?_
  refine q_obj (pc' := 4) hC (by decide) w_oi_X9 (Nat.le_of_ble_eq_true rfl) dX9_init_1 rfl ?_
  refine q_aload_n (pc' := 5) (j := 0) hC dX9_init_4 rfl rfl rfl ?_
  refine q_new (pc' := 8) (ty := tyX5) (fs := [.null, .null, .int 0, .int 0, .int 0, .int 0, .int 0, .int 0, .int 0]) hC lay_X5 (ci := 3) rfl tyX5_ok w_cl_X9_7 w_in_X5 w_ini_X5 (fun j hj => by rcases (show j = 0 ∨ j = 1 ∨ j = 2 ∨ j = 3 ∨ j = 4 ∨ j = 5 ∨ j = 6 ∨ j = 7 ∨ j = 8 by omega) with rfl | rfl | rfl | rfl | rfl | rfl | rfl | rfl | rfl <;> rfl) (Nat.le_trans (m := 208) (by decide) hR.1.1) (Nat.le_trans (m := 15510) (Nat.le_of_ble_eq_true rfl) hR.1.2) dX9_init_5 rfl ?_
  refine q_dup (pc' := 9) hC dX9_init_8 rfl rfl ?_
  refine q_init (pc' := 12) (st := [.ref (z0 + 1), .ref (z0 + 0)]) hC (n_X5 x.2.1 g z0 hK hG2 (us S 1 (.inr (3, [.null, .null, .int 0, .int 0, .int 0, .int 0, .int 0, .int 0, .int 0]))) (us_s _ _ _)) ki_X5 w_li_X9_9 (by decide) rfl rfl (Nat.le_of_ble_eq_true rfl) dX9_init_9 rfl (Nat.le_trans (m := 208) (by decide) hR.1.1) (Nat.le_trans (m := 15510) (Nat.le_of_ble_eq_true rfl) hR.1.2) ?_
  refine q_put (pc' := 15) (C := RX9) (T := TX9) (N := 4) (ci := 7) (i := 0) (j := 0) (ty0 := tyX9) hC hR.2 lay_X9 rfl tyX9_ok nmX9 wF_X9_10 (by omega) ((pF_0 _ _ _).trans ((us_o _ _ (by omega)).trans (hS))) (by decide) (by first | exact Or.inl rfl | exact Or.inr ⟨rfl, rfl⟩) (tyX9_ok 0 (by decide)) rfl rfl (Nat.le_of_ble_eq_true rfl) dX9_init_12 rfl ?_
  refine qq_Se (S' := (us (pF g z0 (us S 1 (.inr (3, [.null, .null, .int 0, .int 0, .int 0, .int 0, .int 0, .int 0, .int 0])))) 0 (.inr (7, [.ref (z0 + 1), .null, .int 0, .int 0])))) (rfl) ?_
  refine q_aload_n (pc' := 16) (j := 0) hC dX9_init_15 rfl rfl rfl ?_
  refine q_new (pc' := 19) (ty := tyX6) (fs := [.null, .null, .null, .null, .int 0, .int 0, .int 0, .int 0, .int 0]) hC lay_X6 (ci := 4) rfl tyX6_ok w_cl_X9_16 w_in_X6 w_ini_X6 (fun j hj => by rcases (show j = 0 ∨ j = 1 ∨ j = 2 ∨ j = 3 ∨ j = 4 ∨ j = 5 ∨ j = 6 ∨ j = 7 ∨ j = 8 by omega) with rfl | rfl | rfl | rfl | rfl | rfl | rfl | rfl | rfl <;> rfl) (Nat.le_trans (m := 208) (by decide) hR.1.1) (Nat.le_trans (m := 15510) (Nat.le_of_ble_eq_true rfl) hR.1.2) dX9_init_16 rfl ?_
  refine q_dup (pc' := 20) hC dX9_init_19 rfl rfl ?_
  refine q_init (pc' := 23) (st := [.ref (z0 + 128), .ref (z0 + 0)]) hC (n_X6 x.2.1 g z0 hG2 (us (us (pF g z0 (us S 1 (.inr (3, [.null, .null, .int 0, .int 0, .int 0, .int 0, .int 0, .int 0, .int 0])))) 0 (.inr (7, [.ref (z0 + 1), .null, .int 0, .int 0]))) 128 (.inr (4, [.null, .null, .null, .null, .int 0, .int 0, .int 0, .int 0, .int 0]))) (us_s _ _ _)) ki_X6 w_li_X9_18 (by decide) rfl rfl (Nat.le_of_ble_eq_true rfl) dX9_init_20 rfl (Nat.le_trans (m := 208) (by decide) hR.1.1) (Nat.le_trans (m := 15510) (Nat.le_of_ble_eq_true rfl) hR.1.2) ?_
  refine q_put (pc' := 26) (C := RX9) (T := TX9) (N := 4) (ci := 7) (i := 0) (j := 1) (ty0 := tyX9) hC hR.2 lay_X9 rfl tyX9_ok nmX9 wF_X9_19 (by omega) ((sF_0 _ _ _).trans ((us_o _ _ (by omega)).trans (us_s _ _ _))) (by decide) (by first | exact Or.inl rfl | exact Or.inr ⟨rfl, rfl⟩) (tyX9_ok 1 (by decide)) rfl rfl (Nat.le_of_ble_eq_true rfl) dX9_init_23 rfl ?_
  refine qq_Se (S' := (us (sF g z0 (us (us (pF g z0 (us S 1 (.inr (3, [.null, .null, .int 0, .int 0, .int 0, .int 0, .int 0, .int 0, .int 0])))) 0 (.inr (7, [.ref (z0 + 1), .null, .int 0, .int 0]))) 128 (.inr (4, [.null, .null, .null, .null, .int 0, .int 0, .int 0, .int 0, .int 0])))) 0 (.inr (7, [.ref (z0 + 1), .ref (z0 + 128), .int 0, .int 0])))) (rfl) ?_
  exact q_ret hC dX9_init_26 rfl (fun _ _ => rfl)
