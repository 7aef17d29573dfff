noncomputable def cX1 (σ : St) (c : Nat) (kd w v : Int32) : St := cth (cap σ (rd σ (90 + 3 * c) 3) kd (nI c) w v (nI 0)) c (rd σ (90 + 3 * c) 3)
noncomputable def cX (σ : St) (c : Nat) (kd w v : Int32) : St := uv (cX1 σ c kd w v) (90 + 3 * c) 4 ((cX1 σ c kd w v).1 (90 + 3 * c) 4 + nI 1)
def crm (a b : Int32) : Int32 := a - a / b * b
/-- an operation of the class -/
noncomputable def coS (σ : St) (c : Nat) (kd w v : Int32) : St :=
  cI (σ.1 (90 + 3 * c) 5 = 0) (cI (cfc σ c = 0) (cI (200 ≤ rd σ (34 + 7 * (rd σ (90 + 3 * c) 3)) 6) σ (cI (¬ (cX1 σ c kd w v).1 8 7 ≤ 0 ∧ crm ((cX1 σ c kd w v).1 (90 + 3 * c) 4 + nI 1) ((cX1 σ c kd w v).1 8 7) = 0) (cps (cX σ c kd w v) c) (cX σ c kd w v))) (uv (cbv σ c) (90 + 3 * c) 5 (nI 1))) σ
def cok (σ : St) (c : Nat) : Prop := σ.1 (90 + 3 * c) 5 = 0 ∧ cfc σ c = 0 ∧ ¬ 200 ≤ rd σ (34 + 7 * (rd σ (90 + 3 * c) 3)) 6
theorem cth_o (σ : St) (c b : Nat) {a : Nat} (j : Nat) (h : a < 90 + 3 * c ∨ 90 + 3 * c + 2 < a) : (cth σ c b).1 a j = σ.1 a j := by
  unfold cth
  rw [ur_cell _ _ _ (by omega), ur_cell _ _ _ (by omega), uv_cell _ _ _ _ (by omega)]
theorem cth_f (σ : St) (c b : Nat) {j : Nat} (h : j ≠ 2) : (cth σ c b).1 (90 + 3 * c) j = σ.1 (90 + 3 * c) j := by
  unfold cth
  rw [ur_cell _ _ _ (by omega), ur_cell _ _ _ (by omega), uv_idx _ _ _ _ h]
theorem cth_po (σ : St) (c b : Nat) : (cth σ c b).1 (90 + 3 * c) 2 = nI (rd σ (34 + 7 * b) 6) := by
  unfold cth
  rw [ur_cell _ _ _ (by omega), ur_cell _ _ _ (by omega), uv_same]
theorem cbl_o (σ : St) (kd c o n f s : Int32) {a : Nat} (j : Nat) (h : a ≠ 11 ∧ a ≠ 12) : (cbl σ kd c o n f s).1 a j = σ.1 a j := by
  unfold cbl
  rw [uv_cell _ _ _ _ h.2, uv_cell _ _ _ _ h.2, uv_cell _ _ _ _ h.2, uv_cell _ _ _ _ h.2, uv_cell _ _ _ _ h.2, uv_cell _ _ _ _ h.2, cr0_o _ _ _ _ _ h.1 h.2]
theorem cbv_o (σ : St) (c : Nat) {a : Nat} (j : Nat) (h : a ≠ 11 ∧ a ≠ 12) : (cbv σ c).1 a j = σ.1 a j := by
  unfold cbv
  split
  · exact cbl_o _ _ _ _ _ _ _ _ h
  · split
    · exact cbl_o _ _ _ _ _ _ _ _ h
    · split
      · exact cbl_o _ _ _ _ _ _ _ _ h
      · exact cbl_o _ _ _ _ _ _ _ _ h
theorem cps_o (σ : St) (c : Nat) {a : Nat} (j : Nat) (h : a ≠ 13 ∧ a ≠ 14 ∧ (a = 8 → j ≠ 8)) : (cps σ c).1 a j = σ.1 a j := by
  unfold cps
  rw [uv_cell _ _ _ _ h.2.1, uv_cell _ _ _ _ h.2.1, uv_cell _ _ _ _ h.2.1, uv_cell _ _ _ _ h.2.1, cr0_o _ _ _ _ _ h.1 h.2.1, uv_ap, if_neg (fun z => h.2.2 z.1 z.2)]
theorem cX_po {σ : St} {c : Nat} (hI : CI σ) (hc : c < 6) (kd w v : Int32) (h : ¬ 200 ≤ rd σ (34 + 7 * (rd σ (90 + 3 * c) 3)) 6) : nb (cX σ c kd w v) (90 + 3 * c) 2 200 := by
  have hS := (hI.se hc).2
  refine (nb_of (n := rd σ (34 + 7 * (rd σ (90 + 3 * c) 3)) 6 + 1) ?_ (by omega) (by decide)).1
  unfold cX
  rw [uv_idx _ _ _ _ (by decide)]
  unfold cX1
  rw [cth_po, (cap_size σ (rd σ (90 + 3 * c) 3) kd (nI c) w v (nI 0) (by omega)).2]
theorem cX_o {σ : St} {c : Nat} (hI : CI σ) (hc : c < 6) (kd w v : Int32) {a : Nat} (j : Nat) (h : a < 34 ∨ 107 < a) : (cX σ c kd w v).1 a j = σ.1 a j := by
  have hS := (hI.se hc).2
  unfold cX
  rw [uv_cell _ _ _ _ (by omega)]
  unfold cX1
  rw [cth_o _ _ _ _ (by omega), cap_o _ _ _ _ _ _ _ _ (by omega)]
theorem cX_se {σ : St} {c : Nat} (hI : CI σ) (hc : c < 6) (kd w v : Int32) (d : Nat) (hd : d < 6) : (cX σ c kd w v).1 (90 + 3 * d) 3 = σ.1 (90 + 3 * d) 3 := by
  have hS := (hI.se hc).2
  unfold cX
  rw [uv_idx _ _ _ _ (by decide)]
  unfold cX1
  by_cases q : d = c
  · subst q
    rw [cth_f _ _ _ (by decide), cap_o _ _ _ _ _ _ _ _ (by omega)]
  · rw [cth_o _ _ _ _ (by omega), cap_o _ _ _ _ _ _ _ _ (by omega)]
theorem coS_a {σ : St} {c : Nat} {kd w v : Int32} {Q : St → Prop} (h0 : Q σ) (h1 : Q (uv (cbv σ c) (90 + 3 * c) 5 (nI 1))) (h2 : ¬ 200 ≤ rd σ (34 + 7 * (rd σ (90 + 3 * c) 3)) 6 → Q (cps (cX σ c kd w v) c) ∧ Q (cX σ c kd w v)) : Q (coS σ c kd w v) :=
  cI_a2 (fun _ => cI_a2 (fun _ => cI_a2 (fun _ => h0) fun q => cI_a2 (fun _ => (h2 q).1) fun _ => (h2 q).2) fun _ => h1) fun _ => h0
theorem coS_se {σ : St} {c : Nat} (hI : CI σ) (hc : c < 6) (kd w v : Int32) (d : Nat) (hd : d < 6) : (coS σ c kd w v).1 (90 + 3 * d) 3 = σ.1 (90 + 3 * d) 3 :=
  coS_a (Q := fun τ => τ.1 (90 + 3 * d) 3 = σ.1 (90 + 3 * d) 3) rfl ((uv_idx _ _ _ _ (by decide)).trans (cbv_o _ _ _ (by omega))) fun _ => ⟨(cps_o _ _ _ (by omega)).trans (cX_se hI hc kd w v d hd), cX_se hI hc kd w v d hd⟩
theorem cX_sz {σ : St} {c : Nat} (hI : CI σ) (hc : c < 6) (kd w v : Int32) (h : ¬ 200 ≤ rd σ (34 + 7 * (rd σ (90 + 3 * c) 3)) 6) {b : Nat} (hb : b < 8) : nb (cX σ c kd w v) (34 + 7 * b) 6 200 := by
  have hS := (hI.se hc).2
  have e : (cX σ c kd w v).1 (34 + 7 * b) 6 = (cap σ (rd σ (90 + 3 * c) 3) kd (nI c) w v (nI 0)).1 (34 + 7 * b) 6 := by
    unfold cX
    rw [uv_cell _ _ _ _ (by omega)]
    exact cth_o _ _ _ _ (by omega)
  by_cases q : b = rd σ (90 + 3 * c) 3
  · subst q
    have z := (cap_size σ (rd σ (90 + 3 * c) 3) kd (nI c) w v (nI 0) (by omega)).1
    exact nb_cg e z z.2
  · have z := hI.sz hb
    exact nb_cg (e.trans (cap_o _ _ _ _ _ _ _ _ (by omega))) z z.2
theorem coS_sz {σ : St} {c : Nat} (hI : CI σ) (hc : c < 6) (kd w v : Int32) {b : Nat} (hb : b < 8) : nb (coS σ c kd w v) (34 + 7 * b) 6 200 := by
  have z := hI.sz hb
  refine coS_a (Q := fun τ => nb τ (34 + 7 * b) 6 200) z (nb_cg ((uv_cell _ _ _ _ (by omega)).trans (cbv_o _ _ _ (by omega))) z z.2) fun q => ?_
  have y := cX_sz hI hc kd w v q hb
  exact ⟨nb_cg (cps_o _ _ _ (by omega)) y y.2, y⟩
noncomputable def cwr (σ : St) (c w v : Int32) : Int32 × St :=
  cI (vl2 (nI (rd σ 8 4)) c ∧ vl2 (nI (rd σ 8 5)) w) (cI (¬ v < 0 ∧ v ≤ nI 999999) (cI (cok σ (cn c)) ((coS σ (cn c) (nI 1) w v).1 (90 + 3 * cn c) 2, coS σ (cn c) (nI 1) w v) (-3, coS σ (cn c) (nI 1) w v)) (-2, σ)) (-1, σ)
noncomputable def crd (σ : St) (c w : Int32) : Int32 × St :=
  cI (vl2 (nI (rd σ 8 4)) c ∧ vl2 (nI (rd σ 8 5)) w) (cI (cok σ (cn c)) (cval (coS σ (cn c) (nI 0) w (nI 0)) (rd (coS σ (cn c) (nI 0) w (nI 0)) (90 + 3 * cn c) 3) w (rd (coS σ (cn c) (nI 0) w (nI 0)) (34 + 7 * (rd (coS σ (cn c) (nI 0) w (nI 0)) (90 + 3 * cn c) 3)) 6), coS σ (cn c) (nI 0) w (nI 0)) (-3, coS σ (cn c) (nI 0) w (nI 0))) (-1, σ)
noncomputable def cpo (σ : St) (c : Int32) : Int32 × St := cI (vl2 (nI (rd σ 8 4)) c) ((cps σ (cn c)).1 13 3, cps σ (cn c)) (-1, σ)
noncomputable def cmv (σ : St) (c b : Int32) : Int32 × St := cI (vl2 (nI (rd σ 8 4)) c ∧ vl2 (nI (rd σ 8 6)) b) (σ.1 (90 + 3 * cn c) 3, uv σ (90 + 3 * cn c) 3 b) (-1, σ)
noncomputable def crw (σ : St) (b n : Int32) : Int32 × St := cI (vl2 (nI (rd σ 8 6)) b) (cI (¬ n < nI 1 ∧ n ≤ σ.1 (34 + 7 * cn b) 6) (σ.1 (34 + 7 * cn b) 6 - n, uv σ (34 + 7 * cn b) 6 (σ.1 (34 + 7 * cn b) 6 - n)) (-2, σ)) (-1, σ)
noncomputable def cco (σ : St) (b n v : Int32) : Int32 × St := cI (vl2 (nI (rd σ 8 6)) b ∧ cen σ (cn b) n) (cI (¬ v < 0 ∧ v ≤ nI 999999) (cI (σ.1 (34 + 7 * cn b + 1) (cn n) = nI 1) (σ.1 (34 + 7 * cn b + 4) (cn n), uv σ (34 + 7 * cn b + 4) (cn n) v) (-3, σ)) (-2, σ)) (-1, σ)
noncomputable def cxa (σ : St) (a b : Nat) : Nat := min (fdf (σ.1 (90 + 3 * a + 1)) (σ.1 (90 + 3 * b + 1)) (min (rd σ (90 + 3 * a) 2) (rd σ (90 + 3 * b) 2))) (rd σ (90 + 3 * a) 2)
noncomputable def cxc (σ : St) (a b : Int32) : Int32 × St :=
  cI (vl2 (nI (rd σ 8 4)) a ∧ vl2 (nI (rd σ 8 4)) b ∧ ¬ a = b) (cI (cfk σ (cn a) (cn b)) (nI 3, uv (uv (cbl σ (nI 2) a b (nI (cxa σ (cn a) (cn b))) (σ.1 (90 + 3 * cn a + 1) (cxa σ (cn a) (cn b))) (σ.1 (90 + 3 * cn b + 1) (cxa σ (cn a) (cn b)))) (90 + 3 * cn a) 5 (nI 1)) (90 + 3 * cn b) 5 (nI 1))
    (cI (rd σ (90 + 3 * cn a) 2 = rd σ (90 + 3 * cn b) 2) (nI 0, σ) (cI (rd σ (90 + 3 * cn a) 2 < rd σ (90 + 3 * cn b) 2) (nI 1, σ) (nI 2, σ)))) (-1, σ)
theorem cen_n {σ : St} {b : Nat} {p : Int32} (hL : rd σ (34 + 7 * b) 6 ≤ 200) (h : cen σ b p) : p = nI (cn p) ∧ 1 ≤ cn p ∧ cn p ≤ rd σ (34 + 7 * b) 6 := in_n (by decide) (by omega) (Int32.not_lt.mp h.1) (Int32.not_lt.mp h.2)
