/-! the operations of class and reference, side by side -/
/-- authors and counts: nobody beyond the clients -/
def MA (m : St) (B : Nat) : Prop := (∀ b, b < B → ∀ n, n < rd m 16 b → m.1 18 (200 * b + n) = -1 ∨ ∃ a, a < rd m 15 1 ∧ m.1 18 (200 * b + n) = nI a) ∧ ∀ q j, q < 6 → rd m 15 1 ≤ j → j < 6 → m.1 26 (6 * q + j) = nI 0
theorem MA_same {m m' : St} {B : Nat} (h : MA m B) (h1 : m'.1 15 1 = m.1 15 1) (h2 : ∀ b, b < B → m'.1 16 b = m.1 16 b) (h3 : ∀ i, m'.1 18 i = m.1 18 i) (h4 : ∀ i, m'.1 26 i = m.1 26 i) : MA m' B := by
  have e1 : rd m' 15 1 = rd m 15 1 := by unfold rd; rw [h1]
  refine ⟨fun b hb n hn => ?_, fun q j hq hj hj2 => ?_⟩
  · have e2 : rd m' 16 b = rd m 16 b := by unfold rd; rw [h2 b hb]
    rw [h3, e1]
    exact h.1 b hb n (by rw [← e2]; exact hn)
  · rw [h4]
    exact h.2 q j hq (by rw [← e1]; exact hj) hj2
theorem MV_same {m m' : St} (h : MV m) (h1 : ∀ i, m'.1 20 i = m.1 20 i) : MV m' := fun i hi => by rw [h1]; exact h i hi
theorem rd_of {m : St} {k j n : Nat} (h : m.1 k j = nI n) (hn : n < 2 ^ 31) : rd m k j = n := by
  unfold rd
  rw [h]
  exact nI_clamp hn
theorem MA_app {m : St} {B b : Nat} (h : MA m B) (hb : b < B) (hB : B ≤ 8) (hl : rd m 16 b < 200) (hL : ∀ b, b < B → rd m 16 b ≤ 200) (kd bl va li : Int32) {au : Int32} (ha : au = -1 ∨ ∃ a, a < rd m 15 1 ∧ au = nI a) : MA (mapp m b kd au bl va li) B := by
  have e1 : rd (mapp m b kd au bl va li) 15 1 = rd m 15 1 := by unfold rd; rw [mapp_o _ _ _ _ _ _ _ _ (by omega)]
  have e18 : ∀ i, (mapp m b kd au bl va li).1 18 i = if i = 200 * b + rd m 16 b then au else m.1 18 i := by
    intro i
    unfold mapp
    rw [uv_cell _ _ _ _ (by decide), mapp6_ap, if_neg (by omega), if_neg (by omega), if_neg (by omega)]
    by_cases q : i = 200 * b + rd m 16 b
    · rw [if_pos (by omega), if_pos q]
    · rw [if_neg (by omega), if_neg (by omega), if_neg (by omega), if_neg q]
  refine ⟨fun b2 hb2 n hn => ?_, fun q j hq hj hj2 => ?_⟩
  · rw [e18, e1]
    by_cases q : 200 * b2 + n = 200 * b + rd m 16 b
    · rw [if_pos q]; exact ha
    · rw [if_neg q]
      have hL2 := hL b2 hb2
      have el : (mapp m b kd au bl va li).1 16 b2 = if b2 = b then nI (rd m 16 b + 1) else m.1 16 b2 := mapp_len m b kd au bl va li b2
      by_cases q2 : b2 = b
      · rw [if_pos q2] at el
        have := rd_of el (by omega)
        rw [this] at hn
        subst q2
        exact h.1 b2 hb2 n (by omega)
      · rw [if_neg q2] at el
        have : rd (mapp m b kd au bl va li) 16 b2 = rd m 16 b2 := by unfold rd; rw [el]
        exact h.1 b2 hb2 n (by rw [← this]; exact hn)
  · rw [mapp_o _ _ _ _ _ _ _ _ (by omega)]
    exact h.2 q j hq (by rw [← e1]; exact hj) hj2
theorem cntA_0 {f : Nat → Int32} {a : Nat} : ∀ n, (∀ i, i < n → f i ≠ nI a) → cntA f a n = 0 := by
  intro n
  induction n with
  | zero => intro _; rfl
  | succ n ih =>
    intro h
    show cntA f a n + _ = 0
    rw [ih (fun i hi => h i (by omega)), if_neg (h n (by omega))]
theorem MA_tk {m : St} {B b q : Nat} (h : MA m B) (hb : b < B) (hq : q < 6) (h6 : rd m 15 1 ≤ 6) : MA (mtk m q b) B := by
  have e1 : rd (mtk m q b) 15 1 = rd m 15 1 := by unfold rd; rw [mtk_o _ _ _ _ (by omega)]
  refine ⟨fun b2 hb2 n hn => ?_, fun q2 j hq2 hj hj2 => ?_⟩
  · rw [mtk_o _ _ _ _ (by omega), e1]
    have : rd (mtk m q b) 16 b2 = rd m 16 b2 := by unfold rd; rw [mtk_o _ _ _ _ (by omega)]
    exact h.1 b2 hb2 n (by rw [← this]; exact hn)
  · rw [e1] at hj
    unfold mtk
    rw [ur_ap, if_neg (by decide), ur_ap, if_pos rfl]
    unfold vcn
    by_cases z : 6 * q ≤ 6 * q2 + j ∧ 6 * q2 + j < 6 * q + 6
    · have e : q2 = q := by omega
      subst e
      rw [if_pos z, show 6 * q2 + j - 6 * q2 = j by omega, cntA_0 (rd m 16 b) (fun i hi => ?_)]
      rcases h.1 b hb i hi with y | ⟨a, ha, y⟩
      · rw [y]
        intro w
        have := congrArg Int32.toInt w
        rw [nI_toInt (by omega)] at this
        have e : (-1 : Int32).toInt = -1 := rfl
        rw [e] at this
        omega
      · rw [y]
        intro w
        have := (nI_eq (by omega) (by omega)).mp w
        omega
    · rw [if_neg z]
      exact h.2 q2 j hq2 hj hj2
section SIM3
variable {p : Prop} {c m : St}
theorem Sim.vcl (h : Sim p c m) (hM : MI m) (x : Int32) : vl2 (nI (rd c 8 4)) x ↔ vlt (m.1 15 1) x := by
  rw [h.rcl, hM.1.1.1]
  have := hM.1.1.2
  exact vl2_iff (by omega)
theorem Sim.vbk (h : Sim p c m) (hM : MI m) (x : Int32) : vl2 (nI (rd c 8 5)) x ↔ vlt (m.1 15 2) x := by
  rw [h.rbk, hM.1.2.1.1]
  have := hM.1.2.1.2
  exact vl2_iff (by omega)
theorem Sim.vbr (h : Sim p c m) (hM : MI m) (x : Int32) : vl2 (nI (rd c 8 6)) x ↔ vlt (m.1 15 4) x := by
  rw [h.rbr, hM.1.2.2.2.1.1]
  have := hM.1.2.2.2.1.2
  exact vl2_iff (by omega)
theorem Sim.vpo (h : Sim p c m) (hM : MI m) (x : Int32) : vl2 (nI (rd c 13 3)) x ↔ vlt (m.1 15 21) x := by
  rw [h.rps, hM.2.1.1.1]
  have := hM.2.1.1.2
  exact vl2_iff (by omega)
theorem Sim.vbm (h : Sim p c m) (hM : MI m) (x : Int32) : vl2 (nI (rd c 11 3)) x ↔ vlt (m.1 15 22) x := by
  rw [h.rbl, hM.2.1.2.1.1]
  have := hM.2.1.2.1.2
  exact vl2_iff (by omega)
theorem Sim.ok (h : Sim p c m) (hM : MI m) (hV : MV m) {q : Nat} (hq : q < 6) : cok c q ↔ mokP m q := by
  have hs := (hM.see hq).2
  have hl := (hM.len (b := rd m 23 q) (by omega)).2
  unfold cok mokP
  rw [h.sus hq, h.fc hM hV hq, h.rsee hq, h.rlen (by omega), nI_0]
  constructor
  · rintro ⟨a, b, d⟩; exact ⟨a, b, by omega⟩
  · rintro ⟨a, b, d⟩; exact ⟨a, b, by omega⟩
theorem Sim.oS (h : Sim p c m) (hp : p) (hM : MI m) (hV : MV m) (hI3 : rd m 15 3 ≠ 0) {q : Nat} (hq : q < 6) (kd w : Int32) {v : Int32} (hv : vb v 999999) : Sim p (coS c q kd w v) (moS m q kd w v) ∧ MV (moS m q kd w v) := by
  have hs := (hM.see hq).2
  have hl := (hM.len (b := rd m 23 q) (by omega)).2
  have h1 : Sim p c (mo1 m q) := h.m15 _ (by omega)
  have hV1 : MV (mo1 m q) := MV_same hV (fun i => uv_cell _ _ _ _ (by decide))
  unfold coS moS
  rw [h.sus hq, h.fc hM hV hq, nI_0]
  by_cases q1 : m.1 28 q = 0
  · rw [cI_t q1, cI_t q1]
    by_cases q2 : mfc m q = 0
    · rw [cI_t q2, cI_t q2, h.rsee hq, h.rlen (by omega)]
      by_cases q3 : rd m 16 (rd m 23 q) = 200
      · rw [cI_t (by omega), cI_t q3]
        exact ⟨h1, hV1⟩
      · rw [cI_f (by omega), cI_f q3]
        have er : rd (mo1 m q) 16 (rd m 23 q) = rd m 16 (rd m 23 q) := rd_uv (by decide) _ _ _ _
        have h2 : Sim p (cap c (rd m 23 q) kd (nI q) w v (nI 0)) (mapp (mo1 m q) (rd m 23 q) kd (nI q) w v (nI 0)) := h1.app hV1 (by omega) (by rw [er]; omega) _ _ _ _ hv
        have el : rd (mapp (mo1 m q) (rd m 23 q) kd (nI q) w v (nI 0)) 16 (rd m 23 q) = rd m 16 (rd m 23 q) + 1 := by
          refine rd_of ?_ (by omega)
          rw [mapp_len, if_pos rfl, er]
        have h3 : Sim p (cX1 c q kd w v) (mo2 m q kd w v) := by
          unfold cX1 mo2
          rw [h.rsee hq]
          exact h2.tak hq (by omega) (by rw [el]; omega)
        have e25 : (mo2 m q kd w v).1 25 q = m.1 25 q := by
          unfold mo2 mo1
          rw [mtk_o _ _ _ _ (by omega), mapp_o _ _ _ _ _ _ _ _ (by omega), uv_cell _ _ _ _ (by omega)]
        have h4 : Sim p (cX c q kd w v) (mo3 m q kd w v) := by
          unfold cX mo3
          exact h3.put2 (Cor.ops hq) (by rw [h3.ops hq, e25])
        have e7 : (cX1 c q kd w v).1 8 7 = m.1 15 3 := by
          rw [h3.ivl hp]
          unfold mo2 mo1
          rw [mtk_o _ _ _ _ (by omega), mapp_o _ _ _ _ _ _ _ _ (by omega), uv_idx _ _ _ _ (by decide)]
        have hV3 : MV (mo3 m q kd w v) := by
          refine MV_same (MV_mapp hV1 (rd m 23 q) kd (nI q) w (nI 0) hv) (fun i => ?_)
          unfold mo3 mo2
          rw [uv_cell _ _ _ _ (by decide), mtk_o _ _ _ _ (by omega)]
        have hI : ¬ m.1 15 3 ≤ 0 := by
          have h50 := hM.1.2.2.1
          have h50b := h50.2
          rw [h50.1]
          intro z
          exact hI3 ((nI_z (by omega)).2.2.2.2.mp z)
        have ei : crm ((cX1 c q kd w v).1 (90 + 3 * q) 4 + nI 1) ((cX1 c q kd w v).1 8 7) = (m.1 25 q + nI 1) - (m.1 25 q + nI 1) / m.1 15 3 * m.1 15 3 := by
          unfold crm
          rw [e7, h3.ops hq, e25]
        have hMI3 : MI (mo3 m q kd w v) := MI_mo2 hM hq kd w v q3
        by_cases q4 : (m.1 25 q + nI 1) - (m.1 25 q + nI 1) / m.1 15 3 * m.1 15 3 = 0
        · rw [cI_t ⟨by rw [e7]; exact hI, by rw [ei]; exact q4⟩, cI_t q4]
          exact ⟨h4.pstP hp hMI3 hq, MV_same hV3 (fun i => mpst_o _ _ _ (by omega))⟩
        · rw [cI_f (fun z => q4 (by rw [← ei]; exact z.2)), cI_f q4]
          exact ⟨h4, hV3⟩
    · rw [cI_f q2, cI_f q2]
      refine ⟨h.bv hM hV hq q2, MV_same hV1 (fun i => ?_)⟩
      unfold msus
      rw [uv_cell _ _ _ _ (by decide)]
      split
      · exact mblm_o _ _ _ _ _ _ _ _ (by omega)
      · split
        · exact mblm_o _ _ _ _ _ _ _ _ (by omega)
        · split
          · exact mblm_o _ _ _ _ _ _ _ _ (by omega)
          · exact mblm_o _ _ _ _ _ _ _ _ (by omega)
  · rw [cI_f q1, cI_f q1]
    exact ⟨h, hV⟩
theorem Sim.val (h : Sim p c m) {b : Nat} (hb : b < 8) (w : Int32) : ∀ n, n ≤ 200 → cval c b w n = mval m b w n := by
  intro n
  induction n with
  | zero => intro _; rfl
  | succ n ih =>
    intro hn
    show (if _ then _ else _) = if _ then _ else _
    have e := fun i h1 h2 => h.ent (i := i) (n := n + 1) hb h1 h2 (by omega) hn
    rw [e 1 (by decide) (by decide), e 3 (by decide) (by decide), e 4 (by decide) (by decide), ih (by omega), show 200 * b + (n + 1) - 1 = 200 * b + n by omega]
theorem mval_vb (hV : MV m) {b : Nat} (hb : b < 8) (w : Int32) : ∀ n, n ≤ 200 → vb (mval m b w n) 999999 := by
  intro n
  induction n with
  | zero => intro _; show vb (nI 0) 999999; exact vb_nI (by decide) (by decide)
  | succ n ih =>
    intro hn
    show vb (if _ then _ else _) 999999
    split
    · exact hV _ (by omega)
    · exact ih (by omega)
end SIM3
