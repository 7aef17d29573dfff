/-! common length, conflicts, fork -/
theorem rd_eq {s t : St} {a x : Nat} (e : s.1 a x = t.1 a x) : rd s a x = rd t a x := by unfold rd; rw [e]
theorem or_as (a b d : Int32) : a ||| b ||| d = a ||| (b ||| d) := by
  apply Int32.toBitVec_inj.mp
  simp only [Int32.toBitVec_or]
  exact BitVec.or_assoc _ _ _
theorem or_cm (a b : Int32) : a ||| b = b ||| a := by
  apply Int32.toBitVec_inj.mp
  simp only [Int32.toBitVec_or]
  exact BitVec.or_comm _ _
theorem bset_1 {kd bl kd' bl' : Nat → Int32} {lo : Nat} : ∀ n, (∀ i, i < n → kd (lo + i) = kd' (lo + 1 + i) ∧ bl (lo + i) = bl' (lo + 1 + i)) → bset kd bl (nI 1) lo n = cbs kd' bl' (nI 1) lo n := by
  intro n
  induction n with
  | zero => intro _; rfl
  | succ n ih =>
    intro h
    obtain ⟨e1, e2⟩ := h n (by omega)
    show (if _ then _ else _) = if _ then _ else _
    rw [ih (fun i hi => h i (by omega)), e1, e2]
    by_cases q : kd' (lo + 1 + n) = nI 1
    · rw [if_pos (Or.inl q), if_pos q]
    · rw [if_neg (fun z => z.elim q (fun z => absurd z.2 (by decide))), if_neg q]
theorem bset_0 {kd bl kd' bl' : Nat → Int32} {lo : Nat} : ∀ n, (∀ i, i < n → kd (lo + i) = kd' (lo + 1 + i) ∧ bl (lo + i) = bl' (lo + 1 + i)) → bset kd bl (nI 0) lo n = cbs kd' bl' (nI 1) lo n ||| cbs kd' bl' (nI 0) lo n := by
  intro n
  induction n with
  | zero => intro _; show nI 0 = nI 0 ||| nI 0; decide
  | succ n ih =>
    intro h
    obtain ⟨e1, e2⟩ := h n (by omega)
    show (if _ then _ else _) = (if _ then _ else _) ||| if _ then _ else _
    rw [ih (fun i hi => h i (by omega)), e1, e2]
    by_cases q : kd' (lo + 1 + n) = nI 1
    · have q0 : ¬ kd' (lo + 1 + n) = nI 0 := by rw [q]; decide
      rw [if_pos (Or.inl q), if_pos q, if_neg q0, or_as, or_cm (cbs kd' bl' (nI 0) lo n), ← or_as]
    · by_cases q0 : kd' (lo + 1 + n) = nI 0
      · rw [if_pos (Or.inr ⟨q0.trans nI_0, rfl⟩), if_neg q, if_pos q0, or_as]
      · rw [if_neg (fun z => z.elim q (fun z => q0 (z.1.trans nI_0.symm))), if_neg q, if_neg q0]
theorem chb_iff (set : Int32) (n : Nat) : chb set n ↔ hsb set n := by
  unfold chb hsb
  have e := pk_and (set >>> (nI n &&& 31)) (m := nI 1) 1 (by decide)
  rw [e]
  rcases (show (set >>> (nI n &&& 31)).toBitVec.toNat % 2 ^ 1 = 0 ∨ (set >>> (nI n &&& 31)).toBitVec.toNat % 2 ^ 1 = 1 by omega) with z | z
  · rw [z]
    constructor
    · intro y; exact absurd nI_0 y
    · intro y; exact absurd y (by decide)
  · rw [z]
    constructor
    · intro _; rfl
    · intro _ y; exact absurd y (by decide)
theorem tb_lt {s : Int32} {k : Nat} (hk : k < 2 ^ 31) : (nI 1 ≤ s ∧ s < nI k) ↔ (¬ s = 0 ∧ s.toBitVec.toNat < k) := by
  have hb : s.toBitVec.toNat < 2 ^ 32 := s.toBitVec.isLt
  have e : s.toInt = if s.toBitVec.toNat < 2 ^ 31 then (s.toBitVec.toNat : Int) else (s.toBitVec.toNat : Int) - 2 ^ 32 := by
    rw [← Int32.toInt_toBitVec, BitVec.toInt_eq_toNat_cond]
    by_cases z : s.toBitVec.toNat < 2 ^ 31
    · rw [if_pos (by omega), if_pos z]
    · rw [if_neg (by omega), if_neg z]; rfl
  have e0 : s = 0 ↔ s.toBitVec.toNat = 0 := by
    constructor
    · intro z; rw [z]; rfl
    · intro z
      apply Int32.toBitVec_inj.mp
      apply BitVec.eq_of_toNat_eq
      rw [z]
      rfl
  rw [Int32.le_iff_toInt_le, Int32.lt_iff_toInt_lt, nI_toInt (by decide), nI_toInt hk, e0, e]
  split <;> omega
theorem fv_iff {n : Nat} (hn : n ≤ 6) (s : Int32) : (¬ s = 0 ∧ (s.toUInt32 >>> ((nI n).toUInt32 &&& Int32.toUInt32 31)).toInt32 = 0) ↔ (nI 1 ≤ s ∧ s < nI 1 <<< (nI n &&& 31)) := by
  have e2 : nI 1 <<< (nI n &&& 31) = nI (2 ^ n) := by
    rcases (show n = 0 ∨ n = 1 ∨ n = 2 ∨ n = 3 ∨ n = 4 ∨ n = 5 ∨ n = 6 by omega) with rfl | rfl | rfl | rfl | rfl | rfl | rfl <;> decide
  have e3 : (((nI n).toUInt32 &&& Int32.toUInt32 31).toBitVec % 32).toNat = n := by
    rcases (show n = 0 ∨ n = 1 ∨ n = 2 ∨ n = 3 ∨ n = 4 ∨ n = 5 ∨ n = 6 by omega) with rfl | rfl | rfl | rfl | rfl | rfl | rfl <;> decide
  have hp : 0 < 2 ^ n := Nat.pos_of_ne_zero (by simp)
  have hk : 2 ^ n < 2 ^ 31 := Nat.pow_lt_pow_right (by decide) (by omega)
  have e4 := pk_ushr s (nI n) n e3
  rw [e2, tb_lt hk]
  have e5 : (s.toUInt32 >>> ((nI n).toUInt32 &&& Int32.toUInt32 31)).toInt32 = 0 ↔ s.toBitVec.toNat < 2 ^ n := by
    constructor
    · intro z
      rw [z] at e4
      have : (0 : Int32).toBitVec.toNat = 0 := rfl
      rw [this] at e4
      exact (Nat.div_eq_zero_iff.mp e4.symm).resolve_left (by omega)
    · intro z
      rw [Nat.div_eq_of_lt z] at e4
      apply Int32.toBitVec_inj.mp
      apply BitVec.eq_of_toNat_eq
      rw [e4]
      rfl
  rw [e5]
section SIM5
variable {p : Prop} {c m : St}
theorem Sim.shr (h : Sim p c m) (hM : MI m) {x y : Nat} (hx : x < 8) (hy : y < 8) : csh c x y = mcom m x y := by
  have lx := (hM.len hx).2
  have ly := (hM.len hy).2
  have hz : ∃ n, ¬ (n < rd m 16 x ∧ n < rd m 16 y ∧ mh m x (n + 1) = mh m y (n + 1)) := ⟨rd m 16 x, fun z => by omega⟩
  obtain ⟨l1, l2⟩ := lst_ok hz
  have l3 := mcom_le m x y
  have e : fdf (c.1 (34 + 7 * x + 6)) (c.1 (34 + 7 * y + 6)) (min (rd m 16 x) (rd m 16 y)) = mcom m x y + 1 := by
    refine lst_eq ?_ (fun j hj z => ?_)
    · by_cases q : min (rd m 16 x) (rd m 16 y) < mcom m x y + 1
      · exact Or.inl q
      · refine Or.inr (fun z => l1 ⟨by show mcom m x y < _; omega, by show mcom m x y < _; omega, ?_⟩)
        rw [h.has hx (by omega), h.has hy (by omega)] at z
        exact z
    · rcases z with z | z
      · omega
      · rw [h.has hx (by omega), h.has hy (by omega)] at z
        by_cases q : j = 0
        · subst q; exact z rfl
        · have := l2 (j - 1) (by show j - 1 < mcom m x y; omega)
          have w := Classical.not_not.mp this
          rw [show j - 1 + 1 = j by omega] at w
          exact z w.2.2
  unfold csh
  rw [h.rlen hx, h.rlen hy, e]
  omega
theorem Sim.cnf (h : Sim p c m) (hM : MI m) {x y : Nat} (hx : x < 8) (hy : y < 8) : ccf c x y = mcf m x y := by
  have lx := (hM.len hx).2
  have ly := (hM.len hy).2
  have l3 := mcom_le m x y
  have key : ∀ b, b < 8 → ∀ lo n, lo + n ≤ 200 → ∀ i, i < n → m.1 17 (200 * b + (lo + i)) = c.1 (34 + 7 * b + 1) (lo + 1 + i) ∧ m.1 19 (200 * b + (lo + i)) = c.1 (34 + 7 * b + 3) (lo + 1 + i) := by
    intro b hb lo n hn i hi
    have e1 := h.ent (i := 1) (n := lo + 1 + i) hb (by decide) (by decide) (by omega) (by omega)
    have e3 := h.ent (i := 3) (n := lo + 1 + i) hb (by decide) (by decide) (by omega) (by omega)
    rw [show 200 * b + (lo + 1 + i) - 1 = 200 * b + (lo + i) by omega] at e1 e3
    exact ⟨e1.symm, e3.symm⟩
  unfold ccf mcf mts
  rw [h.shr hM hx hy, h.rlen hx, h.rlen hy]
  rw [bset_1 (kd' := c.1 (34 + 7 * x + 1)) (bl' := c.1 (34 + 7 * x + 3)) (lo := mcom m x y) (rd m 16 x - mcom m x y) (key x hx (mcom m x y) (rd m 16 x - mcom m x y) (by omega)), bset_1 (kd' := c.1 (34 + 7 * y + 1)) (bl' := c.1 (34 + 7 * y + 3)) (lo := mcom m x y) (rd m 16 y - mcom m x y) (key y hy (mcom m x y) (rd m 16 y - mcom m x y) (by omega)), bset_0 (kd' := c.1 (34 + 7 * x + 1)) (bl' := c.1 (34 + 7 * x + 3)) (lo := mcom m x y) (rd m 16 x - mcom m x y) (key x hx (mcom m x y) (rd m 16 x - mcom m x y) (by omega)), bset_0 (kd' := c.1 (34 + 7 * y + 1)) (bl' := c.1 (34 + 7 * y + 3)) (lo := mcom m x y) (rd m 16 y - mcom m x y) (key y hy (mcom m x y) (rd m 16 y - mcom m x y) (by omega))]
theorem csa_msa {f e : Nat → Int32} {set : Int32} : ∀ (n k : Nat) (fd : Int32), (∀ j, k ≤ j → j < k + n → f j = e j ∧ vb (e j) 7) → (fd = -1 ∨ vb fd 7) → csa f set n k fd = msa e set n k fd := by
  intro n
  induction n with
  | zero => intro k fd _ _; rfl
  | succ n ih =>
    intro k fd h hf
    obtain ⟨e1, e2⟩ := h k (Nat.le_refl _) (by omega)
    show cI _ (cI _ _ _) _ = cI _ (cI _ _ _) _
    have i1 := ih (k + 1) (e k) (fun j a b => h j (by omega) (by omega)) (Or.inr e2)
    have i2 := ih (k + 1) fd (fun j a b => h j (by omega) (by omega)) hf
    rw [e1, i1, i2]
    have hq : (¬ fd < 0 ∧ ¬ fd = e k) ↔ (fd ≠ -1 ∧ e k ≠ fd) := by
      rcases hf with rfl | hf
      · constructor
        · intro z; exact absurd (by decide) z.1
        · intro z; exact absurd rfl z.1
      · have h0 := vb_ge0 hf (by decide)
        constructor
        · rintro ⟨a, b⟩
          exact ⟨fun z => by rw [z] at h0; exact absurd h0 (by decide), fun z => b z.symm⟩
        · rintro ⟨a, b⟩
          exact ⟨Int32.not_lt.mpr h0, fun z => b z.symm⟩
    by_cases q : hsb set k
    · rw [cI_t ((chb_iff set k).mpr q), cI_t q]
      by_cases q2 : fd ≠ -1 ∧ e k ≠ fd
      · rw [cI_t (hq.mpr q2), cI_t q2]
      · rw [cI_f (fun z => q2 (hq.mp z)), cI_f q2]
    · rw [cI_f (fun z => q ((chb_iff set k).mp z)), cI_f q]
theorem Sim.sF (h : Sim p c m) (hM : MI m) (set : Int32) : csF c set = msF m set := by
  have h6 := hM.1.1.2
  unfold csF msF
  rw [h.rcl]
  exact csa_msa _ _ _ (fun j _ hj => ⟨h.see (by omega), hM.v23 j (by omega)⟩) (Or.inl rfl)
theorem cfs_ap (c : St) (set : Int32) (md q : Nat) : ∀ i, (cfs c set md i).1 (90 + 3 * q) 3 = cI (q < i ∧ hsb set q) (nI md) (c.1 (90 + 3 * q) 3) := by
  intro i
  induction i with
  | zero => rw [cI_f (fun z => absurd z.1 (Nat.not_lt_zero _))]; rfl
  | succ i ih =>
    show (cI _ _ _ : St).1 _ _ = _
    by_cases z : chb set i
    · rw [cI_t z, uv_ap]
      by_cases y : q = i
      · subst y
        rw [if_pos ⟨rfl, rfl⟩, cI_t ⟨by omega, (chb_iff set q).mp z⟩]
      · rw [if_neg (by omega), ih]
        by_cases w : q < i ∧ hsb set q
        · rw [cI_t w, cI_t ⟨by omega, w.2⟩]
        · rw [cI_f w, cI_f (fun v => w ⟨by omega, v.2⟩)]
    · rw [cI_f z, ih]
      by_cases w : q < i ∧ hsb set q
      · rw [cI_t w, cI_t ⟨by omega, w.2⟩]
      · rw [cI_f w, cI_f (fun v => w ⟨by
          rcases Nat.lt_or_ge q i with u | u
          · exact u
          · exact absurd ((chb_iff set i).mpr ((show q = i by omega) ▸ v.2)) z, v.2⟩)]
theorem Sim.fs (h : Sim p c m) (set : Int32) (md : Nat) {n : Nat} (hn : n ≤ 6) : Sim p (cfs c set md n) (ur m 23 (fkr (m.1 23) set (nI md) n)) := by
  refine h.ext (fun a x => 90 ≤ a ∧ a ≤ 107 ∧ (a - 90) % 3 = 0 ∧ x = 3) (fun a _ => a = 23) (fun a x z => ?_) (fun a x z => by rw [ur_ap, if_neg z]) ?_ ?_ ?_
  · by_cases w : a < 90 ∨ 90 + 3 * n ≤ a ∨ x ≠ 3
    · exact cfs_o _ _ _ _ _ w
    · have : ∀ i, i ≤ n → (cfs c set md i).1 a x = c.1 a x := by
        intro i
        induction i with
        | zero => intro _; rfl
        | succ i ih =>
          intro hi
          show (cI _ _ _ : St).1 a x = _
          refine cI_a2 (Q := fun τ : St => τ.1 a x = c.1 a x) (fun _ => ?_) fun _ => ih (by omega)
          rw [uv_ap, if_neg (by omega)]
          exact ih (by omega)
      exact this n (Nat.le_refl _)
  · intro a x a' x' z
    rcases z with ⟨b2, g⟩ | ⟨b2, i2, n2, g⟩ | ⟨q2, g⟩ | ⟨q2, n2, g⟩ | ⟨q2, j2, g⟩ | g | g | g <;> omega
  · intro a x a' x' z d1 d2
    obtain ⟨q, hq, rfl, rfl, rfl⟩ : ∃ q, q < 6 ∧ a = 90 + 3 * q ∧ x = 3 ∧ x' = q := by
      rcases z with ⟨b2, g⟩ | ⟨b2, i2, n2, g⟩ | ⟨q2, g⟩ | ⟨q2, n2, g⟩ | ⟨q2, j2, g⟩ | g | g | g
      · omega
      · omega
      · exact ⟨q2, by omega, by omega, by omega, by omega⟩
      · omega
      · omega
      · omega
      · omega
      · omega
    subst d2
    rw [cfs_ap, ur_ap, if_pos rfl]
    unfold fkr
    rw [h.see hq]
  · intro b hb z
    omega
theorem MA_cps {m : St} {f : Nat} (h : MA m (rd m 15 4)) (hf : f < rd m 15 4) (hB : rd m 15 4 < 8) (hl : rd m 16 f ≤ 200) (hL : ∀ b, b < 8 → rd m 16 b ≤ 200) : MA (mcps m f (rd m 15 4) (rd m 16 f)) (rd m 15 4 + 1) := by
  have mkey : ∀ a x, (mcps m f (rd m 15 4) (rd m 16 f)).1 a x = if a = 16 ∧ x = rd m 15 4 then nI (rd m 16 f) else if 17 ≤ a ∧ a ≤ 22 ∧ 200 * rd m 15 4 ≤ x ∧ x < 200 * rd m 15 4 + rd m 16 f then m.1 a (x - 200 * rd m 15 4 + 200 * f) else m.1 a x := by
    intro a x
    unfold mcps
    rw [uv_ap, mcp_ap]
  have r1 : rd (mcps m f (rd m 15 4) (rd m 16 f)) 15 1 = rd m 15 1 := by unfold rd; rw [mcps_o _ _ _ _ _ (by omega)]
  refine ⟨fun b hb n hn => ?_, fun q j hq hj hj2 => ?_⟩
  · rw [r1, mkey, if_neg (by omega)]
    by_cases e : b = rd m 15 4
    · have e2 : rd (mcps m f (rd m 15 4) (rd m 16 f)) 16 b = rd m 16 f := rd_of (by rw [mkey, if_pos ⟨rfl, e⟩]) (by omega)
      rw [e2] at hn
      rw [if_pos (by omega), show 200 * b + n - 200 * rd m 15 4 + 200 * f = 200 * f + n by omega]
      exact h.1 f hf n hn
    · have e2 : rd (mcps m f (rd m 15 4) (rd m 16 f)) 16 b = rd m 16 b := rd_eq (by rw [mkey, if_neg (by omega), if_neg (by omega)])
      rw [e2] at hn
      have := hL b (by omega)
      rw [if_neg (by omega)]
      exact h.1 b (by omega) n hn
  · rw [r1] at hj
    rw [mcps_o _ _ _ _ _ (by omega)]
    exact h.2 q j hq hj hj2
theorem MV_cps {m : St} {f t n : Nat} (h : MV m) (hf : f < 8) (hn : n ≤ 200) : MV (mcps m f t n) := by
  intro i hi
  unfold mcps
  rw [uv_ap, if_neg (by omega), mcp_ap]
  split
  · exact h _ (by omega)
  · exact h i hi
/-- two states that differ in the number of branches alone -/
def E4 (s s' : St) : Prop := ∀ a x, ¬ (a = 15 ∧ x = 4) → s.1 a x = s'.1 a x
theorem E4_r {s s' : St} (h : E4 s s') {a x : Nat} (z : ¬ (a = 15 ∧ x = 4)) : rd s a x = rd s' a x := rd_eq (h a x z)
theorem E4_uv {s s' : St} (h : E4 s s') (k j : Nat) {v v' : Int32} (e : v = v') : E4 (uv s k j v) (uv s' k j v') := fun a x z => by
  rw [uv_ap, uv_ap, h a x z, e]
theorem E4_mh {s s' : St} (h : E4 s s') (b n : Nat) : mh s b n = mh s' b n := by unfold mh; rw [h _ _ (by omega)]
theorem E4_mcomp {s s' : St} (h : E4 s s') (b n : Nat) : mcomp s b n = mcomp s' b n := by
  unfold mcomp
  rw [E4_mh h, h _ _ (by omega), h _ _ (by omega), h _ _ (by omega), h _ _ (by omega), h _ _ (by omega)]
theorem E4_mapp {s s' : St} (h : E4 s s') (b : Nat) {kd au bl va li kd' au' bl' va' li' : Int32} (e1 : kd = kd') (e2 : au = au') (e3 : bl = bl') (e4 : va = va') (e5 : li = li') : E4 (mapp s b kd au bl va li) (mapp s' b kd' au' bl' va' li') := by
  subst e1; subst e2; subst e3; subst e4; subst e5
  have h6 : E4 (mapp6 s b kd au bl va li) (mapp6 s' b kd au bl va li) := by
    unfold mapp6
    rw [E4_r h (a := 16) (x := b) (by omega)]
    exact E4_uv (E4_uv (E4_uv (E4_uv (E4_uv (E4_uv h _ _ rfl) _ _ rfl) _ _ rfl) _ _ rfl) _ _ rfl) _ _ rfl
  unfold mapp
  rw [E4_r h (a := 16) (x := b) (by omega)]
  exact E4_uv h6 _ _ (E4_mcomp h6 _ _)
theorem E4_mcps {s s' : St} (h : E4 s s') (f t n : Nat) : E4 (mcps s f t n) (mcps s' f t n) := by
  intro a x z
  unfold mcps
  rw [uv_ap, uv_ap, mcp_ap, mcp_ap]
  by_cases q : 17 ≤ a ∧ a ≤ 22 ∧ 200 * t ≤ x ∧ x < 200 * t + n
  · rw [if_pos q, if_pos q, h _ _ (by omega)]
  · rw [if_neg q, if_neg q, h _ _ z]
theorem E4_hap {s s' : St} (h : E4 s s') (y sm md : Nat) : ∀ i, E4 (hap s y sm md i) (hap s' y sm md i) := by
  intro i
  induction i with
  | zero => exact h
  | succ i ih => exact E4_mapp ih md (ih _ _ (by omega)) (ih _ _ (by omega)) (ih _ _ (by omega)) (ih _ _ (by omega)) (ih _ _ (by omega))
theorem Sim.e4 {m' : St} (h : Sim p c m) (e : E4 m m') (h4 : m.1 15 4 = m'.1 15 4) : Sim p c m' := h.same (fun _ _ _ _ _ _ => rfl) (fun a x _ _ _ => by
  by_cases z : a = 15 ∧ x = 4
  · obtain ⟨rfl, rfl⟩ := z; exact h4.symm
  · exact (e a x z).symm)
theorem E4_4 (s : St) (v : Int32) : E4 (uv s 15 4 v) s := fun a x z => by rw [uv_ap, if_neg z]
end SIM5
section SIM6
variable {c m : St}
theorem iv_fo (h : IV c m) (set : Int32) : IV (cfo c set).2 (mfo m set).2 ∧ OC (cfo c set).1 (mfo m set).1 ((mfo m set).2.1 15 0) 0 1 2 := by
  have hM := h.2.1.1
  have hK := MK_mfo h.2.1 set
  have h6 := hM.1.1.2
  have h8 := hM.1.2.2.2.1.2
  have hf : cfv c set ↔ mfv m set := by
    unfold cfv mfv
    rw [h.1.rcl]
    exact fv_iff h6 set
  unfold cfo mfo at *
  by_cases q1 : mfv m set
  · rw [cI_t (hf.mpr q1), cI_t q1]
    rw [cI_t q1] at hK
    have es := h.1.sF hM set
    have hlt : (csF c set < 0 ∨ 8 ≤ rd c 8 6) ↔ (msF m set = -1 ∨ rd m 15 4 = 8) := by
      rw [es, h.1.rbr]
      constructor
      · rintro (z | z)
        · refine Or.inl (Classical.byContradiction fun y => ?_)
          have := msF_n hM h.2.1.2 set y
          rw [this.1] at z
          exact absurd z (Int32.not_lt.mpr (nI_ge0 _ (by have := this.2; omega)))
        · exact Or.inr (by omega)
      · rintro (z | z)
        · exact Or.inl (by rw [z]; decide)
        · exact Or.inr (by omega)
    by_cases q2 : msF m set = -1 ∨ rd m 15 4 = 8
    · rw [cI_t (hlt.mpr q2), cI_t q2]
      exact ⟨h.th2 _, Or.inr (Or.inr (Or.inr ⟨by decide, rfl, th_s _ _⟩))⟩
    · rw [cI_f (fun z => q2 (hlt.mp z)), cI_f q2]
      rw [cI_f q2] at hK
      have hn := msF_n hM h.2.1.2 set (fun z => q2 (Or.inl z))
      have hB : rd m 15 4 < 8 := by
        rcases Nat.lt_or_ge (rd m 15 4) 8 with z | z
        · exact z
        · exact absurd (Or.inr (by omega)) q2
      have hl := (hM.len (b := cn (msF m set)) (by omega)).2
      have h0 := h.th (nI 0)
      rw [es, h.1.rbr, h.1.rcl]
      have e4 : rd (m0 m) 15 4 = rd m 15 4 := rd_idx _ _ _ _ (by decide)
      have eL : ∀ b, rd (m0 m) 16 b = rd m 16 b := fun b => rd_uv (by decide) _ _ _ _
      have s1 : Sim (rd m 15 1 ≠ 0) (uv c 8 6 (nI (rd m 15 4 + 1))) (uv (m0 m) 15 4 (nI (rd m 15 4 + 1))) := (h.1.m15 (x := 0) (nI 0) (by omega)).put _ (Cor.num (by omega))
      have el : rd (uv (m0 m) 15 4 (nI (rd m 15 4 + 1))) 16 (cn (msF m set)) = rd m 16 (cn (msF m set)) := (rd_uv (by decide) _ _ _ _).trans (eL _)
      have s2 := s1.cpy (t := rd m 15 4) (f := cn (msF m set)) hB (by omega) (by rw [el]; exact hl)
      rw [el] at s2
      have s3 := s2.fs set (rd m 15 4) (n := rd m 15 1) h6
      have e23 : (mcps (uv (m0 m) 15 4 (nI (rd m 15 4 + 1))) (cn (msF m set)) (rd m 15 4) (rd m 16 (cn (msF m set)))).1 23 = m.1 23 := funext fun x => by
        rw [mcps_o _ _ _ _ _ (by omega), uv_cell _ _ _ _ (by decide), uv_cell _ _ _ _ (by decide)]
      rw [e23] at s3
      have eE : E4 (ur (mcps (uv (m0 m) 15 4 (nI (rd m 15 4 + 1))) (cn (msF m set)) (rd m 15 4) (rd m 16 (cn (msF m set)))) 23 (fkr (m.1 23) set (nI (rd m 15 4)) (rd m 15 1))) (uv (ur (mcps (m0 m) (cn (msF m set)) (rd m 15 4) (rd m 16 (cn (msF m set)))) 23 (fkr (m.1 23) set (nI (rd m 15 4)) (rd m 15 1))) 15 4 (nI (rd m 15 4 + 1))) := by
        intro a x z
        rw [ur_ap, uv_ap, if_neg z, ur_ap, E4_mcps (E4_4 (m0 m) _) _ _ _ a x z]
      have s4 := s3.e4 eE (by
        rw [uv_same, ur_ap, if_neg (by decide), mcps_o _ _ _ _ _ (by omega), uv_same])
      have a0 : MA (m0 m) (rd (m0 m) 15 4) := h0.2.2.2
      have a1 : MA (mcps (m0 m) (cn (msF m set)) (rd m 15 4) (rd m 16 (cn (msF m set)))) (rd m 15 4 + 1) := by
        have := MA_cps (m := m0 m) (f := cn (msF m set)) a0 (by rw [e4]; exact hn.2) (by rw [e4]; exact hB) (by rw [eL]; exact hl) (fun b hb => by rw [eL]; exact (hM.len hb).2)
        rw [e4, eL] at this
        exact this
      have r4 : rd (uv (ur (mcps (m0 m) (cn (msF m set)) (rd m 15 4) (rd m 16 (cn (msF m set)))) 23 (fkr (m.1 23) set (nI (rd m 15 4)) (rd m 15 1))) 15 4 (nI (rd m 15 4 + 1))) 15 4 = rd m 15 4 + 1 := rd_of (uv_same _ _ _ _) (by omega)
      refine ⟨IV_of h hK s4 (MV_same (MV_cps (m := m0 m) (f := cn (msF m set)) (t := rd m 15 4) h0.2.2.1 (by omega) hl) (fun i => by rw [uv_cell _ _ _ _ (by decide), ur_cell _ _ _ (by decide)])) ?_, Or.inl ⟨rfl, nI_ge0 _ (by omega), ?_⟩⟩
      · show MA _ (rd (uv _ 15 4 _) 15 4)
        rw [r4]
        exact MA_same a1 (by rw [uv_idx _ _ _ _ (by decide), ur_cell _ _ _ (by decide)]) (fun _ _ => by rw [uv_cell _ _ _ _ (by decide), ur_cell _ _ _ (by decide)]) (fun _ => by rw [uv_cell _ _ _ _ (by decide), ur_cell _ _ _ (by decide)]) (fun _ => by rw [uv_cell _ _ _ _ (by decide), ur_cell _ _ _ (by decide)])
      · show (uv (ur (mcps _ _ _ _) _ _) 15 4 _).1 15 0 = nI 0
        rw [uv_idx _ _ _ _ (by decide), ur_cell _ _ _ (by decide), mcps_o _ _ _ _ _ (by omega)]
        exact th_s _ _
  · rw [cI_f (fun z => q1 (hf.mp z)), cI_f q1]
    exact ⟨h.th2 _, Or.inr (Or.inr (Or.inl ⟨by decide, rfl, th_s _ _⟩))⟩
end SIM6
