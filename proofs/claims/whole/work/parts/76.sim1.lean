/-! the primitives of class and reference keep Sim -/
def MV (m : St) : Prop := ∀ i, i < 1600 → vb (m.1 20 i) 999999
theorem hq_eq {h kd au bl va li n : Int32} (hv : vb va 999999) : hq2 h kd au bl va li n = hq h kd au bl va li n := by
  unfold hq2 hq
  have e : (va + nI 1).toInt64 = va.toInt64 + 1 := by
    obtain ⟨e1, e2⟩ := hv
    rw [e1, nI_add]
    have a1 : ∀ k : Nat, k < 2 ^ 31 → (nI k).toInt64.toInt = (k : Int) := fun k hk => by
      rw [Int32.toInt_toInt64, nI_toInt hk]
    apply Int64.toInt_inj.mp
    rw [a1 _ (by omega), Int64.toInt_add, a1 _ (by omega)]
    have : (1 : Int64).toInt = 1 := rfl
    rw [this, Int.bmod_eq_of_le (by omega) (by omega)]
    omega
  by_cases h2 : kd = nI 2
  · rw [if_pos h2, if_pos h2]
  · rw [if_neg h2, if_neg h2]
    by_cases h1 : kd = nI 1
    · rw [if_pos h1, if_pos h1, e, ← Int64.add_assoc (h.toInt64 * 1000003 + n.toInt64)]
    · rw [if_neg h1, if_neg h1, ← Int64.add_assoc (h.toInt64 * 1000003 + n.toInt64)]
section SIM1
variable {p : Prop} {c m : St}
theorem Sim.cmp (h : Sim p c m) (hV : MV m) {b n : Nat} (hb : b < 8) (h1 : 1 ≤ n) (h2 : n ≤ 200) : ccm c b n = mcomp m b n := by
  unfold ccm mcomp
  rw [h.has hb (by omega), h.ent hb (by decide) (by decide) h1 h2, h.ent (i := 2) hb (by decide) (by decide) h1 h2, h.ent (i := 3) hb (by decide) (by decide) h1 h2, h.ent (i := 4) hb (by decide) (by decide) h1 h2, h.ent (i := 5) hb (by decide) (by decide) h1 h2]
  exact hq_eq (hV _ (by omega))
theorem mapp6_ap (m : St) (b : Nat) (kd au bl va li : Int32) (a x : Nat) : (mapp6 m b kd au bl va li).1 a x = if a = 21 ∧ x = 200 * b + (rd m 16 b + 1) - 1 then li else if a = 20 ∧ x = 200 * b + (rd m 16 b + 1) - 1 then va else if a = 19 ∧ x = 200 * b + (rd m 16 b + 1) - 1 then bl else if a = 18 ∧ x = 200 * b + (rd m 16 b + 1) - 1 then au else if a = 17 ∧ x = 200 * b + (rd m 16 b + 1) - 1 then kd else if a = 16 ∧ x = b then nI (rd m 16 b + 1) else m.1 a x := by
  unfold mapp6
  rw [uv_ap, uv_ap, uv_ap, uv_ap, uv_ap, uv_ap]
theorem cap6_ap (c : St) (b : Nat) (kd au bl va li : Int32) (a x : Nat) : (cap6 c b kd au bl va li).1 a x = if a = 34 + 7 * b + 5 ∧ x = rd c (34 + 7 * b) 6 + 1 then li else if a = 34 + 7 * b + 4 ∧ x = rd c (34 + 7 * b) 6 + 1 then va else if a = 34 + 7 * b + 3 ∧ x = rd c (34 + 7 * b) 6 + 1 then bl else if a = 34 + 7 * b + 2 ∧ x = rd c (34 + 7 * b) 6 + 1 then au else if a = 34 + 7 * b + 1 ∧ x = rd c (34 + 7 * b) 6 + 1 then kd else if a = 34 + 7 * b ∧ x = 6 then nI (rd c (34 + 7 * b) 6 + 1) else c.1 a x := by
  unfold cap6
  rw [uv_ap, uv_ap, uv_ap, uv_ap, uv_ap, uv_ap]
theorem Sim.put2 (h : Sim p c m) {k j k' j' : Nat} {v v' : Int32} (hC : Cor p k j k' j') (e : v = v') : Sim p (uv c k j v) (uv m k' j' v') := by
  subst e
  exact h.put v hC
theorem Sim.app6 (h : Sim p c m) {b : Nat} (hb : b < 8) (hl : rd m 16 b < 200) (kd au bl va li : Int32) : Sim p (cap6 c b kd au bl va li) (mapp6 m b kd au bl va li) := by
  unfold cap6 mapp6
  rw [h.rlen hb]
  have e : ∀ i, 1 ≤ i → i ≤ 6 → Cor p (34 + 7 * b + i) (rd m 16 b + 1) (16 + i) (200 * b + (rd m 16 b + 1) - 1) := fun i h1 h2 => Cor.ent hb h1 h2 hl
  exact (((((h.put _ (Cor.size hb)).put _ (e 1 (by decide) (by decide))).put _ (e 2 (by decide) (by decide))).put _ (e 3 (by decide) (by decide))).put _ (e 4 (by decide) (by decide))).put _ (e 5 (by decide) (by decide))
theorem MV_mapp6 (hV : MV m) (b : Nat) (kd au bl li : Int32) {va : Int32} (hv : vb va 999999) : MV (mapp6 m b kd au bl va li) := by
  intro i hi
  rw [mapp6_ap]
  have := hV i hi
  split
  · omega
  · split
    · exact hv
    · rw [if_neg (by omega), if_neg (by omega), if_neg (by omega), if_neg (by omega)]; exact this
theorem MV_mapp (hV : MV m) (b : Nat) (kd au bl li : Int32) {va : Int32} (hv : vb va 999999) : MV (mapp m b kd au bl va li) := by
  intro i hi
  unfold mapp
  rw [uv_cell _ _ _ _ (by decide)]
  exact MV_mapp6 hV b kd au bl li hv i hi
theorem Sim.app (h : Sim p c m) (hV : MV m) {b : Nat} (hb : b < 8) (hl : rd m 16 b < 200) (kd au bl li : Int32) {va : Int32} (hv : vb va 999999) : Sim p (cap c b kd au bl va li) (mapp m b kd au bl va li) := by
  unfold cap mapp
  have h6 := h.app6 hb hl kd au bl va li
  rw [h6.cmp (MV_mapp6 hV b kd au bl li hv) hb (by omega) (by rw [h.rlen hb]; omega), h.rlen hb]
  exact h6.put _ (Cor.ent (i := 6) hb (by decide) (by decide) hl)
theorem cntA_eq {f e : Nat → Int32} {a : Nat} : ∀ n, (∀ i, i < n → f i = e i) → cntA f a n = cntA e a n := by
  intro n
  induction n with
  | zero => intro _; rfl
  | succ n ih =>
    intro h
    show cntA f a n + _ = cntA e a n + _
    rw [ih (fun i hi => h i (by omega)), h n (by omega)]
theorem Sim.tak (h : Sim p c m) {q b : Nat} (hq : q < 6) (hb : b < 8) (hl : rd m 16 b ≤ 200) : Sim p (cth c q b) (mtk m q b) := by
  have hL := h.rlen hb
  refine h.ext (fun a x => (a = 90 + 3 * q ∧ x = 2) ∨ (a = 90 + 3 * q + 1 ∧ x ≤ rd m 16 b) ∨ (a = 90 + 3 * q + 2 ∧ x < 6)) (fun a x => (a = 24 ∧ x = q) ∨ (a = 27 ∧ 201 * q ≤ x ∧ x ≤ 201 * q + rd m 16 b) ∨ (a = 26 ∧ 6 * q ≤ x ∧ x < 6 * q + 6)) ?_ ?_ ?_ ?_ ?_
  · intro a x z
    unfold cth
    rw [ur_ap]
    split
    · next e =>
      unfold ccn
      rw [if_neg (by omega), e]
    · rw [ur_ap]
      split
      · next e =>
        unfold va_cpy
        rw [if_neg (by omega), e]
      · rw [uv_ap, if_neg (by omega)]
  · intro a x z
    unfold mtk
    rw [ur_ap]
    split
    · next e =>
      unfold hi
      rw [if_neg (by omega), e]
    · rw [ur_ap]
      split
      · next e =>
        unfold vcn
        rw [if_neg (by omega), e]
      · rw [uv_ap, if_neg (by omega)]
  · intro a x a' x' z
    rcases z with ⟨b2, g⟩ | ⟨b2, i2, n2, g⟩ | ⟨q2, g⟩ | ⟨q2, n2, g⟩ | ⟨q2, j2, g⟩ | g | g | g <;> omega
  · intro a x a' x' z d1 d2
    rcases d1 with d1 | d1 | d1
    · have d3 : a' = 24 ∧ x' = q := by
        rcases z with ⟨b2, g⟩ | ⟨b2, i2, n2, g⟩ | ⟨q2, g⟩ | ⟨q2, n2, g⟩ | ⟨q2, j2, g⟩ | g | g | g <;> omega
      unfold cth mtk
      rw [ur_ap, if_neg (by omega), ur_ap, if_neg (by omega), uv_ap, if_pos d1, ur_ap, if_neg (by omega), ur_ap, if_neg (by omega), uv_ap, if_pos d3, hL]
    · obtain ⟨rfl, hx⟩ := d1
      have d3 : a' = 27 ∧ x' = 201 * q + x := by
        rcases z with ⟨b2, g⟩ | ⟨b2, i2, n2, g⟩ | ⟨q2, g⟩ | ⟨q2, n2, g⟩ | ⟨q2, j2, g⟩ | g | g | g <;> omega
      obtain ⟨rfl, rfl⟩ := d3
      unfold cth mtk
      rw [ur_ap, if_neg (by omega), ur_ap, if_pos rfl, ur_ap, if_pos rfl]
      unfold va_cpy hi
      rw [if_pos (by omega), if_pos (by omega), show 0 + (x - 0) = x by omega, show 201 * q + x - 201 * q = x by omega]
      exact h.has hb (by omega)
    · obtain ⟨rfl, hx⟩ := d1
      have d3 : a' = 26 ∧ x' = 6 * q + x := by
        rcases z with ⟨b2, g⟩ | ⟨b2, i2, n2, g⟩ | ⟨q2, g⟩ | ⟨q2, n2, g⟩ | ⟨q2, j2, g⟩ | g | g | g <;> omega
      obtain ⟨rfl, rfl⟩ := d3
      unfold cth mtk
      rw [ur_ap, if_pos rfl, ur_ap, if_neg (by decide), ur_ap, if_pos rfl]
      unfold ccn vcn
      rw [if_pos hx, if_pos (by omega), show 6 * q + x - 6 * q = x by omega, hL]
      rw [cntA_eq (a := x) (rd m 16 b) (fun i hi => ?_)]
      have := h.ent (i := 2) (n := i + 1) hb (by decide) (by decide) (by omega) (by omega)
      rw [show 200 * b + (i + 1) - 1 = 200 * b + i by omega] at this
      exact this
  · intro b2 hb2 z
    omega
theorem Sim.cpy (h : Sim p c m) {t f : Nat} (ht : t < 8) (hf : f < 8) (hl : rd m 16 f ≤ 200) : Sim p (ccp c t f) (mcps m f t (rd m 16 f)) := by
  have hL := h.rlen hf
  have key : ∀ i, 1 ≤ i → i ≤ 6 → ∀ x, (ccp c t f).1 (34 + 7 * t + i) x = if x ≤ rd m 16 f then c.1 (34 + 7 * f + i) x else c.1 (34 + 7 * t + i) x := by
    intro i h1 h2 x
    have hv : ∀ k, va_cpy (c.1 (34 + 7 * f + k)) (c.1 (34 + 7 * t + k)) 0 0 (rd c (34 + 7 * f) 6 + 1) x = if x ≤ rd m 16 f then c.1 (34 + 7 * f + k) x else c.1 (34 + 7 * t + k) x := by
      intro k
      unfold va_cpy
      rw [hL]
      by_cases z : x ≤ rd m 16 f
      · rw [if_pos (by omega), if_pos z, show 0 + (x - 0) = x by omega]
      · rw [if_neg (by omega), if_neg z]
    unfold ccp
    rw [uv_cell _ _ _ _ (by omega)]
    rcases (show i = 1 ∨ i = 2 ∨ i = 3 ∨ i = 4 ∨ i = 5 ∨ i = 6 by omega) with rfl | rfl | rfl | rfl | rfl | rfl
    · rw [ur_ap, if_neg (by omega), ur_ap, if_neg (by omega), ur_ap, if_neg (by omega), ur_ap, if_neg (by omega), ur_ap, if_neg (by omega), ur_ap, if_pos rfl]; exact hv 1
    · rw [ur_ap, if_neg (by omega), ur_ap, if_neg (by omega), ur_ap, if_neg (by omega), ur_ap, if_neg (by omega), ur_ap, if_pos rfl]; exact hv 2
    · rw [ur_ap, if_neg (by omega), ur_ap, if_neg (by omega), ur_ap, if_neg (by omega), ur_ap, if_pos rfl]; exact hv 3
    · rw [ur_ap, if_neg (by omega), ur_ap, if_neg (by omega), ur_ap, if_pos rfl]; exact hv 4
    · rw [ur_ap, if_neg (by omega), ur_ap, if_pos rfl]; exact hv 5
    · rw [ur_ap, if_pos rfl]; exact hv 6
  have mkey : ∀ a x, (mcps m f t (rd m 16 f)).1 a x = if a = 16 ∧ x = t then nI (rd m 16 f) else if 17 ≤ a ∧ a ≤ 22 ∧ 200 * t ≤ x ∧ x < 200 * t + rd m 16 f then m.1 a (x - 200 * t + 200 * f) else m.1 a x := by
    intro a x
    unfold mcps
    rw [uv_ap, mcp_ap]
  refine h.ext (fun a x => (a = 34 + 7 * t ∧ x = 6) ∨ (34 + 7 * t < a ∧ a ≤ 34 + 7 * t + 6 ∧ x ≤ rd m 16 f)) (fun a x => (a = 16 ∧ x = t) ∨ (17 ≤ a ∧ a ≤ 22 ∧ 200 * t ≤ x ∧ x < 200 * t + rd m 16 f)) ?_ ?_ ?_ ?_ ?_
  · intro a x z
    by_cases q : 34 + 7 * t < a ∧ a ≤ 34 + 7 * t + 6
    · have := key (a - (34 + 7 * t)) (by omega) (by omega) x
      rw [show 34 + 7 * t + (a - (34 + 7 * t)) = a by omega] at this
      rw [this, if_neg (by omega)]
    · unfold ccp
      rw [uv_ap, if_neg (by omega), ur_ap, if_neg (by omega), ur_ap, if_neg (by omega), ur_ap, if_neg (by omega), ur_ap, if_neg (by omega), ur_ap, if_neg (by omega), ur_ap, if_neg (by omega)]
  · intro a x z
    rw [mkey, if_neg (by omega), if_neg (by omega)]
  · intro a x a' x' z
    rcases z with ⟨b2, g⟩ | ⟨b2, i2, n2, g⟩ | ⟨q2, g⟩ | ⟨q2, n2, g⟩ | ⟨q2, j2, g⟩ | g | g | g <;> omega
  · intro a x a' x' z d1 d2
    rcases d1 with d1 | d1
    · have d3 : a' = 16 ∧ x' = t := by
        rcases z with ⟨b2, g⟩ | ⟨b2, i2, n2, g⟩ | ⟨q2, g⟩ | ⟨q2, n2, g⟩ | ⟨q2, j2, g⟩ | g | g | g <;> omega
      obtain ⟨rfl, rfl⟩ := d1
      rw [mkey, if_pos d3, show (ccp c t f).1 (34 + 7 * t) 6 = nI (rd c (34 + 7 * f) 6) from uv_same _ _ _ _, hL]
    · have d3 : ∃ i n, 1 ≤ i ∧ i ≤ 6 ∧ n < 200 ∧ a = 34 + 7 * t + i ∧ x = n + 1 ∧ a' = 16 + i ∧ x' = 200 * t + n := by
        rcases z with ⟨b2, g⟩ | ⟨b2, i2, n2, g⟩ | ⟨q2, g⟩ | ⟨q2, n2, g⟩ | ⟨q2, j2, g⟩ | g | g | g
        · omega
        · exact ⟨i2, n2, by omega, by omega, by omega, by omega, by omega, by omega, by omega⟩
        · omega
        · omega
        · omega
        · omega
        · omega
        · omega
      obtain ⟨i, n, i1, i2, hn, rfl, rfl, rfl, rfl⟩ := d3
      rw [key i i1 i2, if_pos d1.2.2, mkey, if_neg (by omega), if_pos (by omega)]
      have := h.ent (i := i) (n := n + 1) hf i1 i2 (by omega) (by omega)
      rw [this, show 200 * f + (n + 1) - 1 = 200 * t + n - 200 * t + 200 * f by omega]
  · intro b hb z
    rcases z with z | z
    · omega
    · have e : b = t := by omega
      subst e
      rw [key 6 (by decide) (by decide), if_pos (Nat.zero_le _)]
      exact h.2 f hf
theorem uv_sw (σ : St) {k j k' j' : Nat} (v v' : Int32) (h : ¬ (k = k' ∧ j = j')) : uv (uv σ k j v) k' j' v' = uv (uv σ k' j' v') k j v := by
  refine St_ext (fun a x => ?_) rfl
  rw [uv_ap, uv_ap, uv_ap, uv_ap]
  by_cases z1 : a = k ∧ x = j
  · rw [if_neg (by omega), if_pos z1, if_pos z1]
  · rw [if_neg z1, if_neg z1]
theorem Sim.shb (h : Sim p c m) (hB : nb m 15 22 60) : Sim p (cr0 c 11 60 6) (uv (mb0 m) 15 22 (nI (mbn m + 1))) ∧ crn c 11 60 = mbn m ∧ mbn m < 60 := by
  have hb2 := hB.2
  have e1 : crn c 11 60 = mbn m := by
    unfold crn mbn
    rw [h.rbl]
    by_cases q : rd m 15 22 = 60
    · rw [if_pos (by omega), if_pos q]
    · rw [if_neg (by omega), if_neg q]
  have e2 : mbn m < 60 := by
    unfold mbn
    split <;> omega
  refine ⟨?_, e1, e2⟩
  unfold cr0 mb0
  rw [e1, h.rbl]
  by_cases q : rd m 15 22 = 60
  · rw [if_pos (by omega), if_pos q]
    have h2 : Sim p (ur c (11 + 1) (va_cpy (c.1 (11 + 1)) (c.1 (11 + 1)) 6 0 ((60 - 1) * 6))) (ur m 30 (shf (m.1 30) 6 360)) := by
      refine h.ext (fun a _ => a = 12) (fun a _ => a = 30) (fun a x z => by rw [ur_ap, if_neg (by omega)]) (fun a x z => by rw [ur_ap, if_neg (by omega)]) ?_ ?_ ?_
      · intro a x a' x' z
        rcases z with ⟨b2, g⟩ | ⟨b2, i2, n2, g⟩ | ⟨q2, g⟩ | ⟨q2, n2, g⟩ | ⟨q2, j2, g⟩ | g | g | g <;> omega
      · intro a x a' x' z d1 d2
        have d3 : x' = x ∧ x < 360 := by
          rcases z with ⟨b2, g⟩ | ⟨b2, i2, n2, g⟩ | ⟨q2, g⟩ | ⟨q2, n2, g⟩ | ⟨q2, j2, g⟩ | g | g | g <;> omega
        obtain ⟨rfl, hx⟩ := d3
        subst d1
        subst d2
        rw [ur_ap, if_pos rfl, ur_ap, if_pos rfl]
        unfold va_cpy shf
        by_cases z2 : x' + 6 < 360
        · rw [if_pos (by omega), if_pos z2, show 6 + (x' - 0) = x' + 6 by omega]
          exact h.bla z2
        · rw [if_neg (by omega), if_neg z2]
          exact h.bla hx
      · intro b hb z
        omega
    have h3 := (h2.put (nI (mbn m + 1)) (Cor.num (a := 11) (x := 3) (x' := 22) (by omega)))
    rw [uv_uv]
    exact h3
  · rw [if_neg (by omega), if_neg q]
    exact h.put _ (Cor.num (by omega))
theorem Sim.blm (h : Sim p c m) (hB : nb m 15 22 60) (kd q o n f s : Int32) : Sim p (cbl c kd q o n f s) (mblm m kd q o n f s) := by
  obtain ⟨h1, e1, e2⟩ := h.shb hB
  have e : mblm m kd q o n f s = uv (uv (uv (uv (uv (uv (uv (mb0 m) 15 22 (nI (mbn m + 1))) 30 (6 * mbn m) kd) 30 (6 * mbn m + 1) q) 30 (6 * mbn m + 2) o) 30 (6 * mbn m + 3) n) 30 (6 * mbn m + 4) f) 30 (6 * mbn m + 5) s := by
    unfold mblm
    rw [uv_sw _ s _ (by omega), uv_sw _ f _ (by omega), uv_sw _ n _ (by omega), uv_sw _ o _ (by omega), uv_sw _ q _ (by omega), uv_sw _ kd _ (by omega)]
  rw [e]
  unfold cbl
  rw [e1, show mbn m * 6 + 0 = 6 * mbn m by omega, show mbn m * 6 + 1 = 6 * mbn m + 1 by omega, show mbn m * 6 + 2 = 6 * mbn m + 2 by omega, show mbn m * 6 + 3 = 6 * mbn m + 3 by omega, show mbn m * 6 + 4 = 6 * mbn m + 4 by omega, show mbn m * 6 + 5 = 6 * mbn m + 5 by omega]
  exact (((((h1.put _ (Cor.bla (by omega))).put _ (Cor.bla (by omega))).put _ (Cor.bla (by omega))).put _ (Cor.bla (by omega))).put _ (Cor.bla (by omega))).put _ (Cor.bla (by omega))
theorem Sim.shp (h : Sim p c m) (hB : nb m 15 21 40) : Sim p (cr0 c 13 40 4) (uv (mp0 m) 15 21 (nI (mpn m + 1))) ∧ crn c 13 40 = mpn m ∧ mpn m < 40 := by
  have hb2 := hB.2
  have e1 : crn c 13 40 = mpn m := by
    unfold crn mpn
    rw [h.rps]
    by_cases q : rd m 15 21 = 40
    · rw [if_pos (by omega), if_pos q]
    · rw [if_neg (by omega), if_neg q]
  have e2 : mpn m < 40 := by
    unfold mpn
    split <;> omega
  refine ⟨?_, e1, e2⟩
  unfold cr0 mp0
  rw [e1, h.rps]
  by_cases q : rd m 15 21 = 40
  · rw [if_pos (by omega), if_pos q]
    have h2 : Sim p (ur c (13 + 1) (va_cpy (c.1 (13 + 1)) (c.1 (13 + 1)) 4 0 ((40 - 1) * 4))) (ur m 29 (shf (m.1 29) 4 160)) := by
      refine h.ext (fun a _ => a = 14) (fun a _ => a = 29) (fun a x z => by rw [ur_ap, if_neg (by omega)]) (fun a x z => by rw [ur_ap, if_neg (by omega)]) ?_ ?_ ?_
      · intro a x a' x' z
        rcases z with ⟨b2, g⟩ | ⟨b2, i2, n2, g⟩ | ⟨q2, g⟩ | ⟨q2, n2, g⟩ | ⟨q2, j2, g⟩ | g | g | g <;> omega
      · intro a x a' x' z d1 d2
        have d3 : x' = x ∧ x < 160 := by
          rcases z with ⟨b2, g⟩ | ⟨b2, i2, n2, g⟩ | ⟨q2, g⟩ | ⟨q2, n2, g⟩ | ⟨q2, j2, g⟩ | g | g | g <;> omega
        obtain ⟨rfl, hx⟩ := d3
        subst d1
        subst d2
        rw [ur_ap, if_pos rfl, ur_ap, if_pos rfl]
        unfold va_cpy shf
        by_cases z2 : x' + 4 < 160
        · rw [if_pos (by omega), if_pos z2, show 4 + (x' - 0) = x' + 4 by omega]
          exact h.pst z2
        · rw [if_neg (by omega), if_neg z2]
          exact h.pst hx
      · intro b hb z
        omega
    have h3 := (h2.put (nI (mpn m + 1)) (Cor.num (a := 13) (x := 3) (x' := 21) (by omega)))
    rw [uv_uv]
    exact h3
  · rw [if_neg (by omega), if_neg q]
    exact h.put _ (Cor.num (by omega))
theorem mp0_uv (m : St) (v : Int32) : mp0 (uv m 15 23 v) = uv (mp0 m) 15 23 v ∧ mpn (uv m 15 23 v) = mpn m := by
  have e : rd (uv m 15 23 v) 15 21 = rd m 15 21 := rd_idx _ _ _ _ (by decide)
  unfold mp0 mpn
  rw [e]
  refine ⟨?_, rfl⟩
  split
  · have e2 : ur (uv m 15 23 v) 29 (shf ((uv m 15 23 v).1 29) 4 160) = uv (ur m 29 (shf (m.1 29) 4 160)) 15 23 v := by
      rw [uv_fun _ _ _ (by decide)]
      refine St_ext (fun a x => ?_) rfl
      rw [ur_ap, uv_ap, uv_ap, ur_ap]
      by_cases z : a = 29
      · rw [if_pos z, if_neg (by omega), if_pos z]
      · rw [if_neg z]
        by_cases z2 : a = 15 ∧ x = 23
        · rw [if_pos z2, if_pos z2]
        · rw [if_neg z2, if_neg z2, if_neg z]
    rw [e2, uv_sw _ _ _ (by decide)]
  · rfl
theorem Sim.pstP (h : Sim p c m) (hp : p) (hM : MI m) {q : Nat} (hq : q < 6) : Sim p (cps c q) (mpst m q) := by
  have hpo := (hM.pos hq).2
  have es : csl c q = msl m q := by
    unfold csl msl
    rw [h.sea hp, h.rpos hq, h.his hq hpo]
  have h0 : Sim p (uv c 8 8 (csl c q)) (uv m 15 23 (msl m q)) := h.put2 (Cor.num (by simp [hp])) es
  have hB : nb (uv m 15 23 (msl m q)) 15 21 40 := nb_cg (uv_idx _ _ _ _ (by decide)) hM.posts hM.posts.2
  obtain ⟨h1, e1, e2⟩ := h0.shp hB
  obtain ⟨e3, e4⟩ := mp0_uv m (msl m q)
  rw [e4] at e1 e2
  rw [e3, e4] at h1
  have e : mpst m q = uv (uv (uv (uv (uv (uv (mp0 m) 15 23 (msl m q)) 15 21 (nI (mpn m + 1))) 29 (4 * mpn m) (nI q)) 29 (4 * mpn m + 1) (nI (rd m 24 q))) 29 (4 * mpn m + 2) (m.1 27 (201 * q + rd m 24 q))) 29 (4 * mpn m + 3) (msl m q) := by
    unfold mpst
    rw [uv_sw _ (msl m q) (nI (mpn m + 1)) (by omega), uv_sw _ (m.1 27 (201 * q + rd m 24 q)) _ (by omega), uv_sw _ (nI (rd m 24 q)) _ (by omega), uv_sw _ (nI q) _ (by omega)]
  rw [e]
  unfold cps
  rw [e1, show mpn m * 4 + 0 = 4 * mpn m by omega, show mpn m * 4 + 1 = 4 * mpn m + 1 by omega, show mpn m * 4 + 2 = 4 * mpn m + 2 by omega, show mpn m * 4 + 3 = 4 * mpn m + 3 by omega, h.rpos hq, h.his hq hpo]
  exact (((h1.put _ (Cor.pst (by omega))).put _ (Cor.pst (by omega))).put _ (Cor.pst (by omega))).put2 (Cor.pst (by omega)) es
end SIM1
