/-! heal; calm and adopt -/
section SIM7
variable {p : Prop} {c m : St}
theorem Sim.hp (h : Sim p c m) (hM : MI m) (hV : MV m) {y sm md : Nat} (hy : y ≠ md) (hy8 : y < 8) (hm8 : md < 8) : ∀ i, rd m 16 md + i ≤ 200 → sm + i ≤ 200 → Sim p (cho c md y sm i) (hap m y sm md i) ∧ MV (hap m y sm md i) := by
  intro i
  induction i with
  | zero => intro _ _; exact ⟨h, hV⟩
  | succ i ih =>
    intro h1 h2
    obtain ⟨s, v⟩ := ih (by omega) (by omega)
    obtain ⟨a1, a2, a3⟩ := hap_f hM hy hy8 hm8 (sm := sm) i (by omega) (by omega)
    have hr : rd (hap m y sm md i) 16 md = rd m 16 md + i := rd_of a3 (by omega)
    have e := fun k k1 k2 => s.ent (b := y) (i := k) (n := sm + 1 + i) hy8 k1 k2 (by omega) (by omega)
    show Sim p (cap _ _ _ _ _ _ _) (mapp _ _ _ _ _ _ _) ∧ MV (mapp _ _ _ _ _ _ _)
    have hvv : vb ((hap m y sm md i).1 20 (200 * y + (sm + 1 + i) - 1)) 999999 := v _ (by omega)
    rw [e 1 (by decide) (by decide), e 2 (by decide) (by decide), e 3 (by decide) (by decide), e 4 (by decide) (by decide), e 5 (by decide) (by decide)]
    exact ⟨s.app v hm8 (by omega) _ _ _ _ hvv, MV_mapp v _ _ _ _ _ hvv⟩
theorem MA_hap {m : St} {y sm md : Nat} (hM : MI m) (hA : MA m (md + 1)) (hy : y < md) (hm8 : md < 8) : ∀ i, rd m 16 md + i ≤ 200 → sm + i ≤ rd m 16 y → MA (hap m y sm md i) (md + 1) := by
  intro i
  have ly := (hM.len (b := y) (by omega)).2
  induction i with
  | zero => intro _ _; exact hA
  | succ i ih =>
    intro h1 h2
    have a := ih (by omega) (by omega)
    obtain ⟨a1, a2, a3⟩ := hap_f hM (y := y) (md := md) (by omega) (by omega) hm8 (sm := sm) i (by omega) (by omega)
    have hr : rd (hap m y sm md i) 16 md = rd m 16 md + i := rd_of a3 (by omega)
    have hr2 : rd (hap m y sm md i) 16 y = rd m 16 y := rd_of a2 (by omega)
    refine MA_app a (by omega) (by omega) (by omega) (fun b hb => (a1.len (by omega)).2) _ _ _ _ ?_
    have := a.1 y (by omega) (sm + i) (by omega)
    rw [show 200 * y + (sm + 1 + i) - 1 = 200 * y + (sm + i) by omega]
    exact this
theorem Sim.bo (h : Sim p c m) (hM : MI m) {q md : Nat} (hq : q < 6) (hmd : md < 8) (fo : Int32) (sm : Nat) : Sim p (cbo c q fo sm md) (mcv m q fo sm md) := by
  have hs := (hM.see hq).2
  have hpo := (hM.pos hq).2
  have hl := (hM.len (b := rd m 23 q) (by omega)).2
  have hlm := (hM.len (b := md) hmd).2
  have e : cft c q (rd c (90 + 3 * q) 3) ↔ mgw m q := by
    unfold cft mgw
    rw [h.rsee hq, h.rpos hq, h.rlen (by omega), h.his hq hpo]
    constructor
    · rintro ⟨a, b⟩; rw [h.has (by omega) (by omega)] at b; exact ⟨a, b⟩
    · rintro ⟨a, b⟩; rw [h.has (by omega) (by omega)]; exact ⟨a, b⟩
  unfold cbo mcv
  refine Sim.put ?_ _ (Cor.see hq)
  rw [h.rpos hq]
  have s1 := h.put (nI 0) (Cor.sus hq)
  by_cases q1 : mgw m q
  · rw [cI_t (e.mpr q1), cI_t q1]
    by_cases q2 : ¬ fo = 0 ∧ sm < rd m 24 q
    · rw [cI_t q2, cI_t q2]
      exact s1.tak hq hmd (by rw [rd_uv (by decide)]; exact hlm)
    · rw [cI_f q2, cI_f q2]; exact s1
  · rw [cI_f (fun z => q1 (e.mp z)), cI_f q1]; exact h
theorem Sim.cv (h : Sim p c m) (hM : MI m) {md : Nat} (hmd : md < 8) (x y sm : Nat) : ∀ n, n ≤ 6 → Sim p (chl c x y sm md n) (hcv m x y sm md n) := by
  intro n
  induction n with
  | zero => intro _; exact h
  | succ n ih =>
    intro hn
    have s := ih (by omega)
    have a := MI_hcv hM x y sm hmd n
    show Sim p (cI _ _ _) (cI _ _ _)
    rw [s.rsee (by omega)]
    by_cases q : rd (hcv m x y sm md n) 23 n = x ∨ rd (hcv m x y sm md n) 23 n = y
    · rw [cI_t q, cI_t q]
      exact s.bo a (by omega) hmd _ _
    · rw [cI_f q, cI_f q]; exact s
theorem MA_mcv {m : St} {B q md : Nat} (h : MA m B) (hmd : md < B) (hq : q < 6) (h6 : rd m 15 1 ≤ 6) (fo : Int32) (sm : Nat) : MA (mcv m q fo sm md) B := by
  have o : ∀ {s : St} (k j : Nat) (v : Int32), k = 28 ∨ k = 23 → MA s B → MA (uv s k j v) B := fun k j v hk h => MA_same h (uv_cell _ _ _ _ (by omega)) (fun _ _ => uv_cell _ _ _ _ (by omega)) (fun _ => uv_cell _ _ _ _ (by omega)) (fun _ => uv_cell _ _ _ _ (by omega))
  unfold mcv
  refine o _ _ _ (Or.inr rfl) (cI_a2 (Q := fun z : St => MA z B) (fun _ => cI_a2 (Q := fun z : St => MA z B) (fun _ => MA_tk (o _ _ _ (Or.inl rfl) h) hmd hq (by rw [rd_uv (by decide)]; exact h6)) fun _ => o _ _ _ (Or.inl rfl) h) fun _ => h)
theorem MAV_hcv {m : St} {B md : Nat} (hM : MI m) (h : MA m B) (hV : MV m) (hmd : md < B) (hm8 : md < 8) (x y sm : Nat) : ∀ n, n ≤ 6 → MA (hcv m x y sm md n) B ∧ MV (hcv m x y sm md n) := by
  intro n
  induction n with
  | zero => intro _; exact ⟨h, hV⟩
  | succ n ih =>
    intro hn
    obtain ⟨a, b⟩ := ih (by omega)
    have hh := MI_hcv hM x y sm hm8 n
    refine cI_a2 (Q := fun z : St => MA z B ∧ MV z) (fun _ => ⟨MA_mcv a hmd (by omega) hh.1.1.2 _ _, ?_⟩) fun _ => ⟨a, b⟩
    refine MV_same b (fun i => ?_)
    unfold mcv
    rw [uv_cell _ _ _ _ (by decide)]
    refine cI_a2 (Q := fun z : St => z.1 20 i = (hcv m x y sm md n).1 20 i) (fun _ => cI_a2 (Q := fun z : St => z.1 20 i = (hcv m x y sm md n).1 20 i) (fun _ => ?_) fun _ => uv_cell _ _ _ _ (by decide)) fun _ => rfl
    rw [mtk_o _ _ _ _ (by omega), uv_cell _ _ _ _ (by decide)]
end SIM7
section SIM8
variable {c m : St}
theorem hl_a (h : IV c m) {x y : Nat} (hx : x < rd m 15 4) (hy : y < rd m 15 4) (q2 : mhc m x y) : ∃ N : St, Sim (rd m 15 1 ≠ 0) (ch2 c x y) N ∧ E4 N (mh1 m x y) ∧ MV N ∧ N.1 15 4 = nI (rd m 15 4 + 1) := by
  have hM := h.2.1.1
  have h8 := hM.1.2.2.2.1.2
  have hx8 : x < 8 := by omega
  have hy8 : y < 8 := by omega
  have lx := (hM.len hx8).2
  have ly := (hM.len hy8).2
  have hcm := mcom_le m x y
  have hB : rd m 15 4 < 8 := by have := q2.2.1; omega
  have hle := q2.2.2
  have h0 := h.th (nI 0)
  have eL : ∀ b, rd (m0 m) 16 b = rd m 16 b := fun b => rd_uv (by decide) _ _ _ _
  have s1 : Sim (rd m 15 1 ≠ 0) (uv c 8 6 (nI (rd m 15 4 + 1))) (uv (m0 m) 15 4 (nI (rd m 15 4 + 1))) := (h.1.m15 (x := 0) (nI 0) (by omega)).put _ (Cor.num (by omega))
  have v0 : MV (uv (m0 m) 15 4 (nI (rd m 15 4 + 1))) := MV_same h0.2.2.1 (fun i => uv_cell _ _ _ _ (by decide))
  have eL2 : ∀ b, rd (uv (m0 m) 15 4 (nI (rd m 15 4 + 1))) 16 b = rd m 16 b := fun b => (rd_uv (by decide) _ _ _ _).trans (eL b)
  have eE0 := E4_4 (m0 m) (nI (rd m 15 4 + 1))
  have e44 : (uv (m0 m) 15 4 (nI (rd m 15 4 + 1))).1 15 4 = nI (rd m 15 4 + 1) := uv_same _ _ _ _
  generalize uv (m0 m) 15 4 (nI (rd m 15 4 + 1)) = M1 at s1 v0 eL2 eE0 e44
  have s2 := s1.cpy (t := rd m 15 4) (f := x) hB hx8 (by rw [eL2]; exact lx)
  rw [eL2] at s2
  have s2' : Sim (rd m 15 1 ≠ 0) (ch1 c x y) (mcps M1 x (rd m 15 4) (rd m 16 x)) := by
    unfold ch1
    rw [h.1.rbr]
    exact s2
  have v1 : MV (mcps M1 x (rd m 15 4) (rd m 16 x)) := MV_cps v0 hx8 lx
  have l1 : rd (mcps M1 x (rd m 15 4) (rd m 16 x)) 16 (rd m 15 4) = rd m 16 x := by
    refine rd_of ?_ (by omega)
    unfold mcps
    exact uv_same _ _ _ _
  have l2 : rd (mcps M1 x (rd m 15 4) (rd m 16 x)) 16 y = rd m 16 y := by
    refine (rd_eq ?_).trans (eL2 y)
    unfold mcps
    rw [uv_ap, if_neg (by omega), mcp_ap, if_neg (by omega)]
  have eE1 := E4_mcps eE0 x (rd m 15 4) (rd m 16 x)
  have e45 : (mcps M1 x (rd m 15 4) (rd m 16 x)).1 15 4 = nI (rd m 15 4 + 1) := by rw [mcps_o _ _ _ _ _ (by omega)]; exact e44
  generalize mcps M1 x (rd m 15 4) (rd m 16 x) = M2 at s2' v1 l1 l2 eE1 e45
  have hlk : (ch1 c x y).1 (34 + 7 * y + 6) (rd (ch1 c x y) (34 + 7 * y) 6) = mh (mcps (m0 m) x (rd m 15 4) (rd m 16 x)) y (rd m 16 y) := by
    rw [s2'.rlen hy8, l2, s2'.has hy8 ly]
    exact E4_mh eE1 _ _
  refine ⟨mapp M2 (rd m 15 4) (nI 2) (-1) (-1) (nI 0) (mh (mcps (m0 m) x (rd m 15 4) (rd m 16 x)) y (rd m 16 y)), ?_, ?_, ?_, ?_⟩
  · unfold ch2
    rw [hlk, h.1.rbr]
    exact s2'.app v1 hB (by rw [l1]; omega) _ _ _ _ (vb_nI (by decide) (by decide))
  · unfold mh1
    exact E4_mapp eE1 _ rfl rfl rfl rfl rfl
  · exact MV_mapp v1 _ _ _ _ _ (vb_nI (by decide) (by decide))
  · rw [mapp_o _ _ _ _ _ _ _ _ (by omega)]
    exact e45
theorem hl_b (h : IV c m) {x y : Nat} (hx : x < rd m 15 4) (hy : y < rd m 15 4) (q2 : mhc m x y) : Sim (rd m 15 1 ≠ 0) (ch3 c x y) (mh2 m x y) ∧ MV (mh2 m x y) ∧ MI (mh2 m x y) := by
  have hM := h.2.1.1
  have h8 := hM.1.2.2.2.1.2
  have hx8 : x < 8 := by omega
  have hy8 : y < 8 := by omega
  have lx := (hM.len hx8).2
  have ly := (hM.len hy8).2
  have hcm := mcom_le m x y
  have hB : rd m 15 4 < 8 := by have := q2.2.1; omega
  have hle := q2.2.2
  obtain ⟨m1, m2, m3, m4, m5⟩ := mh1_f hM hx hy q2
  obtain ⟨N, s3, eE, v3, e4⟩ := hl_a h hx hy q2
  have hM3 : MI N := by
    have hz : MI (uv (mh1 m x y) 15 4 (nI (rd m 15 4 + 1))) := MI_u15 m1 (by omega)
    refine MI_fr hz (fun u v _ _ _ => ?_)
    rw [uv_ap]
    by_cases z : u = 15 ∧ v = 4
    · rw [if_pos z]
      obtain ⟨rfl, rfl⟩ := z
      exact e4
    · rw [if_neg z]; exact eE u v z
  have r3 := E4_r eE (a := 16) (x := rd m 15 4) (by omega)
  rw [m5] at r3
  obtain ⟨s4, v4⟩ := s3.hp hM3 v3 (y := y) (sm := mcom m x y) (md := rd m 15 4) (by omega) hy8 hB (rd m 16 y - mcom m x y) (by rw [r3]; omega) (by omega)
  have hM2 : MI (mh2 m x y) := MI_u15 (hap_f m1 (y := y) (sm := mcom m x y) (md := rd m 15 4) (by omega) (by omega) hB (rd m 16 y - mcom m x y) (by omega) (by omega)).1 (by omega)
  refine ⟨?_, ?_, hM2⟩
  · have e3 : ch3 c x y = cho (ch2 c x y) (rd m 15 4) y (mcom m x y) (rd m 16 y - mcom m x y) := by
      unfold ch3
      rw [h.1.rbr, h.1.shr hM hx8 hy8, s3.rlen hy8, E4_r eE (a := 16) (x := y) (by omega), m4]
    rw [e3]
    refine s4.e4 (fun u v z => ?_) ?_
    · unfold mh2
      rw [uv_ap, if_neg z]
      exact E4_hap eE _ _ _ _ u v z
    · unfold mh2
      rw [uv_same, hap_o _ _ _ _ _ _ (by omega)]
      exact e4
  · refine MV_same v4 (fun i => ?_)
    unfold mh2
    rw [uv_cell _ _ _ _ (by decide)]
    exact (E4_hap eE _ _ _ _ 20 i (by omega)).symm
theorem hl_d (h : IV c m) {x y : Nat} (hx : x < rd m 15 4) (hy : y < rd m 15 4) (q2 : mhc m x y) : MA (mh2 m x y) (rd m 15 4 + 1) := by
  have hM := h.2.1.1
  have h8 := hM.1.2.2.2.1.2
  have hx8 : x < 8 := by omega
  have lx := (hM.len hx8).2
  have ly := (hM.len (b := y) (by omega)).2
  have hcm := mcom_le m x y
  have hB : rd m 15 4 < 8 := by have := q2.2.1; omega
  have hle := q2.2.2
  have h0 := h.th (nI 0)
  have eL : ∀ b, rd (m0 m) 16 b = rd m 16 b := fun b => rd_uv (by decide) _ _ _ _
  have e4 : rd (m0 m) 15 4 = rd m 15 4 := rd_idx _ _ _ _ (by decide)
  obtain ⟨m1, m2, m3, m4, m5⟩ := mh1_f hM hx hy q2
  have a0 : MA (m0 m) (rd (m0 m) 15 4) := h0.2.2.2
  have a1 : MA (mcps (m0 m) x (rd m 15 4) (rd m 16 x)) (rd m 15 4 + 1) := by
    have := MA_cps (m := m0 m) (f := x) a0 (by rw [e4]; exact hx) (by rw [e4]; exact hB) (by rw [eL]; exact lx) (fun b hb => by rw [eL]; exact (hM.len hb).2)
    rw [e4, eL] at this
    exact this
  have lc : ∀ d, rd (mcps (m0 m) x (rd m 15 4) (rd m 16 x)) 16 d = if d = rd m 15 4 then rd m 16 x else rd m 16 d := by
    intro d
    by_cases z : d = rd m 15 4
    · rw [if_pos z]
      refine rd_of ?_ (by omega)
      unfold mcps
      rw [uv_ap, if_pos ⟨rfl, z⟩]
    · rw [if_neg z]
      refine (rd_eq ?_).trans (eL d)
      unfold mcps
      rw [uv_ap, if_neg (by omega), mcp_ap, if_neg (by omega)]
  have a2 : MA (mh1 m x y) (rd m 15 4 + 1) := by
    unfold mh1
    refine MA_app a1 (by omega) (by omega) (by rw [lc, if_pos rfl]; omega) (fun d hd => ?_) _ _ _ _ (Or.inl rfl)
    rw [lc]
    split
    · exact lx
    · exact (hM.len (by omega)).2
  have a3 := MA_hap m1 a2 (y := y) (sm := mcom m x y) (md := rd m 15 4) hy hB (rd m 16 y - mcom m x y) (by omega) (by omega)
  unfold mh2
  exact MA_same a3 (uv_idx _ _ _ _ (by decide)) (fun _ _ => uv_cell _ _ _ _ (by decide)) (fun _ => uv_cell _ _ _ _ (by decide)) (fun _ => uv_cell _ _ _ _ (by decide))
theorem mh2_15 (m : St) (x y : Nat) : (mh2 m x y).1 15 4 = nI (rd m 15 4 + 1) ∧ (mh2 m x y).1 15 0 = nI 0 := by
  unfold mh2 mh1
  refine ⟨uv_same _ _ _ _, ?_⟩
  rw [uv_idx _ _ _ _ (by decide), hap_o _ _ _ _ _ _ (by omega), mapp_o _ _ _ _ _ _ _ _ (by omega), mcps_o _ _ _ _ _ (by omega)]
  exact th_s _ _
theorem iv_hl (h : IV c m) (a b : Int32) : IV (chel c a b).2 (mhl m a b).2 ∧ OC (chel c a b).1 (mhl m a b).1 ((mhl m a b).2.1 15 0) 1 0 2 := by
  have hM := h.2.1.1
  have hK := MK_mhl h.2.1 a b
  have h6 := hM.1.1.2
  have h8 := hM.1.2.2.2.1.2
  unfold chel mhl at *
  by_cases q1 : vlt (m.1 15 4) a ∧ vlt (m.1 15 4) b ∧ a ≠ b
  · rw [cI_t (show vl2 (nI (rd c 8 6)) a ∧ vl2 (nI (rd c 8 6)) b ∧ ¬ a = b from ⟨(h.1.vbr hM a).mpr q1.1, (h.1.vbr hM b).mpr q1.2.1, q1.2.2⟩), cI_t q1]
    rw [cI_t q1] at hK
    obtain ⟨x1, x2, x3⟩ := hM.br q1.1
    obtain ⟨y1, y2, y3⟩ := hM.br q1.2.1
    have hx8 : cn a < 8 := by omega
    have hy8 : cn b < 8 := by omega
    have hc : chc c (cn a) (cn b) ↔ mhc m (cn a) (cn b) := by
      unfold chc mhc
      rw [h.1.cnf hM hx8 hy8, h.1.rbr, h.1.rlen hx8, h.1.rlen hy8, h.1.shr hM hx8 hy8]
      constructor
      · rintro ⟨u, v, w⟩; exact ⟨u, by omega, w⟩
      · rintro ⟨u, v, w⟩; exact ⟨u, by omega, w⟩
    by_cases q2 : mhc m (cn a) (cn b)
    · rw [cI_t (hc.mpr q2), cI_t q2]
      rw [cI_t q2] at hK
      have hB : rd m 15 4 < 8 := by have := q2.2.1; omega
      rw [h.1.rbr, h.1.rcl, h.1.shr hM hx8 hy8]
      obtain ⟨s5, v5, hM2⟩ := hl_b h x2 y2 q2
      have a4 := hl_d h x2 y2 q2
      have e5 := mh2_15 m (cn a) (cn b)
      generalize mh2 m (cn a) (cn b) = M5 at s5 v5 hM2 a4 e5 hK
      have s6 := s5.cv hM2 hB (cn a) (cn b) (mcom m (cn a) (cn b)) (rd m 15 1) h6
      obtain ⟨a5, v6⟩ := MAV_hcv hM2 a4 v5 (md := rd m 15 4) (by omega) hB (cn a) (cn b) (mcom m (cn a) (cn b)) (rd m 15 1) h6
      have r4 : rd (hcv M5 (cn a) (cn b) (mcom m (cn a) (cn b)) (rd m 15 4) (rd m 15 1)) 15 4 = rd m 15 4 + 1 := rd_of (by rw [hcv_o _ _ _ _ _ _ _ (by decide)]; exact e5.1) (by omega)
      have t0 : (hcv M5 (cn a) (cn b) (mcom m (cn a) (cn b)) (rd m 15 4) (rd m 15 1)).1 15 0 = nI 0 := by rw [hcv_o _ _ _ _ _ _ _ (by decide)]; exact e5.2
      refine ⟨IV_of h hK s6 v6 ?_, Or.inl ⟨rfl, nI_ge0 _ (by omega), t0⟩⟩
      rw [r4]
      exact a5
    · rw [cI_f (fun z => q2 (hc.mp z)), cI_f q2]
      exact ⟨h.th2 _, Or.inr (Or.inr (Or.inr ⟨by decide, rfl, th_s _ _⟩))⟩
  · rw [cI_f (fun z => q1 ⟨(h.1.vbr hM a).mp z.1, (h.1.vbr hM b).mp z.2.1, z.2.2⟩), cI_f q1]
    exact ⟨h.th2 _, Or.inr (Or.inl ⟨by decide, rfl, th_s _ _⟩)⟩
theorem iv_ca (h : IV c m) (a : Int32) : IV (cI (vl2 (nI (rd c 8 4)) a) (uv c (90 + 3 * cn a) 5 (nI 0)) c) (mca m a).2 ∧ ((wCl c a = none ∧ c.1 (90 + 3 * cn a) 5 = (mca m a).1 ∧ (mca m a).2.1 15 0 = nI 0 ∧ (c.1 (90 + 3 * cn a) 5 = nI 0 ∨ c.1 (90 + 3 * cn a) 5 = nI 1)) ∨ (wCl c a = some exNo ∧ (mca m a).2.1 15 0 = nI 1)) := by
  have hM := h.2.1.1
  have hK := MK_mca h.2.1 a
  unfold mca wCl at *
  by_cases q1 : vlt (m.1 15 1) a
  · have q1' := (h.1.vcl hM a).mpr q1
    rw [cI_t q1', cI_t q1', cI_t q1]
    rw [cI_t q1] at hK
    obtain ⟨c1, c2, c3⟩ := hM.cl q1
    have h0 := h.th (nI 0)
    have s : Sim (rd m 15 1 ≠ 0) (uv c (90 + 3 * cn a) 5 (nI 0)) (uv (m0 m) 28 (cn a) (nI 0)) := (h.1.m15 (x := 0) (nI 0) (by omega)).put _ (Cor.sus (by omega))
    obtain ⟨v1, v2⟩ := MAV (m' := uv (m0 m) 28 (cn a) (nI 0)) h0.2.2.1 h0.2.2.2 (fun a x z => uv_cell _ _ _ _ (by omega))
    refine ⟨IV_of h hK s v1 v2, Or.inl ⟨rfl, h.1.sus (by omega), ?_, ?_⟩⟩
    · show (uv (m0 m) 28 (cn a) (nI 0)).1 15 0 = nI 0
      rw [uv_cell _ _ _ _ (by decide)]
      exact th_s _ _
    · rw [h.1.sus (by omega)]
      exact hM.v28 _ (by omega)
  · have q1' : ¬ vl2 (nI (rd c 8 4)) a := fun z => q1 ((h.1.vcl hM a).mp z)
    rw [cI_f q1', cI_f q1', cI_f q1]
    exact ⟨h.th _, Or.inr ⟨rfl, th_s _ _⟩⟩
theorem iv_ad (h : IV c m) (a : Int32) : IV (cI (vl2 (nI (rd c 8 4)) a) (uv (cth c (cn a) (rd c (90 + 3 * cn a) 3)) (90 + 3 * cn a) 5 (nI 0)) c) (mad m a).2 ∧ ((wCl c a = none ∧ (cth c (cn a) (rd c (90 + 3 * cn a) 3)).1 (90 + 3 * cn a) 2 = (mad m a).1 ∧ (mad m a).2.1 15 0 = nI 0) ∨ (wCl c a = some exNo ∧ (mad m a).2.1 15 0 = nI 1)) := by
  have hM := h.2.1.1
  have hK := MK_mad h.2.1 a
  unfold mad wCl at *
  by_cases q1 : vlt (m.1 15 1) a
  · have q1' := (h.1.vcl hM a).mpr q1
    rw [cI_t q1', cI_t q1', cI_t q1]
    rw [cI_t q1] at hK
    obtain ⟨c1, c2, c3⟩ := hM.cl q1
    have h0 := h.th (nI 0)
    have hs := h.2.1.2 (cn a) c2
    have h8 := hM.1.2.2.2.1.2
    have h6 := hM.1.1.2
    have hl := (hM.len (b := rd m 23 (cn a)) (by omega)).2
    have e4 : rd (m0 m) 15 4 = rd m 15 4 := rd_idx _ _ _ _ (by decide)
    have s0 : Sim (rd m 15 1 ≠ 0) (cth c (cn a) (rd c (90 + 3 * cn a) 3)) (mtk (m0 m) (cn a) (rd m 23 (cn a))) := by
      rw [h.1.rsee (by omega)]
      exact (h.1.m15 (x := 0) (nI 0) (by omega)).tak (by omega) (by omega) (by rw [rd_uv (by decide)]; exact hl)
    have s := s0.put (nI 0) (Cor.sus (q := cn a) (by omega))
    have a1 : MA (mtk (m0 m) (cn a) (rd m 23 (cn a))) (rd m 15 4) := by
      have := h0.2.2.2
      rw [e4] at this
      exact MA_tk this hs (by omega) (by rw [rd_idx _ _ _ _ (by decide)]; exact h6)
    have r4 : rd (uv (mtk (m0 m) (cn a) (rd m 23 (cn a))) 28 (cn a) (nI 0)) 15 4 = rd m 15 4 := by
      rw [rd_uv (by decide)]
      refine (rd_eq ?_).trans e4
      rw [mtk_o _ _ _ _ (by omega)]
    refine ⟨IV_of h hK s (MV_same h0.2.2.1 (fun i => by rw [uv_cell _ _ _ _ (by decide), mtk_o _ _ _ _ (by omega)])) ?_, Or.inl ⟨rfl, s0.pos (by omega), ?_⟩⟩
    · show MA _ (rd (uv _ 28 _ _) 15 4)
      rw [r4]
      exact MA_same a1 (uv_cell _ _ _ _ (by decide)) (fun _ _ => uv_cell _ _ _ _ (by decide)) (fun _ => uv_cell _ _ _ _ (by decide)) (fun _ => uv_cell _ _ _ _ (by decide))
    · show (uv (mtk _ _ _) 28 _ _).1 15 0 = nI 0
      rw [uv_cell _ _ _ _ (by decide), mtk_o _ _ _ _ (by omega)]
      exact th_s _ _
  · have q1' : ¬ vl2 (nI (rd c 8 4)) a := fun z => q1 ((h.1.vcl hM a).mp z)
    rw [cI_f q1', cI_f q1', cI_f q1]
    exact ⟨h.th2 _, Or.inr ⟨rfl, th_s _ _⟩⟩
end SIM8
