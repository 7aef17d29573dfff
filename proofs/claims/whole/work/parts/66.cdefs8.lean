/-! what the class's operations leave alone; the steps of a script -/
abbrev OKc (a : Nat) : Prop := (8 ≤ a ∧ a ≤ 14) ∨ (34 ≤ a ∧ a ≤ 107)
def KU (σ τ : St) : Prop := (∀ a, ¬ OKc a → τ.1 a = σ.1 a) ∧ τ.2 = σ.2
theorem KU.rf (σ : St) : KU σ σ := ⟨fun _ _ => rfl, rfl⟩
theorem KU.tr {σ τ υ : St} (h1 : KU σ τ) (h2 : KU τ υ) : KU σ υ := ⟨fun a q => (h2.1 a q).trans (h1.1 a q), h2.2.trans h1.2⟩
theorem KU.u {σ τ : St} (h : KU σ τ) {k j : Nat} (v : Int32) (hk : OKc k) : KU σ (uv τ k j v) := ⟨fun a q => (uv_fun τ j v (show a ≠ k from fun z => q (by rw [z]; exact hk))).trans (h.1 a q), h.2⟩
theorem KU.r {σ τ : St} (h : KU σ τ) {k : Nat} (f : Nat → Int32) (hk : OKc k) : KU σ (ur τ k f) := ⟨fun a q => (ur_fn τ f (show a ≠ k from fun z => q (by rw [z]; exact hk))).trans (h.1 a q), h.2⟩
theorem KU.c {σ τ υ : St} {p : Prop} (h1 : p → KU σ τ) (h2 : ¬ p → KU σ υ) : KU σ (cI p τ υ) := cI_a2 (Q := fun z => KU σ z) h1 h2
theorem KU_cap (σ : St) {b : Nat} (hb : b < 8) (kd au bl va li : Int32) : KU σ (cap σ b kd au bl va li) := (((((((KU.rf σ).u _ (by omega)).u _ (by omega)).u _ (by omega)).u _ (by omega)).u _ (by omega)).u _ (by omega)).u _ (by omega)
theorem KU_cho (σ : St) {b : Nat} (hb : b < 8) (o lo : Nat) : ∀ i, KU σ (cho σ b o lo i) := by
  intro i
  induction i with
  | zero => exact KU.rf σ
  | succ i ih => exact ih.tr (KU_cap _ hb _ _ _ _ _)
theorem KU_ccp (σ : St) {b : Nat} (hb : b < 8) (o : Nat) : KU σ (ccp σ b o) := (((((((KU.rf σ).r _ (by omega)).r _ (by omega)).r _ (by omega)).r _ (by omega)).r _ (by omega)).r _ (by omega)).u _ (by omega)
theorem KU_cth (σ : St) {c : Nat} (hc : c < 6) (b : Nat) : KU σ (cth σ c b) := (((KU.rf σ).u _ (by omega)).r _ (by omega)).r _ (by omega)
theorem KU_cr0 (σ : St) {k : Nat} (lim w : Nat) (hk : 8 ≤ k ∧ k ≤ 13) : KU σ (cr0 σ k lim w) := by
  unfold cr0
  refine KU.u ?_ _ (by omega)
  split
  · exact (KU.rf σ).r _ (by omega)
  · exact KU.rf σ
theorem KU_cbl (σ : St) (kd c o n f s : Int32) : KU σ (cbl σ kd c o n f s) := ((((((KU_cr0 σ _ _ (by omega)).u _ (by omega)).u _ (by omega)).u _ (by omega)).u _ (by omega)).u _ (by omega)).u _ (by omega)
theorem KU_cps (σ : St) (c : Nat) : KU σ (cps σ c) := ((((((KU.rf σ).u _ (by omega)).tr (KU_cr0 _ _ _ (by omega))).u _ (by omega)).u _ (by omega)).u _ (by omega)).u _ (by omega)
theorem KU_cbv (σ : St) (c : Nat) : KU σ (cbv σ c) := by
  unfold cbv
  split
  · exact KU_cbl _ _ _ _ _ _ _
  · split
    · exact KU_cbl _ _ _ _ _ _ _
    · split
      · exact KU_cbl _ _ _ _ _ _ _
      · exact KU_cbl _ _ _ _ _ _ _
theorem KU_coS {σ : St} (hI : CI σ) {c : Nat} (hc : c < 6) (kd w v : Int32) : KU σ (coS σ c kd w v) := by
  have hS := (hI.se hc).2
  have h1 : KU σ (cX σ c kd w v) := ((KU_cap σ (by omega) _ _ _ _ _).tr (KU_cth _ hc _)).u _ (by omega)
  exact coS_a (Q := fun τ => KU σ τ) (KU.rf σ) ((KU_cbv σ c).u _ (by omega)) fun _ => ⟨h1.tr (KU_cps _ _), h1⟩
theorem CI.cl {σ : St} (h : CI σ) {c : Int32} (q : vl2 (nI (rd σ 8 4)) c) : c = nI (cn c) ∧ cn c < rd σ 8 4 ∧ cn c < 6 := by
  have h1 := h.nc.2
  have := vl2_n (by omega) q
  exact ⟨this.1, this.2, by omega⟩
theorem CI.br {σ : St} (h : CI σ) {c : Int32} (q : vl2 (nI (rd σ 8 6)) c) : c = nI (cn c) ∧ cn c < rd σ 8 6 ∧ cn c < 8 := by
  have h1 := h.nr.2
  have := vl2_n (by omega) q
  exact ⟨this.1, this.2, by omega⟩
abbrev KUQ (σ : St) : Int32 × St → Prop := fun z => KU σ z.2
theorem KU_cwr {σ : St} (hI : CI σ) (c w v : Int32) : KU σ (cwr σ c w v).2 := by
  refine cI_a2 (Q := KUQ σ) (fun q => ?_) fun _ => KU.rf σ
  have hc := hI.cl q.1
  have h := fun v => KU_coS hI hc.2.2 (nI 1) w v
  exact cI_a2 (Q := KUQ σ) (fun _ => cI_a2 (Q := KUQ σ) (fun _ => h _) fun _ => h _) fun _ => KU.rf σ
theorem KU_crd {σ : St} (hI : CI σ) (c w : Int32) : KU σ (crd σ c w).2 := by
  refine cI_a2 (Q := KUQ σ) (fun q => ?_) fun _ => KU.rf σ
  have hc := hI.cl q.1
  have h := fun v => KU_coS hI hc.2.2 (nI 0) w v
  exact cI_a2 (Q := KUQ σ) (fun _ => h _) fun _ => h _
theorem KU_cpo {σ : St} (c : Int32) : KU σ (cpo σ c).2 := cI_a2 (Q := KUQ σ) (fun _ => KU_cps _ _) fun _ => KU.rf σ
theorem KU_cmv {σ : St} (hI : CI σ) (c b : Int32) : KU σ (cmv σ c b).2 := by
  refine cI_a2 (Q := KUQ σ) (fun q => ?_) fun _ => KU.rf σ
  have hc := hI.cl q.1
  exact (KU.rf σ).u _ (by omega)
theorem KU_crw {σ : St} (hI : CI σ) (b n : Int32) : KU σ (crw σ b n).2 := by
  refine cI_a2 (Q := KUQ σ) (fun q => ?_) fun _ => KU.rf σ
  have hc := hI.br q
  exact cI_a2 (Q := KUQ σ) (fun _ => (KU.rf σ).u _ (by omega)) fun _ => KU.rf σ
theorem KU_cco {σ : St} (hI : CI σ) (b n v : Int32) : KU σ (cco σ b n v).2 := by
  refine cI_a2 (Q := KUQ σ) (fun q => ?_) fun _ => KU.rf σ
  have hc := hI.br q.1
  exact cI_a2 (Q := KUQ σ) (fun _ => cI_a2 (Q := KUQ σ) (fun _ => (KU.rf σ).u _ (by omega)) fun _ => KU.rf σ) fun _ => KU.rf σ
theorem KU_cxc {σ : St} (hI : CI σ) (a b : Int32) : KU σ (cxc σ a b).2 := by
  refine cI_a2 (Q := KUQ σ) (fun q => ?_) fun _ => KU.rf σ
  have hc := hI.cl q.1
  have hd := hI.cl q.2.1
  exact cI_a2 (Q := KUQ σ) (fun _ => ((KU_cbl _ _ _ _ _ _ _).u _ (by omega)).u _ (by omega)) fun _ => cI_a2 (Q := KUQ σ) (fun _ => KU.rf σ) fun _ => cI_a2 (Q := KUQ σ) (fun _ => KU.rf σ) fun _ => KU.rf σ
theorem KU_cfs (σ : St) (set : Int32) (md : Nat) : ∀ i, i ≤ 6 → KU σ (cfs σ set md i) := by
  intro i
  induction i with
  | zero => intro _; exact KU.rf σ
  | succ i ih => intro hi; exact KU.c (fun _ => (ih (by omega)).u _ (by omega)) fun _ => ih (by omega)
theorem KU_cfo {σ : St} (hI : CI σ) (set : Int32) : KU σ (cfo σ set).2 := by
  have h6 := hI.nc.2
  refine cI_a2 (Q := KUQ σ) (fun q => cI_a2 (Q := KUQ σ) (fun _ => KU.rf σ) fun r => ?_) fun _ => KU.rf σ
  have h8 : rd σ 8 6 < 8 := by
    rcases Nat.lt_or_ge (rd σ 8 6) 8 with z | z
    · exact z
    · exact absurd (Or.inr z) r
  exact (((KU.rf σ).u _ (by omega)).tr (KU_ccp _ h8 _)).tr (KU_cfs _ _ _ _ (by omega))
theorem KU_cbo (σ : St) {c : Nat} (hc : c < 6) (fo : Int32) (sm md : Nat) : KU σ (cbo σ c fo sm md) := KU.u (KU.c (fun _ => KU.c (fun _ => ((KU.rf σ).u _ (by omega)).tr (KU_cth _ hc _)) fun _ => (KU.rf σ).u _ (by omega)) fun _ => KU.rf σ) _ (by omega)
theorem KU_chl (σ : St) (x y sm md : Nat) : ∀ c, c ≤ 6 → KU σ (chl σ x y sm md c) := by
  intro c
  induction c with
  | zero => intro _; exact KU.rf σ
  | succ c ih => intro hc; exact KU.c (fun _ => (ih (by omega)).tr (KU_cbo _ (by omega) _ _ _)) fun _ => ih (by omega)
theorem KU_chel {σ : St} (hI : CI σ) (a b : Int32) : KU σ (chel σ a b).2 := by
  have h6 := hI.nc.2
  refine cI_a2 (Q := KUQ σ) (fun q => cI_a2 (Q := KUQ σ) (fun r => ?_) fun _ => KU.rf σ) fun _ => KU.rf σ
  have h8 := r.2.1
  have h1 : KU σ (ch1 σ (cn a) (cn b)) := ((KU.rf σ).u _ (by omega)).tr (KU_ccp _ h8 _)
  have h2 : KU σ (ch2 σ (cn a) (cn b)) := h1.tr (KU_cap _ h8 _ _ _ _ _)
  have h3 : KU σ (ch3 σ (cn a) (cn b)) := h2.tr (KU_cho _ h8 _ _ _)
  exact h3.tr (KU_chl _ _ _ _ _ _ (by omega))
/-- a step of a script is done -/
abbrev sn (σ : St) (p j : Nat) : Int32 := σ.1 (108 + 2 * p + 1) j
noncomputable def cDo (σ : St) (p : Nat) : Int32 × St :=
  cI (kSm.getD (skd σ p) 0 = nI 1) (cwr σ (sn σ p 0) (sn σ p 1) (sn σ p 2)) (cI (kSm.getD (skd σ p) 0 = nI 2) (crd σ (sn σ p 0) (sn σ p 1)) (cI (kSm.getD (skd σ p) 0 = nI 3) (cfo σ (sn σ p 0)) (cI (kSm.getD (skd σ p) 0 = nI 4) (cmv σ (sn σ p 0) (sn σ p 1)) (cI (kSm.getD (skd σ p) 0 = nI 5) (crw σ (sn σ p 0) (sn σ p 1)) (cI (kSm.getD (skd σ p) 0 = nI 6) (cco σ (sn σ p 0) (sn σ p 1) (sn σ p 2)) (cI (kSm.getD (skd σ p) 0 = nI 7) (cxc σ (sn σ p 0) (sn σ p 1)) (cI (kSm.getD (skd σ p) 0 = nI 8) (cpo σ (sn σ p 0)) (cI (kSm.getD (skd σ p) 0 = nI 9) (chel σ (sn σ p 0) (sn σ p 1)) (-2, σ)))))))))
theorem KU_cDo {σ : St} (hI : CI σ) (p : Nat) : KU σ (cDo σ p).2 := by
  refine cI_a2 (Q := KUQ σ) (fun _ => KU_cwr hI _ _ _) fun _ => cI_a2 (Q := KUQ σ) (fun _ => KU_crd hI _ _) fun _ => cI_a2 (Q := KUQ σ) (fun _ => KU_cfo hI _) fun _ => cI_a2 (Q := KUQ σ) (fun _ => KU_cmv hI _ _) fun _ => cI_a2 (Q := KUQ σ) (fun _ => KU_crw hI _ _) fun _ => cI_a2 (Q := KUQ σ) (fun _ => KU_cco hI _ _ _) fun _ => cI_a2 (Q := KUQ σ) (fun _ => KU_cxc hI _ _) fun _ => cI_a2 (Q := KUQ σ) (fun _ => KU_cpo _) fun _ => cI_a2 (Q := KUQ σ) (fun _ => KU_chel hI _ _) fun _ => KU.rf σ
/-- the first i steps are done: how many weren't refused, and the state -/
noncomputable def cRn (σ : St) : Nat → Nat × St
  | 0 => (0, σ)
  | i + 1 => ((cRn σ i).1 + cI ((cDo (cRn σ i).2 i).1 < 0) 0 1, (cDo (cRn σ i).2 i).2)
theorem cRn_le (σ : St) (i : Nat) : (cRn σ i).1 ≤ i := by
  induction i with
  | zero => exact Nat.le_refl _
  | succ i ih =>
    show (cRn σ i).1 + cI _ 0 1 ≤ i + 1
    by_cases h : (cDo (cRn σ i).2 i).1 < 0
    · rw [cI_t h]; omega
    · rw [cI_f h]; omega
def cOK (σ : St) (n : Nat) : Prop := ∀ i, i ≤ n → CI (cRn σ i).2 ∧ CS (cRn σ i).2
theorem KU_cRn {σ : St} {n : Nat} (h : cOK σ n) : ∀ i, i ≤ n → KU σ (cRn σ i).2 := by
  intro i
  induction i with
  | zero => intro _; exact KU.rf σ
  | succ i ih => intro hi; exact (ih (by omega)).tr (KU_cDo (h i (by omega)).1 i)
theorem KU_sk {σ τ : St} {p : Nat} (h : KU σ τ) (hs : skO σ p) : skO τ p := (skO_cg h.2 hs).1
/-- load -/
noncomputable def wLo (σ : St) (n : Int32) : Option String := cI (¬ n < 0 ∧ n ≤ nI (rd σ 0 2)) (cI ((cpv (uv σ 0 2 (nI 0)) (cn n)).1 1 7 = 0) none (some exI)) (some exA)
noncomputable def clS (σ : St) (n : Int32) : St := cI (¬ n < 0 ∧ n ≤ nI (rd σ 0 2)) (cI ((cpv (uv σ 0 2 (nI 0)) (cn n)).1 1 7 = 0) (uv (csv (cpv (uv σ 0 2 (nI 0)) (cn n)) ((cpv (uv σ 0 2 (nI 0)) (cn n)).1 1 4) ((cpv (uv σ 0 2 (nI 0)) (cn n)).1 1 5) ((cpv (uv σ 0 2 (nI 0)) (cn n)).1 1 6)) 0 3 (nI 0)) (cpv (uv σ 0 2 (nI 0)) (cn n))) σ
/-- run -/
noncomputable abbrev crP (σ : St) (n : Int32) : St := cpR (uv σ 0 2 (nI 0)) (cn n) (nI (rd σ 8 4)) (nI (rd σ 8 5))
noncomputable def wRu (σ : St) (n : Int32) : Option String := cI (¬ n < 0 ∧ n ≤ nI (rd σ 0 2)) (cI (rd σ 8 4 = 0) (some exI) (cI ((crP σ n).1 1 7 = 0) none (some exI))) (some exA)
noncomputable def crS (σ : St) (n : Int32) : St := cI (¬ n < 0 ∧ n ≤ nI (rd σ 0 2)) (cI (rd σ 8 4 = 0) (uv σ 0 2 (nI 0)) (cI ((crP σ n).1 1 7 = 0) (uv (cRn (crP σ n) (rd (crP σ n) 1 3)).2 0 3 (nI (rd (crP σ n) 1 3 - (cRn (crP σ n) (rd (crP σ n) 1 3)).1))) (crP σ n))) σ
/-- the frame of parsing, a stretch of steps -/
theorem cpS_n : ∀ (n t : Nat) (σ : St), t + n = 61 → PV σ → σ.1 1 3 = nI t → (∀ i, i < t → i < 60 → skO σ i) → t ≤ 60 → ∃ m, m ≤ 60 ∧ (cpS n t σ).1 1 3 = nI m ∧ ∀ i, i < m → skO (cpS n t σ) i := by
  intro n
  induction n with
  | zero => intro t σ ht _ _ _ h; exact absurd ht (by omega)
  | succ n ih =>
    intro t σ ht hV h3 hs h60
    by_cases q : σ.1 1 7 = 0 ∧ ¬ kdH σ = 0
    · have e : cpS (n + 1) t σ = cpS n (t + 1) (cp1 σ t) := cI_t q
      rw [e]
      by_cases z : t < 60
      · have e2 : cp1 σ t = uv (cqs (ccF σ) t) 1 3 (nI (t + 1)) := cI_t z
        refine ih (t + 1) _ (by omega) (PV_cp1 hV t) (by rw [e2]; exact uv_same _ _ _ _) (fun i hi hi2 => ?_) (by omega)
        rw [e2]
        by_cases y : i = t
        · subst y
          exact cqs_sk ((PX_ccF σ).2.2 hV) i
        · refine (skO_of (p := i) (k := skd σ i) ?_ (hs i (by omega) hi2).2).1
          show (cqs (ccF σ) t).2.1 (108 + 2 * i) 1 = _
          rw [(cqs_PS (ccF σ) t).2.1 _ (by omega), (PX_ccF σ).2.1]
          exact (hs i (by omega) hi2).1
      · have e2 : cp1 σ t = cfa (ccF σ) (nI 3) := cI_f z
        have e3 : n = 0 := by omega
        subst e3
        refine ⟨60, Nat.le_refl _, ?_, fun i hi => ?_⟩
        · show (cp1 σ t).1 1 3 = _
          rw [e2, (PX_cfa _ _).1 _ _ (by omega), (PX_ccF _).1 _ _ (by omega), h3, show t = 60 by omega]
        · show skO (cp1 σ t) i
          rw [e2]
          exact (skO_cg ((PX_cfa _ _).2.1.trans (PX_ccF _).2.1) (hs i (by omega) hi)).1
    · have e : cpS (n + 1) t σ = σ := cI_f q
      rw [e]
      exact ⟨t, h60, h3, fun i hi => hs i hi (by omega)⟩
theorem cpR_n (σ : St) {e : Nat} (he : e ≤ 900) (a b : Int32) : nb (cpR σ e a b) 1 3 60 ∧ ∀ i, i < rd (cpR σ e a b) 1 3 → skO (cpR σ e a b) i := by
  have h3 : (uv (uv (cbe σ e) 1 4 a) 1 5 b).1 1 3 = nI 0 := by
    rw [uv_idx _ _ _ _ (by decide), uv_idx _ _ _ _ (by decide)]
    unfold cbe
    rw [csc_o _ _ (by decide), uv_idx _ _ _ _ (by decide)]
    exact uv_same _ _ _ _
  obtain ⟨m, m1, m2, m3⟩ := cpS_n 61 0 (uv (uv (cbe σ e) 1 4 a) 1 5 b) rfl (PV_14 (PV_14 (PV_cbe σ he) _ (by decide)) _ (by decide)) h3 (fun i hi => absurd hi (Nat.not_lt_zero _)) (by omega)
  obtain ⟨n1, n2⟩ := nb_of (m := 60) (σ := cpR σ e a b) m2 m1 (by decide)
  exact ⟨n1, fun i hi => m3 i (by rw [n2] at hi; exact hi)⟩
theorem cRn_t {σ : St} {i : Nat} (h : (cDo (cRn σ i).2 i).1 < 0) : (cRn σ (i + 1)).1 = (cRn σ i).1 := by
  show (cRn σ i).1 + cI _ 0 1 = _
  rw [cI_t h]
  rfl
theorem cRn_f {σ : St} {i : Nat} (h : ¬ (cDo (cRn σ i).2 i).1 < 0) : (cRn σ (i + 1)).1 = (cRn σ i).1 + 1 := by
  show (cRn σ i).1 + cI _ 0 1 = _
  rw [cI_f h]
theorem len_n {σ : St} {n : Int32} (hF : nb σ 0 2 900) (q : ¬ n < 0 ∧ n ≤ nI (rd σ 0 2)) : n = nI (cn n) ∧ cn n ≤ 900 := by
  have h := hF.2
  obtain ⟨a, -, b⟩ := in_n (a := 0) (by decide) (by omega) (Int32.not_lt.mp q.1) q.2
  exact ⟨a, by omega⟩
