/-! the class's parser: pure functions -/
def kdH (σ : St) : Nat := (σ.2.1 4 (rd σ 1 2)).getD 1
/-- the tokens are there, and the parser stands at one of them -/
def PV (σ : St) : Prop := nb σ 1 2 900 ∧ nb σ 2 4 901 ∧ rd σ 1 2 < rd σ 2 4 ∧ ∀ i, i < rd σ 2 4 → ∃ k, k < 16 ∧ σ.2.1 4 i = some k
theorem PV.kd {σ : St} (h : PV σ) : σ.2.1 4 (rd σ 1 2) = some (kdH σ) := by
  obtain ⟨k, -, e⟩ := h.2.2.2 _ h.2.2.1
  unfold kdH
  rw [e]
  rfl
theorem PV.lt {σ : St} (h : PV σ) : kdH σ < 16 := by
  obtain ⟨k, q, e⟩ := h.2.2.2 _ h.2.2.1
  unfold kdH
  rw [e]
  exact q
theorem PV_cg {σ τ : St} (h : PV σ) (h1 : τ.1 2 4 = σ.1 2 4) (h2 : τ.1 1 2 = σ.1 1 2) (h3 : τ.2.1 4 = σ.2.1 4) : PV τ := by
  have e1 : rd τ 2 4 = rd σ 2 4 := by unfold rd; rw [h1]
  have e2 : rd τ 1 2 = rd σ 1 2 := by unfold rd; rw [h2]
  refine ⟨nb_cg h2 h.1 h.1.2, nb_cg h1 h.2.1 h.2.1.2, by rw [e1, e2]; exact h.2.2.1, fun i hi => ?_⟩
  rw [e1] at hi
  rw [h3]
  exact h.2.2.2 i hi
theorem kdH_cg {σ τ : St} (h2 : τ.1 1 2 = σ.1 1 2) (h3 : τ.2.1 4 = σ.2.1 4) : kdH τ = kdH σ := by
  unfold kdH rd
  rw [h2, h3]
def PX (σ τ : St) : Prop := (∀ a b, ¬ (a = 1 ∧ (b = 2 ∨ b = 7 ∨ b = 8)) → τ.1 a b = σ.1 a b) ∧ τ.2 = σ.2 ∧ (PV σ → PV τ)
def PS (p : Nat) (σ τ : St) : Prop := (∀ a b, a ≠ 108 + 2 * p + 1 → ¬ (a = 1 ∧ (b = 2 ∨ b = 7 ∨ b = 8)) → τ.1 a b = σ.1 a b) ∧ (∀ a, a ≠ 108 + 2 * p → τ.2.1 a = σ.2.1 a) ∧ τ.2.2 = σ.2.2 ∧ (PV σ → PV τ)
theorem PX.rf (σ : St) : PX σ σ := ⟨fun _ _ _ => rfl, rfl, id⟩
theorem PX.tr {σ τ υ : St} (h1 : PX σ τ) (h2 : PX τ υ) : PX σ υ := ⟨fun a b q => (h2.1 a b q).trans (h1.1 a b q), h2.2.1.trans h1.2.1, fun z => h2.2.2 (h1.2.2 z)⟩
theorem PX.cI {σ τ υ : St} {p : Prop} (h1 : p → PX σ τ) (h2 : ¬ p → PX σ υ) : PX σ (cI p τ υ) := cI_a2 (Q := fun z => PX σ z) h1 h2
theorem PX.ps {σ τ : St} (h : PX σ τ) (p : Nat) : PS p σ τ := ⟨fun a b _ q => h.1 a b q, fun a _ => by rw [h.2.1], by rw [h.2.1], h.2.2⟩
theorem PS.rf (p : Nat) (σ : St) : PS p σ σ := (PX.rf σ).ps p
theorem PS.tr {p : Nat} {σ τ υ : St} (h1 : PS p σ τ) (h2 : PS p τ υ) : PS p σ υ := ⟨fun a b r q => (h2.1 a b r q).trans (h1.1 a b r q), fun a q => (h2.2.1 a q).trans (h1.2.1 a q), h2.2.2.1.trans h1.2.2.1, fun z => h2.2.2.2 (h1.2.2.2 z)⟩
theorem PS.cI {n : Nat} {σ τ υ : St} {p : Prop} (h1 : p → PS n σ τ) (h2 : ¬ p → PS n σ υ) : PS n σ (cI p τ υ) := cI_a2 (Q := fun z => PS n σ z) h1 h2
theorem PS_uv (p : Nat) (σ : St) (j : Nat) (v : Int32) : PS p σ (uv σ (108 + 2 * p + 1) j v) := ⟨fun a b q _ => uv_cell _ _ _ _ q, fun _ _ => rfl, rfl, fun h => PV_cg h (uv_cell _ _ _ _ (by omega)) (uv_cell _ _ _ _ (by omega)) rfl⟩
theorem PS_uq (p : Nat) (σ : St) (v : Option Nat) : PS p σ (uq σ (108 + 2 * p) 1 v) := ⟨fun _ _ _ _ => rfl, fun a q => u2_ne _ _ _ _ q, rfl, fun h => PV_cg h rfl rfl (u2_ne _ _ _ _ (by omega))⟩
noncomputable def cfa (σ : St) (c : Int32) : St := cI (σ.1 1 7 = 0) (uv (uv σ 1 7 c) 1 8 (σ.1 5 (rd σ 1 2))) σ
theorem PX_1 {σ : St} {j : Nat} (v : Int32) (hj : j = 7 ∨ j = 8) : PX σ (uv σ 1 j v) := ⟨fun a b q => by rw [uv_ap, if_neg (by omega)], rfl, fun h => PV_cg h (uv_cell _ _ _ _ (by decide)) (uv_idx _ _ _ _ (by omega)) rfl⟩
theorem PX_cfa (σ : St) (c : Int32) : PX σ (cfa σ c) := PX.cI (fun _ => (PX_1 _ (by omega)).tr (PX_1 _ (by omega))) fun _ => PX.rf σ
noncomputable def ctt (σ : St) : St := cI (σ.1 1 7 = 0 ∧ rd σ 1 2 < rd σ 2 4 - 1) (uv σ 1 2 (nI (rd σ 1 2 + 1))) σ
theorem PX_ctt (σ : St) : PX σ (ctt σ) := by
  refine PX.cI (fun q => ⟨fun a b z => by rw [uv_ap, if_neg (by omega)], rfl, fun h => ?_⟩) fun _ => PX.rf σ
  have h1 := h.2.1.2
  obtain ⟨n1, n2⟩ := nb_of (σ := uv σ 1 2 (nI (rd σ 1 2 + 1))) (k := 1) (j := 2) (m := 900) (uv_same _ _ _ _) (by omega) (by decide)
  have e : rd (uv σ 1 2 (nI (rd σ 1 2 + 1))) 2 4 = rd σ 2 4 := rd_uv (by decide) _ _ _ _
  exact ⟨n1, nb_cg (uv_cell _ _ _ _ (by decide)) h.2.1 h.2.1.2, by rw [e, n2]; omega, fun i hi => h.2.2.2 i (by rw [e] at hi; exact hi)⟩
noncomputable def ctK (σ : St) (k : Nat) : St := ctt (cI (kdH σ = k) σ (cfa σ (nI 1)))
theorem PX_ctK (σ : St) (k : Nat) : PX σ (ctK σ k) := PX.tr (PX.cI (fun _ => PX.rf σ) fun _ => PX_cfa _ _) (PX_ctt _)
noncomputable def ccN (σ : St) (lo hi : Int32) : St := cI (kdH σ = 3) (cI (σ.1 6 (rd σ 1 2) < lo ∨ ¬ σ.1 6 (rd σ 1 2) ≤ hi) (cfa σ (nI 2)) σ) (cfa σ (nI 1))
theorem PX_ccN (σ : St) (lo hi : Int32) : PX σ (ccN σ lo hi) := PX.cI (fun _ => PX.cI (fun _ => PX_cfa _ _) fun _ => PX.rf σ) fun _ => PX_cfa _ _
noncomputable def ctN (σ : St) (lo hi : Int32) : St := ctt (ccN σ lo hi)
theorem PX_ctN (σ : St) (lo hi : Int32) : PX σ (ctN σ lo hi) := (PX_ccN _ _ _).tr (PX_ctt _)
/-- the rest of a set of clients -/
noncomputable def crs : Nat → Int32 → St → Int32 × St
  | 0, set, σ => (set, σ)
  | n + 1, set, σ => cI (σ.1 1 7 = 0 ∧ kdH σ = 3) (crs n (set ||| (nI 1 <<< (σ.1 6 (rd σ 1 2) &&& 31))) (ctN σ (nI 0) (σ.1 1 4 - nI 1))) (set, σ)
theorem PX_crs : ∀ (n : Nat) (set : Int32) (σ : St), PX σ (crs n set σ).2 := by
  intro n
  induction n with
  | zero => intro set σ; exact PX.rf σ
  | succ n ih => intro set σ; exact cI_a2 (Q := fun z : Int32 × St => PX σ z.2) (fun _ => (PX_ctN _ _ _).tr (ih _ _)) fun _ => PX.rf σ
theorem crs_s {i : Nat} {set : Int32} {σ : St} (hi : i < 900) (h : σ.1 1 7 = 0 ∧ kdH σ = 3) : crs (900 - i) set σ = crs (900 - (i + 1)) (set ||| (nI 1 <<< (σ.1 6 (rd σ 1 2) &&& 31))) (ctN σ (nI 0) (σ.1 1 4 - nI 1)) := by
  rw [show 900 - i = (900 - (i + 1)) + 1 by omega]
  exact cI_t h
theorem crs_e {i : Nat} {set : Int32} {σ : St} (h : 900 ≤ i ∨ ¬ (σ.1 1 7 = 0 ∧ kdH σ = 3)) : crs (900 - i) set σ = (set, σ) := by
  rcases Nat.lt_or_ge i 900 with q | q
  · rw [show 900 - i = (900 - (i + 1)) + 1 by omega]
    exact cI_f (h.resolve_left (by omega))
  · rw [show 900 - i = 0 by omega]
    rfl
noncomputable def cgr (σ : St) (s : Int32) : Int32 := cI (s = nI 99) (σ.1 1 4 - nI 1) (cI (s = nI 107) (σ.1 1 5 - nI 1) (cI (s = nI 118) (nI 999999) (cI (s = nI 98) (nI 7) (nI 200))))
noncomputable def clo (s : Int32) : Int32 := cI (s = nI 110) (nI 1) (nI 0)
/-- the operands of step p behind place a -/
noncomputable def cto : Nat → Nat → Nat → Nat → St → St
  | 0, _, _, _, σ => σ
  | n + 1, p, w, a, σ => cI (a < kLen.getD w 0) (cto n p w (a + 1) (uv (ctN σ (clo ((kByt.getD w []).getD a 0)) (cgr σ ((kByt.getD w []).getD a 0))) (108 + 2 * p + 1) a (σ.1 6 (rd σ 1 2)))) σ
theorem PS_cto : ∀ (n p w a : Nat) (σ : St), PS p σ (cto n p w a σ) ∧ (cto n p w a σ).2 = σ.2 := by
  intro n
  induction n with
  | zero => intro p w a σ; exact ⟨PS.rf p σ, rfl⟩
  | succ n ih =>
    intro p w a σ
    refine cI_a2 (Q := fun z : St => PS p σ z ∧ z.2 = σ.2) (fun _ => ?_) fun _ => ⟨PS.rf p σ, rfl⟩
    have h := ih p w (a + 1) (uv (ctN σ (clo ((kByt.getD w []).getD a 0)) (cgr σ ((kByt.getD w []).getD a 0))) (108 + 2 * p + 1) a (σ.1 6 (rd σ 1 2)))
    exact ⟨(((PX_ctN _ _ _).ps p).tr (PS_uv p _ _ _)).tr h.1, h.2.trans (PX_ctN _ _ _).2.1⟩
theorem cto_s {p w a : Nat} {σ : St} {lo : Int32} (ha : a < 3) (h : a < kLen.getD w 0) (hl : clo ((kByt.getD w []).getD a 0) = lo) : cto (3 - a) p w a σ = cto (3 - (a + 1)) p w (a + 1) (uv (ctN σ lo (cgr σ ((kByt.getD w []).getD a 0))) (108 + 2 * p + 1) a (σ.1 6 (rd σ 1 2))) := by
  rw [show 3 - a = (3 - (a + 1)) + 1 by omega, ← hl]
  exact cI_t h
theorem cto_e {p w a : Nat} {σ : St} (h : 3 ≤ a ∨ kLen.getD w 0 ≤ a) : cto (3 - a) p w a σ = σ := by
  rcases Nat.lt_or_ge a 3 with q | q
  · rw [show 3 - a = (3 - (a + 1)) + 1 by omega]
    exact cI_f (Nat.not_lt.mpr (h.resolve_left (by omega)))
  · rw [show 3 - a = 0 by omega]
    rfl
/-- the kind of step p -/
def skd (σ : St) (p : Nat) : Nat := (σ.2.1 (108 + 2 * p) 1).getD 0
def skO (σ : St) (p : Nat) : Prop := σ.2.1 (108 + 2 * p) 1 = some (skd σ p) ∧ skd σ p < 16
theorem skO_of {σ : St} {p k : Nat} (h : σ.2.1 (108 + 2 * p) 1 = some k) (hk : k < 16) : skO σ p ∧ skd σ p = k := by
  have e : skd σ p = k := by unfold skd; rw [h]; rfl
  exact ⟨⟨by rw [e]; exact h, by rw [e]; exact hk⟩, e⟩
theorem skO_cg {σ τ : St} {p : Nat} (h : τ.2 = σ.2) (hs : skO σ p) : skO τ p ∧ skd τ p = skd σ p := skO_of (by rw [h]; exact hs.1) hs.2
noncomputable def cq0 (σ : St) (p : Nat) : St := uv (ctN σ (nI 0) (σ.1 1 4 - nI 1)) (108 + 2 * p + 1) 0 (σ.1 6 (rd σ 1 2))
def cqk (σ : St) (p : Nat) : St := uq σ (108 + 2 * p) 1 (some (kdH σ))
noncomputable def cq1 (σ : St) (p : Nat) : St := ctK (cqk (cq0 σ p) p) (cI (kdH (cq0 σ p) = 8) 8 7)
noncomputable def cq2 (σ : St) (p : Nat) : St := ctt (cqk σ p)
noncomputable def cq3 (σ : St) (p : Nat) : St := cI (kdH σ = 3) (cto (3 - 1) p (kOp.getD (skd (cq1 σ p) p) 0) 1 (cq1 σ p)) (cto (3 - 0) p (kOp.getD (skd (cq2 σ p) p) 0) 0 (cq2 σ p))
noncomputable def cqf (τ : St) (p : Nat) : St := cI (skd τ p = 9) (uv (crs 900 (nI 1 <<< (τ.1 (108 + 2 * p + 1) 0 &&& 31)) τ).2 (108 + 2 * p + 1) 0 (crs 900 (nI 1 <<< (τ.1 (108 + 2 * p + 1) 0 &&& 31)) τ).1) τ
/-- a step is parsed -/
noncomputable def cqs (σ : St) (p : Nat) : St := ctK (cqf (cq3 σ p) p) 2
theorem cqk_ok {σ : St} (hV : PV σ) (p : Nat) : PV (cqk σ p) ∧ skO (cqk σ p) p ∧ skd (cqk σ p) p = kdH σ := ⟨(PS_uq p σ _).2.2.2 hV, skO_of (uq_same _ _ _ _) hV.lt⟩
theorem cq0_PS (σ : St) (p : Nat) : PS p σ (cq0 σ p) := ((PX_ctN _ _ _).ps p).tr (PS_uv p _ _ _)
theorem cq1_PS (σ : St) (p : Nat) : PS p σ (cq1 σ p) := ((cq0_PS σ p).tr (PS_uq p _ _)).tr ((PX_ctK _ _).ps p)
theorem cq2_PS (σ : St) (p : Nat) : PS p σ (cq2 σ p) := (PS_uq p _ _).tr ((PX_ctt _).ps p)
theorem cq1_sk {σ : St} (hV : PV σ) (p : Nat) : skO (cq1 σ p) p ∧ skd (cq1 σ p) p = kdH (cq0 σ p) := by
  have a := (cqk_ok ((cq0_PS σ p).2.2.2 hV) p).2
  have b := skO_cg (PX_ctK (cqk (cq0 σ p) p) (cI (kdH (cq0 σ p) = 8) 8 7)).2.1 a.1
  exact ⟨b.1, b.2.trans a.2⟩
theorem cq2_sk {σ : St} (hV : PV σ) (p : Nat) : skO (cq2 σ p) p ∧ skd (cq2 σ p) p = kdH σ := by
  have a := (cqk_ok hV p).2
  have b := skO_cg (PX_ctt (cqk σ p)).2.1 a.1
  exact ⟨b.1, b.2.trans a.2⟩
theorem cq3_PS (σ : St) (p : Nat) : PS p σ (cq3 σ p) := PS.cI (fun _ => (cq1_PS σ p).tr (PS_cto _ _ _ _ _).1) fun _ => (cq2_PS σ p).tr (PS_cto _ _ _ _ _).1
theorem cq3_sk {σ : St} (hV : PV σ) (p : Nat) : skO (cq3 σ p) p := cI_a2 (Q := fun z => skO z p) (fun _ => (skO_cg (PS_cto _ _ _ _ _).2 (cq1_sk hV p).1).1) fun _ => (skO_cg (PS_cto _ _ _ _ _).2 (cq2_sk hV p).1).1
theorem cqf_PS (σ : St) (p : Nat) : PS p σ (cqf σ p) := PS.cI (fun _ => ((PX_crs _ _ _).ps p).tr (PS_uv p _ _ _)) fun _ => PS.rf p σ
theorem cqf_2 (σ : St) (p : Nat) : (cqf σ p).2 = σ.2 := cI_a2 (Q := fun z : St => z.2 = σ.2) (fun _ => (PX_crs 900 (nI 1 <<< (σ.1 (108 + 2 * p + 1) 0 &&& 31)) σ).2.1) fun _ => rfl
theorem cqs_PS (σ : St) (p : Nat) : PS p σ (cqs σ p) := ((cq3_PS σ p).tr (cqf_PS _ p)).tr ((PX_ctK _ _).ps p)
theorem cqs_sk {σ : St} (hV : PV σ) (p : Nat) : skO (cqs σ p) p := (skO_cg ((PX_ctK _ _).2.1.trans (cqf_2 _ _)) (cq3_sk hV p)).1
noncomputable def ccF (σ : St) : St := cI (kdH σ = 3) (ccN σ (nI 0) (σ.1 1 4 - nI 1)) (cI (kOS.getD (kdH σ) 0 = 0) (cfa σ (nI 1)) σ)
theorem PX_ccF (σ : St) : PX σ (ccF σ) := PX.cI (fun _ => PX_ccN _ _ _) fun _ => PX.cI (fun _ => PX_cfa _ _) fun _ => PX.rf σ
/-- a text is begun -/
noncomputable def cbe (σ : St) (e : Nat) : St := csc (uv (uv (uv (uv σ 1 7 (nI 0)) 1 8 (-1)) 1 3 (nI 0)) 1 2 (nI 0)) e
noncomputable def cv1 (s : St) (lo hi : Int32) (j : Nat) : St := uv (ctN s lo hi) 1 j (s.1 6 (rd s 1 2))
noncomputable def cv2 (σ : St) (e : Nat) : St := cv1 (ctK (cbe σ e) 4) (nI 2) (nI 6) 4
noncomputable def cv3 (σ : St) (e : Nat) : St := cv1 (ctK (cv2 σ e) 5) (nI 1) (nI 16) 5
noncomputable def cv4 (σ : St) (e : Nat) : St := cv1 (ctK (cv3 σ e) 6) (nI 1) (nI 50) 6
/-- a service is parsed -/
noncomputable def cpv (σ : St) (e : Nat) : St := ctK (ctK (cv4 σ e) 2) 0
/-- the steps of a script from t on -/
noncomputable def cp1 (σ : St) (t : Nat) : St := cI (t < 60) (uv (cqs (ccF σ) t) 1 3 (nI (t + 1))) (cfa (ccF σ) (nI 3))
noncomputable def cpS : Nat → Nat → St → St
  | 0, _, σ => σ
  | n + 1, t, σ => cI (σ.1 1 7 = 0 ∧ ¬ kdH σ = 0) (cpS n (t + 1) (cp1 σ t)) σ
theorem cpS_s {t : Nat} {σ : St} (ht : t ≤ 60) (h : σ.1 1 7 = 0 ∧ ¬ kdH σ = 0) : cpS (61 - t) t σ = cpS (61 - (t + 1)) (t + 1) (cp1 σ t) := by
  rw [show 61 - t = (61 - (t + 1)) + 1 by omega]
  exact cI_t h
theorem cpS_e {t : Nat} {σ : St} (h : 61 ≤ t ∨ ¬ (σ.1 1 7 = 0 ∧ ¬ kdH σ = 0)) : cpS (61 - t) t σ = σ := by
  rcases Nat.lt_or_ge t 61 with q | q
  · rw [show 61 - t = (61 - (t + 1)) + 1 by omega]
    exact cI_f (h.resolve_left (by omega))
  · rw [show 61 - t = 0 by omega]
    rfl
noncomputable def cpR (σ : St) (e : Nat) (a b : Int32) : St := cpS 61 0 (uv (uv (cbe σ e) 1 4 a) 1 5 b)
/-- the scan leaves tokens -/
theorem cat_4 {σ : St} {k s e : Nat} : (cat σ k s e).2.1 4 = fun i => if i = rd σ 2 4 then some k else σ.2.1 4 i := by
  unfold cat
  exact uq_row σ 4 (rd σ 2 4) (some k)
theorem cat_q {σ : St} {k s e a : Nat} (h : a ≠ 4) : (cat σ k s e).2.1 a = σ.2.1 a := u2_ne _ _ _ _ h
theorem cat_o {σ : St} {k s e a : Nat} (b : Nat) (h : a ≠ 2 ∧ a ≠ 5 ∧ a ≠ 6) : (cat σ k s e).1 a b = σ.1 a b := by
  unfold cat
  rw [uv_cell _ _ _ _ h.1, uv_cell _ _ _ _ h.2.2, uv_cell _ _ _ _ h.2.1]
  rfl
def TK0 (σ : St) (n : Nat) : Prop := σ.1 2 4 = nI n ∧ ∀ i, i < n → ∃ k, k < 16 ∧ σ.2.1 4 i = some k
theorem TK0_cat {σ : St} {n k s e : Nat} (hn : n < 2 ^ 31) (h : TK0 σ n) (hk : k < 16) : TK0 (cat σ k s e) (n + 1) := by
  have e1 : rd σ 2 4 = n := by unfold rd; rw [h.1]; exact nI_clamp hn
  refine ⟨?_, fun i hi => ?_⟩
  · unfold cat
    rw [uv_same, e1]
  · rw [cat_4, e1]
    by_cases q : i = n
    · exact ⟨k, hk, if_pos q⟩
    · obtain ⟨k', a, b⟩ := h.2 i (by omega)
      exact ⟨k', a, by rw [← b]; exact if_neg q⟩
theorem TK0_scn {T : Nat → Int32} {e : Nat} (he : e ≤ 900) : ∀ (f a : Nat) (r : Int32) (σ : St) (n : Nat), TK0 σ n → n ≤ a → a ≤ e → ∃ m, m ≤ e ∧ n ≤ m ∧ TK0 (scn T e f a r σ) m := by
  intro f
  induction f with
  | zero => intro a r σ n h h1 h2; exact ⟨n, by omega, by omega, h⟩
  | succ f ih =>
    intro a r σ n h h1 h2
    by_cases q : a < e
    · have hE := eor_ok (T := T) (Nat.le_of_lt q)
      by_cases hb : blk (T a)
      · rw [scn_b q hb]
        exact ih _ _ _ _ h (by omega) (by omega)
      · rw [scn_t q hb rfl rfl]
        have hk : scK T a (max (a + 1) (eor T a e)) r < 16 := by
          unfold scK
          exact cI_a2 (Q := fun z : Nat => z < 16) (fun _ => by decide) fun _ => kdo_lt _ _ _
        obtain ⟨m, m1, m2, m3⟩ := ih (max (a + 1) (eor T a e)) (cI (ltr (T a) ∨ dgt (T a)) (nI (max (a + 1) (eor T a e))) (-1)) _ _ (TK0_cat (s := a) (e := max (a + 1) (eor T a e)) (by omega) h hk) (by omega) (by omega)
        exact ⟨m, m1, by omega, m3⟩
    · rw [scn_e (by omega)]
      exact ⟨n, by omega, by omega, h⟩
theorem scn_o {T : Nat → Int32} {e : Nat} : ∀ (f a : Nat) (r : Int32) (σ : St) (c : Nat), c ≠ 2 ∧ c ≠ 5 ∧ c ≠ 6 → (scn T e f a r σ).1 c = σ.1 c := by
  intro f
  induction f with
  | zero => intro a r σ c h; rfl
  | succ f ih =>
    intro a r σ c h
    refine cI_a2 (Q := fun z : St => z.1 c = σ.1 c) (fun _ => cI_a2 (Q := fun z : St => z.1 c = σ.1 c) (fun _ => ih _ _ _ _ h) fun _ => (ih _ _ _ _ h).trans (funext fun b => cat_o b h)) fun _ => rfl
theorem scn_q {T : Nat → Int32} {e : Nat} : ∀ (f a : Nat) (r : Int32) (σ : St), (∀ c, c ≠ 4 → (scn T e f a r σ).2.1 c = σ.2.1 c) ∧ (scn T e f a r σ).2.2 = σ.2.2 := by
  intro f
  induction f with
  | zero => intro a r σ; exact ⟨fun _ _ => rfl, rfl⟩
  | succ f ih =>
    intro a r σ
    refine cI_a2 (Q := fun z : St => (∀ c, c ≠ 4 → z.2.1 c = σ.2.1 c) ∧ z.2.2 = σ.2.2) (fun _ => cI_a2 (Q := fun z : St => (∀ c, c ≠ 4 → z.2.1 c = σ.2.1 c) ∧ z.2.2 = σ.2.2) (fun _ => ih _ _ _) fun _ => ?_) fun _ => ⟨fun _ _ => rfl, rfl⟩
    have h := ih (max (a + 1) (eor T a e)) (cI (ltr (T a) ∨ dgt (T a)) (nI (max (a + 1) (eor T a e))) (-1)) (cat σ (scK T a (max (a + 1) (eor T a e)) r) a (max (a + 1) (eor T a e)))
    exact ⟨fun c hc => (h.1 c hc).trans (cat_q hc), h.2⟩
theorem csc_o (σ : St) (e : Nat) {c : Nat} (h : c ≠ 2 ∧ c ≠ 5 ∧ c ≠ 6) : (csc σ e).1 c = σ.1 c := by
  have h1 : (csc σ e).1 c = (scn (σ.1 3) e e 0 (-1) (uv σ 2 4 (nI 0))).1 c := funext fun b => cat_o b h
  rw [h1, scn_o _ _ _ _ _ h]
  exact uv_fun _ _ _ h.1
theorem csc_q (σ : St) (e : Nat) : (∀ c, c ≠ 4 → (csc σ e).2.1 c = σ.2.1 c) ∧ (csc σ e).2.2 = σ.2.2 := by
  have h := scn_q (T := σ.1 3) (e := e) e 0 (-1) (uv σ 2 4 (nI 0))
  exact ⟨fun c hc => (cat_q hc).trans (h.1 c hc), h.2⟩
theorem csc_tk (σ : St) {e : Nat} (he : e ≤ 900) : ∃ m, m ≤ e ∧ TK0 (csc σ e) (m + 1) := by
  obtain ⟨m, m1, m2, m3⟩ := TK0_scn (T := σ.1 3) he e 0 (-1) (uv σ 2 4 (nI 0)) 0 ⟨uv_same _ _ _ _, fun i hi => absurd hi (Nat.not_lt_zero _)⟩ (Nat.le_refl _) (Nat.zero_le _)
  exact ⟨m, m1, TK0_cat (by omega) m3 (by decide)⟩
theorem PV_cbe (σ : St) {e : Nat} (he : e ≤ 900) : PV (cbe σ e) := by
  obtain ⟨m, m1, m2⟩ := csc_tk (uv (uv (uv (uv σ 1 7 (nI 0)) 1 8 (-1)) 1 3 (nI 0)) 1 2 (nI 0)) he
  have e1 : (cbe σ e).1 1 2 = nI 0 := by
    unfold cbe
    rw [csc_o _ _ (by decide)]
    exact uv_same _ _ _ _
  obtain ⟨a1, a2⟩ := nb_of (m := 900) e1 (Nat.zero_le _) (by decide)
  obtain ⟨b1, b2⟩ := nb_of (m := 901) (σ := cbe σ e) m2.1 (by omega) (by decide)
  exact ⟨a1, b1, by rw [a2, b2]; omega, fun i hi => m2.2 i (by rw [b2] at hi; exact hi)⟩
theorem PV_14 {σ : St} (h : PV σ) {j : Nat} (v : Int32) (hj : j ≠ 2) : PV (uv σ 1 j v) := PV_cg h (uv_cell _ _ _ _ (by decide)) (uv_idx _ _ _ _ (Ne.symm hj)) rfl
theorem PV_cp1 {σ : St} (h : PV σ) (t : Nat) : PV (cp1 σ t) := cI_a2 (Q := fun z => PV z) (fun _ => PV_14 ((cqs_PS _ _).2.2.2 ((PX_ccF _).2.2 h)) _ (by decide)) fun _ => (PX_cfa _ _).2.2 ((PX_ccF _).2.2 h)
theorem PV_cv1 {s : St} (h : PV s) (lo hi : Int32) {j : Nat} (hj : j ≠ 2) : PV (cv1 s lo hi j) := PV_14 ((PX_ctN _ _ _).2.2 h) _ hj
section LSW9
variable {x : Ctx} {g : Lay} {z0 nL n1 n2 h : Nat} {Q : State → Prop} {σ : St} {pc : Nat} {lv lv' : List (Nat × Value)} {st : List Value} {own : String} {cc : ByteArray} {ret : Option FieldType}
theorem g_lsw {a : Int32} {dflt off : Int} {ps : Array (Int × Int)} {len tgt : Nat} (hC : Cx x own cc nL ret h g z0) (hd : decode cc pc = .ok (.lookupswitch dflt ps, len)) (hp : (ps.toList.zip (ps.toList.drop 1)).all (fun (a, next) => a.1 < next.1) = true) (ho : Op.lookupswitch.offset ps.toList dflt a.toInt = off) (ht : (pc : Int) + off = (tgt : Int)) (k : GG x g z0 nL n1 n2 Q σ tgt lv st) : GG x g z0 nL n1 n2 Q σ pc lv (.int a :: st) := fun H locs ls hP hS hl => lv_lookup hC.1 hC.2.1 hd hp ho ht (k H locs ls hP hS hl)
theorem nI_ti {a : Int32} {n : Nat} (hn : n < 2 ^ 31) (h : (n : Int) = a.toInt) : a = nI n := by
  apply Int32.toInt_inj.mp
  rw [nI_toInt hn]
  exact h.symm
end LSW9
