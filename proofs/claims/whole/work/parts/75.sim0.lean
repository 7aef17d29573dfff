/-! the class's cells and the reference's: which place is which -/
def Cor (p : Prop) (a x a' x' : Nat) : Prop :=
  (∃ b, b < 8 ∧ a = 34 + 7 * b ∧ x = 6 ∧ a' = 16 ∧ x' = b) ∨
  (∃ b i n, b < 8 ∧ 1 ≤ i ∧ i ≤ 6 ∧ n < 200 ∧ a = 34 + 7 * b + i ∧ x = n + 1 ∧ a' = 16 + i ∧ x' = 200 * b + n) ∨
  (∃ q, q < 6 ∧ a = 90 + 3 * q ∧ ((x = 2 ∧ a' = 24) ∨ (x = 3 ∧ a' = 23) ∨ (x = 4 ∧ a' = 25) ∨ (x = 5 ∧ a' = 28)) ∧ x' = q) ∨
  (∃ q n, q < 6 ∧ n ≤ 200 ∧ a = 90 + 3 * q + 1 ∧ x = n ∧ a' = 27 ∧ x' = 201 * q + n) ∨
  (∃ q j, q < 6 ∧ j < 6 ∧ a = 90 + 3 * q + 2 ∧ x = j ∧ a' = 26 ∧ x' = 6 * q + j) ∨
  (a = 12 ∧ x < 360 ∧ a' = 30 ∧ x' = x) ∨ (a = 14 ∧ x < 160 ∧ a' = 29 ∧ x' = x) ∨
  (a' = 15 ∧ ((a = 11 ∧ x = 3 ∧ x' = 22) ∨ (a = 13 ∧ x = 3 ∧ x' = 21) ∨ (a = 8 ∧ x = 4 ∧ x' = 1) ∨ (a = 8 ∧ x = 5 ∧ x' = 2) ∨ (a = 8 ∧ x = 6 ∧ x' = 4) ∨ (p ∧ a = 8 ∧ x = 7 ∧ x' = 3) ∨ (p ∧ a = 8 ∧ x = 8 ∧ x' = 23)))
def Sim (p : Prop) (c m : St) : Prop := (∀ a x a' x', Cor p a x a' x' → c.1 a x = m.1 a' x') ∧ ∀ b, b < 8 → c.1 (34 + 7 * b + 6) 0 = nI 1
section SIM
variable {p : Prop} {c m : St}
theorem Cor.dom {a x a' x' : Nat} (h : Cor p a x a' x') : (8 ≤ a ∧ a ≤ 107) ∧ ¬ (15 ≤ a ∧ a ≤ 33) ∧ (15 ≤ a' ∧ a' ≤ 30) ∧ (a' = 15 → x' = 22 ∨ x' = 21 ∨ x' = 1 ∨ x' = 2 ∨ x' = 4 ∨ x' = 3 ∨ x' = 23) ∧ (a = 8 → 4 ≤ x) := by
  rcases h with ⟨b, h⟩ | ⟨b, i, n, h⟩ | ⟨q, h⟩ | ⟨q, n, h⟩ | ⟨q, j, h⟩ | h | h | h <;> omega
theorem Cor.size {b : Nat} (hb : b < 8) : Cor p (34 + 7 * b) 6 16 b := Or.inl ⟨b, hb, rfl, rfl, rfl, rfl⟩
theorem Cor.ent {b i n : Nat} (hb : b < 8) (h1 : 1 ≤ i) (h2 : i ≤ 6) (hn : n < 200) : Cor p (34 + 7 * b + i) (n + 1) (16 + i) (200 * b + n) := Or.inr (Or.inl ⟨b, i, n, hb, h1, h2, hn, rfl, rfl, rfl, rfl⟩)
theorem Cor.pos {q : Nat} (hq : q < 6) : Cor p (90 + 3 * q) 2 24 q := Or.inr (Or.inr (Or.inl ⟨q, hq, rfl, by omega, rfl⟩))
theorem Cor.see {q : Nat} (hq : q < 6) : Cor p (90 + 3 * q) 3 23 q := Or.inr (Or.inr (Or.inl ⟨q, hq, rfl, by omega, rfl⟩))
theorem Cor.ops {q : Nat} (hq : q < 6) : Cor p (90 + 3 * q) 4 25 q := Or.inr (Or.inr (Or.inl ⟨q, hq, rfl, by omega, rfl⟩))
theorem Cor.sus {q : Nat} (hq : q < 6) : Cor p (90 + 3 * q) 5 28 q := Or.inr (Or.inr (Or.inl ⟨q, hq, rfl, by omega, rfl⟩))
theorem Cor.his {q n : Nat} (hq : q < 6) (hn : n ≤ 200) : Cor p (90 + 3 * q + 1) n 27 (201 * q + n) := Or.inr (Or.inr (Or.inr (Or.inl ⟨q, n, hq, hn, rfl, rfl, rfl, rfl⟩)))
theorem Cor.vec {q j : Nat} (hq : q < 6) (hj : j < 6) : Cor p (90 + 3 * q + 2) j 26 (6 * q + j) := Or.inr (Or.inr (Or.inr (Or.inr (Or.inl ⟨q, j, hq, hj, rfl, rfl, rfl, rfl⟩))))
theorem Cor.bla {k : Nat} (hk : k < 360) : Cor p 12 k 30 k := Or.inr (Or.inr (Or.inr (Or.inr (Or.inr (Or.inl ⟨rfl, hk, rfl, rfl⟩)))))
theorem Cor.pst {k : Nat} (hk : k < 160) : Cor p 14 k 29 k := Or.inr (Or.inr (Or.inr (Or.inr (Or.inr (Or.inr (Or.inl ⟨rfl, hk, rfl, rfl⟩))))))
theorem Cor.num {a x x' : Nat} (h : (a = 11 ∧ x = 3 ∧ x' = 22) ∨ (a = 13 ∧ x = 3 ∧ x' = 21) ∨ (a = 8 ∧ x = 4 ∧ x' = 1) ∨ (a = 8 ∧ x = 5 ∧ x' = 2) ∨ (a = 8 ∧ x = 6 ∧ x' = 4) ∨ (p ∧ a = 8 ∧ x = 7 ∧ x' = 3) ∨ (p ∧ a = 8 ∧ x = 8 ∧ x' = 23)) : Cor p a x 15 x' := Or.inr (Or.inr (Or.inr (Or.inr (Or.inr (Or.inr (Or.inr ⟨rfl, h⟩))))))
theorem Sim.len (h : Sim p c m) {b : Nat} (hb : b < 8) : c.1 (34 + 7 * b) 6 = m.1 16 b := h.1 _ _ _ _ (Cor.size hb)
theorem Sim.rlen (h : Sim p c m) {b : Nat} (hb : b < 8) : rd c (34 + 7 * b) 6 = rd m 16 b := by unfold rd; rw [h.len hb]
theorem Sim.ent (h : Sim p c m) {b i n : Nat} (hb : b < 8) (h1 : 1 ≤ i) (h2 : i ≤ 6) (hn : 1 ≤ n) (hn2 : n ≤ 200) : c.1 (34 + 7 * b + i) n = m.1 (16 + i) (200 * b + n - 1) := by
  have := h.1 _ _ _ _ (Cor.ent (p := p) (b := b) (i := i) (n := n - 1) hb h1 h2 (by omega))
  rw [show n - 1 + 1 = n by omega] at this
  rw [show 200 * b + n - 1 = 200 * b + (n - 1) by omega]
  exact this
theorem Sim.has (h : Sim p c m) {b n : Nat} (hb : b < 8) (hn : n ≤ 200) : c.1 (34 + 7 * b + 6) n = mh m b n := by
  unfold mh
  by_cases q : n = 0
  · rw [if_pos q, q]; exact h.2 b hb
  · rw [if_neg q]; exact h.ent hb (by decide) (by decide) (by omega) hn
theorem Sim.pos (h : Sim p c m) {q : Nat} (hq : q < 6) : c.1 (90 + 3 * q) 2 = m.1 24 q := h.1 _ _ _ _ (Cor.pos hq)
theorem Sim.rpos (h : Sim p c m) {q : Nat} (hq : q < 6) : rd c (90 + 3 * q) 2 = rd m 24 q := by unfold rd; rw [h.pos hq]
theorem Sim.see (h : Sim p c m) {q : Nat} (hq : q < 6) : c.1 (90 + 3 * q) 3 = m.1 23 q := h.1 _ _ _ _ (Cor.see hq)
theorem Sim.rsee (h : Sim p c m) {q : Nat} (hq : q < 6) : rd c (90 + 3 * q) 3 = rd m 23 q := by unfold rd; rw [h.see hq]
theorem Sim.ops (h : Sim p c m) {q : Nat} (hq : q < 6) : c.1 (90 + 3 * q) 4 = m.1 25 q := h.1 _ _ _ _ (Cor.ops hq)
theorem Sim.sus (h : Sim p c m) {q : Nat} (hq : q < 6) : c.1 (90 + 3 * q) 5 = m.1 28 q := h.1 _ _ _ _ (Cor.sus hq)
theorem Sim.his (h : Sim p c m) {q n : Nat} (hq : q < 6) (hn : n ≤ 200) : c.1 (90 + 3 * q + 1) n = m.1 27 (201 * q + n) := h.1 _ _ _ _ (Cor.his hq hn)
theorem Sim.vec (h : Sim p c m) {q j : Nat} (hq : q < 6) (hj : j < 6) : c.1 (90 + 3 * q + 2) j = m.1 26 (6 * q + j) := h.1 _ _ _ _ (Cor.vec hq hj)
theorem Sim.bla (h : Sim p c m) {k : Nat} (hk : k < 360) : c.1 12 k = m.1 30 k := h.1 _ _ _ _ (Cor.bla hk)
theorem Sim.pst (h : Sim p c m) {k : Nat} (hk : k < 160) : c.1 14 k = m.1 29 k := h.1 _ _ _ _ (Cor.pst hk)
theorem Sim.nbl (h : Sim p c m) : c.1 11 3 = m.1 15 22 := h.1 _ _ _ _ (Cor.num (by omega))
theorem Sim.nps (h : Sim p c m) : c.1 13 3 = m.1 15 21 := h.1 _ _ _ _ (Cor.num (by omega))
theorem Sim.rps (h : Sim p c m) : rd c 13 3 = rd m 15 21 := by unfold rd; rw [h.nps]
theorem Sim.rbl (h : Sim p c m) : rd c 11 3 = rd m 15 22 := by unfold rd; rw [h.nbl]
theorem Sim.ncl (h : Sim p c m) : c.1 8 4 = m.1 15 1 := h.1 _ _ _ _ (Cor.num (by omega))
theorem Sim.rcl (h : Sim p c m) : rd c 8 4 = rd m 15 1 := by unfold rd; rw [h.ncl]
theorem Sim.nbk (h : Sim p c m) : c.1 8 5 = m.1 15 2 := h.1 _ _ _ _ (Cor.num (by omega))
theorem Sim.rbk (h : Sim p c m) : rd c 8 5 = rd m 15 2 := by unfold rd; rw [h.nbk]
theorem Sim.nbr (h : Sim p c m) : c.1 8 6 = m.1 15 4 := h.1 _ _ _ _ (Cor.num (by omega))
theorem Sim.rbr (h : Sim p c m) : rd c 8 6 = rd m 15 4 := by unfold rd; rw [h.nbr]
theorem Sim.ivl (h : Sim p c m) (hp : p) : c.1 8 7 = m.1 15 3 := h.1 _ _ _ _ (Cor.num (by simp [hp]))
theorem Sim.sea (h : Sim p c m) (hp : p) : c.1 8 8 = m.1 15 23 := h.1 _ _ _ _ (Cor.num (by simp [hp]))
/-- how Sim is kept: outside DC and DM nothing changes, inside the new numbers agree -/
theorem Sim.ext {c' m' : St} (h : Sim p c m) (DC DM : Nat → Nat → Prop) (hc : ∀ a x, ¬ DC a x → c'.1 a x = c.1 a x) (hm : ∀ a x, ¬ DM a x → m'.1 a x = m.1 a x) (hi : ∀ a x a' x', Cor p a x a' x' → (DC a x ↔ DM a' x')) (hd : ∀ a x a' x', Cor p a x a' x' → DC a x → DM a' x' → c'.1 a x = m'.1 a' x') (h0 : ∀ b, b < 8 → DC (34 + 7 * b + 6) 0 → c'.1 (34 + 7 * b + 6) 0 = nI 1) : Sim p c' m' := by
  refine ⟨fun a x a' x' q => ?_, fun b hb => ?_⟩
  · by_cases z : DC a x
    · exact hd a x a' x' q z ((hi a x a' x' q).mp z)
    · rw [hc a x z, hm a' x' (fun y => z ((hi a x a' x' q).mpr y))]
      exact h.1 a x a' x' q
  · by_cases z : DC (34 + 7 * b + 6) 0
    · exact h0 b hb z
    · rw [hc _ _ z]; exact h.2 b hb
theorem Sim.same {c' m' : St} (h : Sim p c m) (hc : ∀ a x, 8 ≤ a → a ≤ 107 → ¬ (15 ≤ a ∧ a ≤ 33) → (a = 8 → 4 ≤ x) → c'.1 a x = c.1 a x) (hm : ∀ a x, 15 ≤ a → a ≤ 30 → (a = 15 → x = 22 ∨ x = 21 ∨ x = 1 ∨ x = 2 ∨ x = 4 ∨ x = 3 ∨ x = 23) → m'.1 a x = m.1 a x) : Sim p c' m' := by
  refine ⟨fun a x a' x' q => ?_, fun b hb => ?_⟩
  · have d := q.dom
    rw [hc a x d.1.1 d.1.2 d.2.1 d.2.2.2.2, hm a' x' d.2.2.1.1 d.2.2.1.2 d.2.2.2.1]
    exact h.1 a x a' x' q
  · rw [hc _ _ (by omega) (by omega) (by omega) (by omega)]; exact h.2 b hb
theorem Sim.mono {p' : Prop} (h : Sim p c m) (hp : p' → p) : Sim p' c m := by
  refine ⟨fun a x a' x' q => h.1 a x a' x' ?_, h.2⟩
  rcases q with q | q | q | q | q | q | q | ⟨e, q⟩
  · exact Or.inl q
  · exact Or.inr (Or.inl q)
  · exact Or.inr (Or.inr (Or.inl q))
  · exact Or.inr (Or.inr (Or.inr (Or.inl q)))
  · exact Or.inr (Or.inr (Or.inr (Or.inr (Or.inl q))))
  · exact Or.inr (Or.inr (Or.inr (Or.inr (Or.inr (Or.inl q)))))
  · exact Or.inr (Or.inr (Or.inr (Or.inr (Or.inr (Or.inr (Or.inl q))))))
  · refine Or.inr (Or.inr (Or.inr (Or.inr (Or.inr (Or.inr (Or.inr ⟨e, ?_⟩))))))
    rcases q with q | q | q | q | q | ⟨y, q⟩ | ⟨y, q⟩
    · exact Or.inl q
    · exact Or.inr (Or.inl q)
    · exact Or.inr (Or.inr (Or.inl q))
    · exact Or.inr (Or.inr (Or.inr (Or.inl q)))
    · exact Or.inr (Or.inr (Or.inr (Or.inr (Or.inl q))))
    · exact Or.inr (Or.inr (Or.inr (Or.inr (Or.inr (Or.inl ⟨hp y, q⟩)))))
    · exact Or.inr (Or.inr (Or.inr (Or.inr (Or.inr (Or.inr ⟨hp y, q⟩)))))
/-- the places answer one to one -/
theorem Cor.inj {a x a' x' k j k' j' : Nat} (h1 : Cor p a x a' x') (h2 : Cor p k j k' j') : (a = k ∧ x = j) ↔ (a' = k' ∧ x' = j') := by
  rcases h1 with ⟨b, h⟩ | ⟨b, i, n, h⟩ | ⟨q, h⟩ | ⟨q, n, h⟩ | ⟨q, j0, h⟩ | h | h | h <;>
  rcases h2 with ⟨b2, g⟩ | ⟨b2, i2, n2, g⟩ | ⟨q2, g⟩ | ⟨q2, n2, g⟩ | ⟨q2, j2, g⟩ | g | g | g <;> constructor <;> omega
theorem Sim.put (h : Sim p c m) {k j k' j' : Nat} (v : Int32) (hC : Cor p k j k' j') : Sim p (uv c k j v) (uv m k' j' v) := by
  refine h.ext (fun a x => a = k ∧ x = j) (fun a x => a = k' ∧ x = j') (fun a x q => by rw [uv_ap, if_neg q]) (fun a x q => by rw [uv_ap, if_neg q]) (fun a x a' x' q => q.inj hC) (fun a x a' x' q z1 z2 => by rw [uv_ap, if_pos z1, uv_ap, if_pos z2]) ?_
  intro b hb z
  exfalso
  rcases hC with ⟨b2, g⟩ | ⟨b2, i2, n2, g⟩ | ⟨q2, g⟩ | ⟨q2, n2, g⟩ | ⟨q2, j2, g⟩ | g | g | g <;> omega
theorem Sim.m15 (h : Sim p c m) {x : Nat} (v : Int32) (hx : ¬ (x = 22 ∨ x = 21 ∨ x = 1 ∨ x = 2 ∨ x = 4 ∨ x = 3 ∨ x = 23)) : Sim p c (uv m 15 x v) := h.same (fun _ _ _ _ _ _ => rfl) (fun a y h1 h2 h3 => by rw [uv_ap, if_neg (by omega)])
end SIM
