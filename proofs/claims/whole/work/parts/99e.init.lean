/-! the state behind the constructors -/
def i0 (a x : Nat) : Int32 := if (a = 1 ∧ x = 8) ∨ (a = 15 ∧ x = 33) then -1 else if (a = 8 ∧ (x = 7 ∨ x = 8)) ∨ (34 ≤ a ∧ a < 90 ∧ (a - 34) % 7 = 6 ∧ x = 0) then nI 1 else 0
def q0 (a x : Nat) : Option Nat := if 108 ≤ a ∧ (a - 108) % 2 = 0 ∧ x = 1 then some 0 else none
def σ0 : St := (i0, q0, fun _ _ => 0)
theorem i0_z {a x : Nat} (h : ¬ ((a = 1 ∧ x = 8) ∨ (a = 15 ∧ x = 33)) ∧ ¬ ((a = 8 ∧ (x = 7 ∨ x = 8)) ∨ (34 ≤ a ∧ a < 90 ∧ (a - 34) % 7 = 6 ∧ x = 0))) : σ0.1 a x = nI 0 := by
  show i0 a x = nI 0
  unfold i0
  rw [if_neg h.1, if_neg h.2, nI_0]
theorem nb0 {a x : Nat} (n : Nat) (h : ¬ ((a = 1 ∧ x = 8) ∨ (a = 15 ∧ x = 33)) ∧ ¬ ((a = 8 ∧ (x = 7 ∨ x = 8)) ∨ (34 ≤ a ∧ a < 90 ∧ (a - 34) % 7 = 6 ∧ x = 0))) (hn : n < 2 ^ 31) : nb σ0 a x n := (nb_of (i0_z h) (Nat.zero_le _) hn).1
theorem rd0 {a x : Nat} (h : ¬ ((a = 1 ∧ x = 8) ∨ (a = 15 ∧ x = 33)) ∧ ¬ ((a = 8 ∧ (x = 7 ∨ x = 8)) ∨ (34 ≤ a ∧ a < 90 ∧ (a - 34) % 7 = 6 ∧ x = 0))) : rd σ0 a x = 0 := rd_of (i0_z h) (by decide)
theorem Inv_0 : Inv σ0 σ0 := by
  have r1 : rd σ0 15 1 = 0 := rd0 (by omega)
  refine ⟨⟨⟨fun a x a' x' q => ?_, fun b hb => ?_⟩, ⟨⟨⟨nb0 _ (by omega) (by decide), nb0 _ (by omega) (by decide), nb0 _ (by omega) (by decide), nb0 _ (by omega) (by decide), nb0 _ (by omega) (by decide)⟩, ⟨nb0 _ (by omega) (by decide), nb0 _ (by omega) (by decide), nb0 _ (by omega) (by decide)⟩, fun b _ => nb0 _ (by omega) (by decide), fun c _ => ⟨nb0 _ (by omega) (by decide), nb0 _ (by omega) (by decide)⟩, fun k _ => nb0 _ (by omega) (by decide), fun i _ => Or.inr (nb0 _ (by omega) (by decide)), fun z => absurd r1 z, fun c _ => Or.inl (i0_z (by omega))⟩, fun c hc => by rw [r1] at hc; omega⟩, fun i _ => ?_, fun b _ n hn => ?_, fun q j _ _ _ => i0_z (by omega)⟩, fun k _ => ?_, ?_, ?_, ⟨?_, ?_⟩, nb0 _ (by omega) (by decide)⟩
  · have e1 : σ0.1 a' x' = nI 0 := by
      have d := q.dom
      exact i0_z (by omega)
    rw [e1]
    rcases q with ⟨b, g⟩ | ⟨b, i, n, g⟩ | ⟨q, g⟩ | ⟨q, n, g⟩ | ⟨q, j, g⟩ | g | g | ⟨g0, g⟩
    · exact i0_z (by omega)
    · exact i0_z (by omega)
    · exact i0_z (by omega)
    · exact i0_z (by omega)
    · exact i0_z (by omega)
    · exact i0_z (by omega)
    · exact i0_z (by omega)
    · rcases g with g | g | g | g | g | g | g
      · exact i0_z (by omega)
      · exact i0_z (by omega)
      · exact i0_z (by omega)
      · exact i0_z (by omega)
      · exact i0_z (by omega)
      · exact absurd r1 g.1
      · exact absurd r1 g.1
  · show i0 (34 + 7 * b + 6) 0 = nI 1
    unfold i0
    rw [if_neg (by omega), if_pos (by omega)]
  · rw [i0_z (by omega)]
    exact ⟨by decide, by decide⟩
  · rw [rd0 (by omega)] at hn
    omega
  · rw [i0_z (by omega), i0_z (by omega)]
    exact ⟨by decide, by decide, by decide⟩
  · rw [i0_z (by omega), i0_z (by omega)]
  · rw [i0_z (by omega), i0_z (by omega)]
  · rw [i0_z (by omega), i0_z (by omega)]
  · rfl
/-- where cell k lies, in the order in which the constructors make them -/
def ofs (k : Nat) : Nat := if k < 8 then k else if k < 15 then k + 120 else if k < 34 then k + 194 else if k < 108 then k + 101 else k - 100
theorem ofs_lt {k : Nat} (h : k < 228) : ofs k < 228 := by
  unfold ofs
  split
  · omega
  · split
    · omega
    · split
      · omega
      · split <;> omega
theorem ofs_inj {i j : Nat} (hi : i < 228) (hj : j < 228) (h : ofs i = ofs j) : i = j := by
  unfold ofs at h
  repeat' split at h
  all_goals omega
