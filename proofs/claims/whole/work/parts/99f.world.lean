/-! the cells behind the constructors are those of the first state -/
def xF (g : Lay) (z0 : Nat) (S : Nat → va_E) : Nat → va_E := us (us (us (us (us (us (us (us (us (us (us (us (us (us (us (us (us (us S 210 (.inl (g.2.2.2.1 0, 8, .inl (fun _ => 0)))) 211 (.inl (g.2.2.2.1 0, 1600, .inl (fun _ => 0)))) 212 (.inl (g.2.2.2.1 0, 1600, .inl (fun _ => 0)))) 213 (.inl (g.2.2.2.1 0, 1600, .inl (fun _ => 0)))) 214 (.inl (g.2.2.2.1 0, 1600, .inl (fun _ => 0)))) 215 (.inl (g.2.2.2.1 0, 1600, .inl (fun _ => 0)))) 216 (.inl (g.2.2.2.1 0, 1600, .inl (fun _ => 0)))) 217 (.inl (g.2.2.2.1 0, 6, .inl (fun _ => 0)))) 218 (.inl (g.2.2.2.1 0, 6, .inl (fun _ => 0)))) 219 (.inl (g.2.2.2.1 0, 6, .inl (fun _ => 0)))) 220 (.inl (g.2.2.2.1 0, 36, .inl (fun _ => 0)))) 221 (.inl (g.2.2.2.1 0, 1206, .inl (fun _ => 0)))) 222 (.inl (g.2.2.2.1 2, 6, .inl (fun _ => 0)))) 223 (.inl (g.2.2.2.1 0, 160, .inl (fun _ => 0)))) 224 (.inl (g.2.2.2.1 0, 360, .inl (fun _ => 0)))) 225 (.inl (g.2.2.2.1 0, 900, .inl (fun _ => 0)))) 226 (.inl (g.2.2.2.1 0, 240, .inl (fun _ => 0)))) 209 (.inr (8, [.int 0, .int 0, .int 0, .int 0, .int 0, .int 0, .ref (z0 + 210), .ref (z0 + 211), .ref (z0 + 212), .ref (z0 + 213), .ref (z0 + 214), .ref (z0 + 215), .ref (z0 + 216), .ref (z0 + 217), .ref (z0 + 218), .ref (z0 + 219), .ref (z0 + 220), .ref (z0 + 221), .ref (z0 + 222), .ref (z0 + 223), .ref (z0 + 224), .int 0, .int 0, .int 0, .int 0, .ref (z0 + 225), .int 0, .int 0, .int 0, .int 0, .int 0, .int 0, .int 0, .int (-1), .long 0, .int 0, .int 0, .int 0, .ref (z0 + 226), .int 0]))
def x0 : va_E := .inr (8, [.int 0, .int 0, .int 0, .int 0, .int 0, .int 0, .null, .null, .null, .null, .null, .null, .null, .null, .null, .null, .null, .null, .null, .null, .null, .int 0, .int 0, .int 0, .int 0, .null, .int 0, .int 0, .int 0, .int 0, .int 0, .int 0, .int 0, .int 0, .long 0, .int 0, .int 0, .int 0, .null, .int 0])
def aF (g : Lay) (z0 : Nat) (S : Nat → va_E) : Nat → va_E := us (xF g z0 (us (wF g z0 S) 209 x0)) 227 (.inl (g.2.2.2.1 3, 1, .inr (.inl (fun _ => 0))))
abbrev gz (D : va_G) (z0 : Nat) (ad : Nat → Nat) (ac : Nat → ClassId) (X : State → Heap → Prop) : Lay := (D, fun k => z0 + ofs k, ad, ac, X)
def EQc (e e' : va_E) : Prop := e = e' ∨ ∃ (cA : ClassId) (a a' : vp_A), e = .inl (cA, a) ∧ e' = .inl (cA, a') ∧ vp_cell cA a = vp_cell cA a'
section WLD
variable {D : va_G} {z0 : Nat} {ad : Nat → Nat} {ac : Nat → ClassId} {X : State → Heap → Prop} {S : Nat → va_E}
theorem aF_lo {j : Nat} (h : j < 209) : aF (gz D z0 ad ac X) z0 S j = wF (gz D z0 ad ac X) z0 S j := by
  unfold aF xF
  rw [us_o _ _ (by omega), us_o _ _ (by omega), us_o _ _ (by omega), us_o _ _ (by omega), us_o _ _ (by omega), us_o _ _ (by omega), us_o _ _ (by omega), us_o _ _ (by omega), us_o _ _ (by omega), us_o _ _ (by omega), us_o _ _ (by omega), us_o _ _ (by omega), us_o _ _ (by omega), us_o _ _ (by omega), us_o _ _ (by omega), us_o _ _ (by omega), us_o _ _ (by omega), us_o _ _ (by omega), us_o _ _ (by omega), us_o _ _ (by omega)]
theorem aq_0 : aF (gz D z0 ad ac X) z0 S 0 = ct (gz D z0 ad ac X) σ0 0 := rfl
theorem aq_1 : aF (gz D z0 ad ac X) z0 S 1 = ct (gz D z0 ad ac X) σ0 1 := rfl
theorem aq_2 : aF (gz D z0 ad ac X) z0 S 2 = ct (gz D z0 ad ac X) σ0 2 := rfl
theorem aq_3 : aF (gz D z0 ad ac X) z0 S 3 = ct (gz D z0 ad ac X) σ0 3 := rfl
theorem aq_4 : aF (gz D z0 ad ac X) z0 S 4 = ct (gz D z0 ad ac X) σ0 4 := rfl
theorem aq_5 : aF (gz D z0 ad ac X) z0 S 5 = ct (gz D z0 ad ac X) σ0 5 := rfl
theorem aq_6 : aF (gz D z0 ad ac X) z0 S 6 = ct (gz D z0 ad ac X) σ0 6 := rfl
theorem aq_8 : aF (gz D z0 ad ac X) z0 S 128 = ct (gz D z0 ad ac X) σ0 8 := rfl
theorem aq_11 : aF (gz D z0 ad ac X) z0 S 131 = ct (gz D z0 ad ac X) σ0 11 := rfl
theorem aq_12 : aF (gz D z0 ad ac X) z0 S 132 = ct (gz D z0 ad ac X) σ0 12 := rfl
theorem aq_13 : aF (gz D z0 ad ac X) z0 S 133 = ct (gz D z0 ad ac X) σ0 13 := rfl
theorem aq_14 : aF (gz D z0 ad ac X) z0 S 134 = ct (gz D z0 ad ac X) σ0 14 := rfl
theorem aq_15 : aF (gz D z0 ad ac X) z0 S 209 = ct (gz D z0 ad ac X) σ0 15 := rfl
theorem aq_16 : aF (gz D z0 ad ac X) z0 S 210 = ct (gz D z0 ad ac X) σ0 16 := rfl
theorem aq_17 : aF (gz D z0 ad ac X) z0 S 211 = ct (gz D z0 ad ac X) σ0 17 := rfl
theorem aq_18 : aF (gz D z0 ad ac X) z0 S 212 = ct (gz D z0 ad ac X) σ0 18 := rfl
theorem aq_19 : aF (gz D z0 ad ac X) z0 S 213 = ct (gz D z0 ad ac X) σ0 19 := rfl
theorem aq_20 : aF (gz D z0 ad ac X) z0 S 214 = ct (gz D z0 ad ac X) σ0 20 := rfl
theorem aq_21 : aF (gz D z0 ad ac X) z0 S 215 = ct (gz D z0 ad ac X) σ0 21 := rfl
theorem aq_22 : aF (gz D z0 ad ac X) z0 S 216 = ct (gz D z0 ad ac X) σ0 22 := rfl
theorem aq_23 : aF (gz D z0 ad ac X) z0 S 217 = ct (gz D z0 ad ac X) σ0 23 := rfl
theorem aq_24 : aF (gz D z0 ad ac X) z0 S 218 = ct (gz D z0 ad ac X) σ0 24 := rfl
theorem aq_25 : aF (gz D z0 ad ac X) z0 S 219 = ct (gz D z0 ad ac X) σ0 25 := rfl
theorem aq_26 : aF (gz D z0 ad ac X) z0 S 220 = ct (gz D z0 ad ac X) σ0 26 := rfl
theorem aq_27 : aF (gz D z0 ad ac X) z0 S 221 = ct (gz D z0 ad ac X) σ0 27 := rfl
theorem aq_28 : aF (gz D z0 ad ac X) z0 S 222 = ct (gz D z0 ad ac X) σ0 28 := rfl
theorem aq_29 : aF (gz D z0 ad ac X) z0 S 223 = ct (gz D z0 ad ac X) σ0 29 := rfl
theorem aq_30 : aF (gz D z0 ad ac X) z0 S 224 = ct (gz D z0 ad ac X) σ0 30 := rfl
theorem aq_31 : aF (gz D z0 ad ac X) z0 S 225 = ct (gz D z0 ad ac X) σ0 31 := rfl
theorem aq_32 : aF (gz D z0 ad ac X) z0 S 226 = ct (gz D z0 ad ac X) σ0 32 := rfl
theorem aq_33 : aF (gz D z0 ad ac X) z0 S 227 = ct (gz D z0 ad ac X) σ0 33 := rfl
end WLD
