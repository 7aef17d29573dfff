/-! MY LAYER: all cells of class, reference and law in one world, by number; a goal GG that speaks of numbers alone -/
abbrev St : Type := (Nat → Nat → Int32) × (Nat → Nat → Option Nat) × (Nat → Nat → Int64)
abbrev Lay : Type := va_G × (Nat → Nat) × (Nat → Nat) × (Nat → ClassId) × (State → Heap → Prop)
def u2 {α : Type} (f : Nat → Nat → α) (k j : Nat) (x : α) : Nat → Nat → α := fun a b => if a = k then if b = j then x else f a b else f a b
def uv (σ : St) (k j : Nat) (x : Int32) : St := (u2 σ.1 k j x, σ.2.1, σ.2.2)
def uq (σ : St) (k j : Nat) (x : Option Nat) : St := (σ.1, u2 σ.2.1 k j x, σ.2.2)
def ul (σ : St) (k j : Nat) (x : Int64) : St := (σ.1, σ.2.1, u2 σ.2.2 k j x)
def ur (σ : St) (k : Nat) (f : Nat → Int32) : St := (fun a => if a = k then f else σ.1 a, σ.2.1, σ.2.2)
abbrev qA (f : Nat → Option Nat) : (Nat → Int32) ⊕ (Nat → Int64) ⊕ (Nat → UInt32) ⊕ (Nat → UInt64) ⊕ (Nat → Option Nat) := .inr (.inr (.inr (.inr f)))
def NC : Nat := 228
def ct0 (g : Lay) (v : Nat → Int32) (q : Nat → Option Nat) (w : Nat → Int64) : Nat → va_E
  | 0 => .inr (7, [.ref (g.2.1 1), .ref (g.2.1 8), .int (v 2), .int (v 3)])
  | 1 => .inr (3, [.ref (g.2.1 2), .ref (g.2.1 7), .int (v 2), .int (v 3), .int (v 4), .int (v 5), .int (v 6), .int (v 7), .int (v 8)])
  | 2 => .inr (6, [.ref (g.2.1 3), .ref (g.2.1 4), .ref (g.2.1 5), .ref (g.2.1 6), .int (v 4)])
  | 3 => .inl (g.2.2.2.1 1, 900, .inl (v))
  | 4 => .inl (g.2.2.2.1 4, 901, qA (fun j => (q j).map g.2.2.1))
  | 5 => .inl (g.2.2.2.1 0, 901, .inl (v))
  | 6 => .inl (g.2.2.2.1 0, 901, .inl (v))
  | 7 => .inl (g.2.2.2.1 7, 60, qA (fun j => some (g.2.1 (108 + 2 * j))))
  | 8 => .inr (4, [.ref (g.2.1 9), .ref (g.2.1 10), .ref (g.2.1 11), .ref (g.2.1 13), .int (v 4), .int (v 5), .int (v 6), .int (v 7), .int (v 8)])
  | 9 => .inl (g.2.2.2.1 5, 8, qA (fun j => some (g.2.1 (34 + 7 * j))))
  | 10 => .inl (g.2.2.2.1 6, 6, qA (fun j => some (g.2.1 (90 + 3 * j))))
  | 11 => .inr (2, [.int 60, .int 6, .ref (g.2.1 12), .int (v 3)])
  | 12 => .inl (g.2.2.2.1 0, 360, .inl (v))
  | 13 => .inr (2, [.int 40, .int 4, .ref (g.2.1 14), .int (v 3)])
  | 14 => .inl (g.2.2.2.1 0, 160, .inl (v))
  | 15 => .inr (8, [.int (v 0), .int (v 1), .int (v 2), .int (v 3), .int (v 4), .int (v 5), .ref (g.2.1 16), .ref (g.2.1 17), .ref (g.2.1 18), .ref (g.2.1 19), .ref (g.2.1 20), .ref (g.2.1 21), .ref (g.2.1 22), .ref (g.2.1 23), .ref (g.2.1 24), .ref (g.2.1 25), .ref (g.2.1 26), .ref (g.2.1 27), .ref (g.2.1 28), .ref (g.2.1 29), .ref (g.2.1 30), .int (v 21), .int (v 22), .int (v 23), .int (v 24), .ref (g.2.1 31), .int (v 26), .int (v 27), .int (v 28), .int (v 29), .int (v 30), .int (v 31), .int (v 32), .int (v 33), .long (w 34), .int (v 35), .int (v 36), .int (v 37), .ref (g.2.1 32), .int (v 39)])
  | 16 => .inl (g.2.2.2.1 0, 8, .inl (v))
  | 17 => .inl (g.2.2.2.1 0, 1600, .inl (v))
  | 18 => .inl (g.2.2.2.1 0, 1600, .inl (v))
  | 19 => .inl (g.2.2.2.1 0, 1600, .inl (v))
  | 20 => .inl (g.2.2.2.1 0, 1600, .inl (v))
  | 21 => .inl (g.2.2.2.1 0, 1600, .inl (v))
  | 22 => .inl (g.2.2.2.1 0, 1600, .inl (v))
  | 23 => .inl (g.2.2.2.1 0, 6, .inl (v))
  | 24 => .inl (g.2.2.2.1 0, 6, .inl (v))
  | 25 => .inl (g.2.2.2.1 0, 6, .inl (v))
  | 26 => .inl (g.2.2.2.1 0, 36, .inl (v))
  | 27 => .inl (g.2.2.2.1 0, 1206, .inl (v))
  | 28 => .inl (g.2.2.2.1 2, 6, .inl (v))
  | 29 => .inl (g.2.2.2.1 0, 160, .inl (v))
  | 30 => .inl (g.2.2.2.1 0, 360, .inl (v))
  | 31 => .inl (g.2.2.2.1 0, 900, .inl (v))
  | 32 => .inl (g.2.2.2.1 0, 240, .inl (v))
  | _ => .inl (g.2.2.2.1 3, 1, .inr (.inl (w)))
def ctk (g : Lay) (k : Nat) (v : Nat → Int32) (q : Nat → Option Nat) (w : Nat → Int64) : va_E :=
  if k < 34 then ct0 g v q w k
  else if k < 90 then (if (k - 34) % 7 = 0 then .inr (0, [.ref (g.2.1 (k + 1)), .ref (g.2.1 (k + 2)), .ref (g.2.1 (k + 3)), .ref (g.2.1 (k + 4)), .ref (g.2.1 (k + 5)), .ref (g.2.1 (k + 6)), .int (v 6)]) else .inl (g.2.2.2.1 0, 201, .inl v))
  else if k < 108 then (if (k - 90) % 3 = 0 then .inr (1, [.ref (g.2.1 (k + 1)), .ref (g.2.1 (k + 2)), .int (v 2), .int (v 3), .int (v 4), .int (v 5)]) else if (k - 90) % 3 = 1 then .inl (g.2.2.2.1 0, 201, .inl v) else .inl (g.2.2.2.1 0, 6, .inl v))
  else if (k - 108) % 2 = 0 then .inr (5, [.ref (g.2.1 (k + 1)), va_re g.2.2.1 (q 1)]) else .inl (g.2.2.2.1 0, 3, .inl v)
def ct (g : Lay) (σ : St) (k : Nat) : va_E := ctk g k (σ.1 k) (σ.2.1 k) (σ.2.2 k)
def wl (g : Lay) (σ : St) : va_W := (List.range NC).map (fun k => (g.2.1 k, ct g σ k))
def tyG (g : Lay) : List (ClassId × FieldType) := [(g.2.2.2.1 0, .int), (g.2.2.2.1 1, .byte), (g.2.2.2.1 2, .boolean), (g.2.2.2.1 3, .long), (g.2.2.2.1 4, .object "ForkWatch$Kind"), (g.2.2.2.1 5, .object "ForkWatch$Branch"), (g.2.2.2.1 6, .object "ForkWatch$Client"), (g.2.2.2.1 7, .object "ForkWatch$Step")]
theorem ct_0 (g : Lay) (σ : St) : ct g σ 0 = .inr (7, [.ref (g.2.1 1), .ref (g.2.1 8), .int (σ.1 0 2), .int (σ.1 0 3)]) := rfl
theorem ct_1 (g : Lay) (σ : St) : ct g σ 1 = .inr (3, [.ref (g.2.1 2), .ref (g.2.1 7), .int (σ.1 1 2), .int (σ.1 1 3), .int (σ.1 1 4), .int (σ.1 1 5), .int (σ.1 1 6), .int (σ.1 1 7), .int (σ.1 1 8)]) := rfl
theorem ct_2 (g : Lay) (σ : St) : ct g σ 2 = .inr (6, [.ref (g.2.1 3), .ref (g.2.1 4), .ref (g.2.1 5), .ref (g.2.1 6), .int (σ.1 2 4)]) := rfl
theorem ct_3 (g : Lay) (σ : St) : ct g σ 3 = .inl (g.2.2.2.1 1, 900, .inl (σ.1 3)) := rfl
theorem ct_4 (g : Lay) (σ : St) : ct g σ 4 = .inl (g.2.2.2.1 4, 901, qA (fun j => (σ.2.1 4 j).map g.2.2.1)) := rfl
theorem ct_5 (g : Lay) (σ : St) : ct g σ 5 = .inl (g.2.2.2.1 0, 901, .inl (σ.1 5)) := rfl
theorem ct_6 (g : Lay) (σ : St) : ct g σ 6 = .inl (g.2.2.2.1 0, 901, .inl (σ.1 6)) := rfl
theorem ct_7 (g : Lay) (σ : St) : ct g σ 7 = .inl (g.2.2.2.1 7, 60, qA (fun j => some (g.2.1 (108 + 2 * j)))) := rfl
theorem ct_8 (g : Lay) (σ : St) : ct g σ 8 = .inr (4, [.ref (g.2.1 9), .ref (g.2.1 10), .ref (g.2.1 11), .ref (g.2.1 13), .int (σ.1 8 4), .int (σ.1 8 5), .int (σ.1 8 6), .int (σ.1 8 7), .int (σ.1 8 8)]) := rfl
theorem ct_9 (g : Lay) (σ : St) : ct g σ 9 = .inl (g.2.2.2.1 5, 8, qA (fun j => some (g.2.1 (34 + 7 * j)))) := rfl
theorem ct_10 (g : Lay) (σ : St) : ct g σ 10 = .inl (g.2.2.2.1 6, 6, qA (fun j => some (g.2.1 (90 + 3 * j)))) := rfl
theorem ct_11 (g : Lay) (σ : St) : ct g σ 11 = .inr (2, [.int 60, .int 6, .ref (g.2.1 12), .int (σ.1 11 3)]) := rfl
theorem ct_12 (g : Lay) (σ : St) : ct g σ 12 = .inl (g.2.2.2.1 0, 360, .inl (σ.1 12)) := rfl
theorem ct_13 (g : Lay) (σ : St) : ct g σ 13 = .inr (2, [.int 40, .int 4, .ref (g.2.1 14), .int (σ.1 13 3)]) := rfl
theorem ct_14 (g : Lay) (σ : St) : ct g σ 14 = .inl (g.2.2.2.1 0, 160, .inl (σ.1 14)) := rfl
theorem ct_15 (g : Lay) (σ : St) : ct g σ 15 = .inr (8, [.int (σ.1 15 0), .int (σ.1 15 1), .int (σ.1 15 2), .int (σ.1 15 3), .int (σ.1 15 4), .int (σ.1 15 5), .ref (g.2.1 16), .ref (g.2.1 17), .ref (g.2.1 18), .ref (g.2.1 19), .ref (g.2.1 20), .ref (g.2.1 21), .ref (g.2.1 22), .ref (g.2.1 23), .ref (g.2.1 24), .ref (g.2.1 25), .ref (g.2.1 26), .ref (g.2.1 27), .ref (g.2.1 28), .ref (g.2.1 29), .ref (g.2.1 30), .int (σ.1 15 21), .int (σ.1 15 22), .int (σ.1 15 23), .int (σ.1 15 24), .ref (g.2.1 31), .int (σ.1 15 26), .int (σ.1 15 27), .int (σ.1 15 28), .int (σ.1 15 29), .int (σ.1 15 30), .int (σ.1 15 31), .int (σ.1 15 32), .int (σ.1 15 33), .long (σ.2.2 15 34), .int (σ.1 15 35), .int (σ.1 15 36), .int (σ.1 15 37), .ref (g.2.1 32), .int (σ.1 15 39)]) := rfl
theorem ct_16 (g : Lay) (σ : St) : ct g σ 16 = .inl (g.2.2.2.1 0, 8, .inl (σ.1 16)) := rfl
theorem ct_17 (g : Lay) (σ : St) : ct g σ 17 = .inl (g.2.2.2.1 0, 1600, .inl (σ.1 17)) := rfl
theorem ct_18 (g : Lay) (σ : St) : ct g σ 18 = .inl (g.2.2.2.1 0, 1600, .inl (σ.1 18)) := rfl
theorem ct_19 (g : Lay) (σ : St) : ct g σ 19 = .inl (g.2.2.2.1 0, 1600, .inl (σ.1 19)) := rfl
theorem ct_20 (g : Lay) (σ : St) : ct g σ 20 = .inl (g.2.2.2.1 0, 1600, .inl (σ.1 20)) := rfl
theorem ct_21 (g : Lay) (σ : St) : ct g σ 21 = .inl (g.2.2.2.1 0, 1600, .inl (σ.1 21)) := rfl
theorem ct_22 (g : Lay) (σ : St) : ct g σ 22 = .inl (g.2.2.2.1 0, 1600, .inl (σ.1 22)) := rfl
theorem ct_23 (g : Lay) (σ : St) : ct g σ 23 = .inl (g.2.2.2.1 0, 6, .inl (σ.1 23)) := rfl
theorem ct_24 (g : Lay) (σ : St) : ct g σ 24 = .inl (g.2.2.2.1 0, 6, .inl (σ.1 24)) := rfl
theorem ct_25 (g : Lay) (σ : St) : ct g σ 25 = .inl (g.2.2.2.1 0, 6, .inl (σ.1 25)) := rfl
theorem ct_26 (g : Lay) (σ : St) : ct g σ 26 = .inl (g.2.2.2.1 0, 36, .inl (σ.1 26)) := rfl
theorem ct_27 (g : Lay) (σ : St) : ct g σ 27 = .inl (g.2.2.2.1 0, 1206, .inl (σ.1 27)) := rfl
theorem ct_28 (g : Lay) (σ : St) : ct g σ 28 = .inl (g.2.2.2.1 2, 6, .inl (σ.1 28)) := rfl
theorem ct_29 (g : Lay) (σ : St) : ct g σ 29 = .inl (g.2.2.2.1 0, 160, .inl (σ.1 29)) := rfl
theorem ct_30 (g : Lay) (σ : St) : ct g σ 30 = .inl (g.2.2.2.1 0, 360, .inl (σ.1 30)) := rfl
theorem ct_31 (g : Lay) (σ : St) : ct g σ 31 = .inl (g.2.2.2.1 0, 900, .inl (σ.1 31)) := rfl
theorem ct_32 (g : Lay) (σ : St) : ct g σ 32 = .inl (g.2.2.2.1 0, 240, .inl (σ.1 32)) := rfl
theorem ct_33 (g : Lay) (σ : St) : ct g σ 33 = .inl (g.2.2.2.1 3, 1, .inr (.inl (σ.2.2 33))) := rfl
theorem ct_br (g : Lay) (σ : St) {b : Nat} (hb : b < 8) : ct g σ (34 + 7 * b) = .inr (0, [.ref (g.2.1 (34 + 7 * b + 1)), .ref (g.2.1 (34 + 7 * b + 2)), .ref (g.2.1 (34 + 7 * b + 3)), .ref (g.2.1 (34 + 7 * b + 4)), .ref (g.2.1 (34 + 7 * b + 5)), .ref (g.2.1 (34 + 7 * b + 6)), .int (σ.1 (34 + 7 * b) 6)]) := by
  unfold ct ctk
  rw [if_neg (by omega), if_pos (by omega), if_pos (by omega)]
theorem ct_ba (g : Lay) (σ : St) {b j : Nat} (hb : b < 8) (h1 : 1 ≤ j) (h2 : j ≤ 6) : ct g σ (34 + 7 * b + j) = .inl (g.2.2.2.1 0, 201, .inl (σ.1 (34 + 7 * b + j))) := by
  unfold ct ctk
  rw [if_neg (by omega), if_pos (by omega), if_neg (by omega)]
theorem ct_cl (g : Lay) (σ : St) {c : Nat} (hc : c < 6) : ct g σ (90 + 3 * c) = .inr (1, [.ref (g.2.1 (90 + 3 * c + 1)), .ref (g.2.1 (90 + 3 * c + 2)), .int (σ.1 (90 + 3 * c) 2), .int (σ.1 (90 + 3 * c) 3), .int (σ.1 (90 + 3 * c) 4), .int (σ.1 (90 + 3 * c) 5)]) := by
  unfold ct ctk
  rw [if_neg (by omega), if_neg (by omega), if_pos (by omega), if_pos (by omega)]
theorem ct_ch (g : Lay) (σ : St) {c : Nat} (hc : c < 6) : ct g σ (90 + 3 * c + 1) = .inl (g.2.2.2.1 0, 201, .inl (σ.1 (90 + 3 * c + 1))) := by
  unfold ct ctk
  rw [if_neg (by omega), if_neg (by omega), if_pos (by omega), if_neg (by omega), if_pos (by omega)]
theorem ct_cc (g : Lay) (σ : St) {c : Nat} (hc : c < 6) : ct g σ (90 + 3 * c + 2) = .inl (g.2.2.2.1 0, 6, .inl (σ.1 (90 + 3 * c + 2))) := by
  unfold ct ctk
  rw [if_neg (by omega), if_neg (by omega), if_pos (by omega), if_neg (by omega), if_neg (by omega)]
theorem ct_sp (g : Lay) (σ : St) {i : Nat} (hi : i < 60) : ct g σ (108 + 2 * i) = .inr (5, [.ref (g.2.1 (108 + 2 * i + 1)), va_re g.2.2.1 (σ.2.1 (108 + 2 * i) 1)]) := by
  unfold ct ctk
  rw [if_neg (by omega), if_neg (by omega), if_neg (by omega), if_pos (by omega)]
theorem ct_sn (g : Lay) (σ : St) {i : Nat} (hi : i < 60) : ct g σ (108 + 2 * i + 1) = .inl (g.2.2.2.1 0, 3, .inl (σ.1 (108 + 2 * i + 1))) := by
  unfold ct ctk
  rw [if_neg (by omega), if_neg (by omega), if_neg (by omega), if_neg (by omega)]
theorem wl_get (g : Lay) (σ : St) {k : Nat} (hk : k < NC) : (wl g σ)[k]? = some (g.2.1 k, ct g σ k) := by
  simp [wl, hk]
theorem wl_set (g : Lay) (σ σ' : St) {k : Nat} (hk : k < NC) (h : ∀ j, j ≠ k → ct g σ' j = ct g σ j) : (wl g σ).set k (g.2.1 k, ct g σ' k) = wl g σ' := by
  apply List.ext_getElem?
  intro i
  by_cases hi : i = k
  · subst hi
    rw [wl_get g σ' hk, List.getElem?_set_self (by simp [wl]; exact hk)]
  · rw [List.getElem?_set_ne (Ne.symm hi)]
    by_cases hN : i < NC
    · rw [wl_get g σ hN, wl_get g σ' hN, h i hi]
    · rw [List.getElem?_eq_none (by simp [wl]; omega), List.getElem?_eq_none (by simp [wl]; omega)]
theorem u2_ne {α : Type} (f : Nat → Nat → α) (k j : Nat) (x : α) {i : Nat} (h : i ≠ k) : u2 f k j x i = f i := by
  funext b
  simp [u2, h]
theorem ct_uv (g : Lay) (σ : St) (k j : Nat) (x : Int32) {i : Nat} (h : i ≠ k) : ct g (uv σ k j x) i = ct g σ i := by
  simp [ct, uv, u2_ne _ _ _ _ h]
theorem ct_uq (g : Lay) (σ : St) (k j : Nat) (x : Option Nat) {i : Nat} (h : i ≠ k) : ct g (uq σ k j x) i = ct g σ i := by
  simp [ct, uq, u2_ne _ _ _ _ h]
theorem ct_ul (g : Lay) (σ : St) (k j : Nat) (x : Int64) {i : Nat} (h : i ≠ k) : ct g (ul σ k j x) i = ct g σ i := by
  simp [ct, ul, u2_ne _ _ _ _ h]
theorem ct_ur (g : Lay) (σ : St) (k : Nat) (f : Nat → Int32) {i : Nat} (h : i ≠ k) : ct g (ur σ k f) i = ct g σ i := by
  simp [ct, ur, h]
theorem uv_row (σ : St) (k j : Nat) (x : Int32) : (uv σ k j x).1 k = fun b => if b = j then x else σ.1 k b := by
  funext b
  simp [uv, u2]
theorem ul_row (σ : St) (k j : Nat) (x : Int64) : (ul σ k j x).2.2 k = fun b => if b = j then x else σ.2.2 k b := by
  funext b
  simp [ul, u2]
theorem uq_row (σ : St) (k j : Nat) (x : Option Nat) : (uq σ k j x).2.1 k = fun b => if b = j then x else σ.2.1 k b := by
  funext b
  simp [uq, u2]
theorem ur_row (σ : St) (k : Nat) (f : Nat → Int32) : (ur σ k f).1 k = f := by simp [ur]
/-- what stays true of the cells below z0 whatever is done above, and of tables that are warmer -/
def XOk (z0 : Nat) (X : State → Heap → Prop) : Prop := (∀ (s U : State) (H : Heap), s.WarmedH U.vm → X s H → X U H) ∧ ∀ (U : State) (H H1 : Heap), X U H → (∀ a : Nat, a < H.size → ¬ z0 ≤ a → H1[a]? = H[a]?) → X U H1
def WT (U : State) : Prop := ∀ w ∈ lw_tbl, goodWord w = true → ∀ a : Array Value, w.before a U = true
def WIn (w : Cond) : Prop := w ∈ lw_tbl ∧ goodWord w = true
def WK (g : Lay) (z0 : Nat) (U : State) : Prop := va_K g.1 vwCl (tyG g) U ∧ (∀ i j, i < NC → j < NC → g.2.1 i = g.2.1 j → i = j) ∧ (∀ k, k < NC → z0 ≤ g.2.1 k) ∧ WT U ∧ XOk z0 g.2.2.2.2
def WU (g : Lay) (z0 : Nat) (σ : St) (U : State) : Prop := va_P g.1 vwCl (wl g σ) U.heap ∧ WK g z0 U ∧ z0 ≤ U.heap.size ∧ g.2.2.2.2 U U.heap
theorem WT.moved {s U : State} (hW : s.WarmedH U.vm) (h : WT s) : WT U := fun w hw hg a => word_at (args := a) hW (good_of_word hg) (h w hw hg a)
theorem WK.moved {g : Lay} {z0 : Nat} {s U : State} (hW : s.WarmedH U.vm) (h : WK g z0 s) : WK g z0 U := ⟨va_K.moved hW.alike h.1, h.2.1, h.2.2.1, h.2.2.2.1.moved hW, h.2.2.2.2⟩
theorem wl_D {g : Lay} {z0 : Nat} {U : State} (h : WK g z0 U) (σ : St) : va_D (fun q => z0 ≤ q) (wl g σ) := by
  have key : ∀ (k : Nat) (q : Nat × va_E), (wl g σ)[k]? = some q → k < NC ∧ q = (g.2.1 k, ct g σ k) := by
    intro k q hq
    have hk : k < NC := by
      have := (List.getElem?_eq_some_iff.mp hq).1
      simpa [wl] using this
    rw [wl_get g σ hk] at hq
    exact ⟨hk, (Option.some.inj hq).symm⟩
  refine ⟨fun i j p q hi hj hpq => ?_, fun k q hk => ?_⟩
  · obtain ⟨h1, rfl⟩ := key i p hi
    obtain ⟨h2, rfl⟩ := key j q hj
    exact h.2.1 i j h1 h2 hpq
  · obtain ⟨h1, rfl⟩ := key k q hk
    exact h.2.2.1 k h1
abbrev Ctx : Type := Program × Launch × Env × Room × State × MethodId × Array Value × List Frame × Method × Code
abbrev Ctx.pr (x : Ctx) : Program := x.1
abbrev Ctx.la (x : Ctx) : Launch := x.2.1
abbrev Ctx.en (x : Ctx) : Env := x.2.2.1
abbrev Ctx.ro (x : Ctx) : Room := x.2.2.2.1
abbrev Ctx.s (x : Ctx) : State := x.2.2.2.2.1
abbrev Ctx.m (x : Ctx) : MethodId := x.2.2.2.2.2.1
abbrev Ctx.ar (x : Ctx) : Array Value := x.2.2.2.2.2.2.1
abbrev Ctx.be (x : Ctx) : List Frame := x.2.2.2.2.2.2.2.1
abbrev Ctx.me (x : Ctx) : Method := x.2.2.2.2.2.2.2.2.1
abbrev Ctx.co (x : Ctx) : Code := x.2.2.2.2.2.2.2.2.2
/-- what a method's body knows: the machine, its code, its class, the tables, its room (h calls deep) -/
def Cx (x : Ctx) (own : String) (cc : ByteArray) (nL : Nat) (ret : Option FieldType) (h : Nat) (g : Lay) (z0 : Nat) : Prop :=
  x.pr.tables.exec = Jvm.exec ∧ x.co.code = cc ∧ x.co.maxLocals = nL ∧ x.s.vm.findClass own = some x.m.cls ∧ x.me.locks = false ∧ x.me.sig.returnType = ret ∧ (h ≤ x.ro.frames ∧ 40 * h ≤ x.ro.locals) ∧ WK g z0 x.s ∧ z0 ≤ x.s.heap.size ∧ g.2.2.2.2 x.s x.s.heap
/-- the goal: with the cells as σ says, at pc, with these locals and this stack, the method comes to Q -/
def GG (x : Ctx) (g : Lay) (z0 nL n1 n2 : Nat) (Q : State → Prop) (σ : St) (pc : Nat) (lv : List (Nat × Value)) (st : List Value) : Prop :=
  ∀ (H : Heap) (locs : List Loc) (ls : Array Slot), va_P g.1 vwCl (wl g σ) H → va_S (fun q => z0 ≤ q) x.s.heap H locs → lv_has ls nL lv → W x.1 x.2.1 x.2.2.1 x.2.2.2.1 x.2.2.2.2.1 x.2.2.2.2.2.1 x.2.2.2.2.2.2.1 x.2.2.2.2.2.2.2.1 x.2.2.2.2.2.2.2.2.1 x.2.2.2.2.2.2.2.2.2 H locs n1 n2 Q (F0 x.2.2.2.2.2.1 pc ls st)
def rmH (h : Nat) : Room := { frames := h, cells := 0, slots := 0, locals := 40 * h }
abbrev Bw (g : Lay) : St → State → Prop := fun σ t => va_P g.1 vwCl (wl g σ) t.heap
/-- contracts: an int, nothing, a constant of the enum -/
def CTi (l : Launch) (y : MethodName) (cc : ByteArray) (nL : Nat) (ret : Option FieldType) (h : Nat) (g : Lay) (z0 : Nat) (av : List Value) (σ : St) (post : Int32 → St → Prop) : Prop :=
  Met l y [.code y cc nL ret] (rmH h) (va_Pc av (WU g z0 σ)) (va_Qi post (Bw g) (fun q => z0 ≤ q)) 0 0 (fun q => z0 ≤ q)
def CTv (l : Launch) (y : MethodName) (cc : ByteArray) (nL : Nat) (h : Nat) (g : Lay) (z0 : Nat) (av : List Value) (σ : St) (post : St → Prop) : Prop :=
  Met l y [.code y cc nL none] (rmH h) (va_Pc av (WU g z0 σ)) (va_Qv post (Bw g) (fun q => z0 ≤ q)) 0 0 (fun q => z0 ≤ q)
def CTe (l : Launch) (y : MethodName) (cc : ByteArray) (nL : Nat) (ret : Option FieldType) (h : Nat) (g : Lay) (z0 : Nat) (av : List Value) (σ : St) (post : Option Nat → St → Prop) : Prop :=
  Met l y [.code y cc nL ret] (rmH h) (va_Pc av (WU g z0 σ)) (va_Qe g.2.2.1 post (Bw g) (fun q => z0 ≤ q)) 0 0 (fun q => z0 ≤ q)
def Qi (x : Ctx) (g : Lay) (z0 : Nat) (post : Int32 → St → Prop) : State → Prop := MQ x.2.2.2.2.2.2.2.1 (va_Qi post (Bw g) (fun q => z0 ≤ q)) x.2.2.2.2.2.2.1 x.2.2.2.2.1 0 0 (fun q => z0 ≤ q)
def Qv (x : Ctx) (g : Lay) (z0 : Nat) (post : St → Prop) : State → Prop := MQ x.2.2.2.2.2.2.2.1 (va_Qv post (Bw g) (fun q => z0 ≤ q)) x.2.2.2.2.2.2.1 x.2.2.2.2.1 0 0 (fun q => z0 ≤ q)
def Qe (x : Ctx) (g : Lay) (z0 : Nat) (post : Option Nat → St → Prop) : State → Prop := MQ x.2.2.2.2.2.2.2.1 (va_Qe g.2.2.1 post (Bw g) (fun q => z0 ≤ q)) x.2.2.2.2.2.2.1 x.2.2.2.2.1 0 0 (fun q => z0 ≤ q)
section START
variable {l : Launch} {y : MethodName} {cc : ByteArray} {nL : Nat} {ret : Option FieldType} {h : Nat} {g : Lay} {z0 : Nat} {av : List Value} {σ : St}
theorem start_W {Qc : Array Value → State → Outcome → State → Prop} (hy : plainName y.cls = true) (hn : (lg_sl av).length ≤ nL)
    (body : ∀ x : Ctx, x.2.1 = l → x.2.2.2.2.2.2.1 = av.toArray → Cx x y.cls cc nL ret h g z0 → GG x g z0 nL 0 0 (MQ x.2.2.2.2.2.2.2.1 Qc x.2.2.2.2.2.2.1 x.2.2.2.2.1 0 0 (fun q => z0 ≤ q)) σ 0 (lv_args 0 av) []) :
    Met l y [.code y cc nL ret] (rmH h) (va_Pc av (WU g z0 σ)) Qc 0 0 (fun q => z0 ≤ q) := by
  refine Met.ofW (cc := cc) (maxL := nL) (ret := ret) hy rfl ?_
  intro p e s m args below meth c s₁ B hml hv
  obtain ⟨rfl, hP, hK, hz, hX⟩ := hv
  have hown : s.vm.findClass y.cls = some m.cls := findClass_of_methodNamed B.named
  have hl := lv_entry av (n := nL) hn
  rw [lg_entry_eq]
  exact body (p, l, e, rmH h, s, m, av.toArray, below, meth, c) rfl rfl ⟨B.exec, B.bytes, hml, hown, B.notSynchronized, B.returns, ⟨Nat.le_refl _, Nat.le_refl _⟩, hK, hz, hX⟩ s.heap [] _ hP va_S.rf hl
theorem CTi.of {post : Int32 → St → Prop} (hy : plainName y.cls = true) (hn : (lg_sl av).length ≤ nL) (body : ∀ x : Ctx, x.2.1 = l → x.2.2.2.2.2.2.1 = av.toArray → Cx x y.cls cc nL ret h g z0 → GG x g z0 nL 0 0 (Qi x g z0 post) σ 0 (lv_args 0 av) []) : CTi l y cc nL ret h g z0 av σ post := start_W hy hn body
theorem CTv.of {post : St → Prop} (hy : plainName y.cls = true) (hn : (lg_sl av).length ≤ nL) (body : ∀ x : Ctx, x.2.1 = l → x.2.2.2.2.2.2.1 = av.toArray → Cx x y.cls cc nL none h g z0 → GG x g z0 nL 0 0 (Qv x g z0 post) σ 0 (lv_args 0 av) []) : CTv l y cc nL h g z0 av σ post := start_W hy hn body
theorem CTe.of {post : Option Nat → St → Prop} (hy : plainName y.cls = true) (hn : (lg_sl av).length ≤ nL) (body : ∀ x : Ctx, x.2.1 = l → x.2.2.2.2.2.2.1 = av.toArray → Cx x y.cls cc nL ret h g z0 → GG x g z0 nL 0 0 (Qe x g z0 post) σ 0 (lv_args 0 av) []) : CTe l y cc nL ret h g z0 av σ post := start_W hy hn body
end START
section ROWS
variable {x : Ctx} {g : Lay} {z0 nL n1 n2 h : Nat} {Q : State → Prop} {σ : St} {pc : Nat} {lv lv' : List (Nat × Value)} {st : List Value} {own : String} {cc : ByteArray} {ret : Option FieldType}
theorem gg_lv (k : GG x g z0 nL n1 n2 Q σ pc lv' st) (ks : List Nat) (hl : lv_pick lv ks = lv') : GG x g z0 nL n1 n2 Q σ pc lv st := fun H locs ls hP hS h => k H locs ls hP hS (lv_sub h ks hl)
theorem gg_topi {a b : Int32} (e : a = b) (k : GG x g z0 nL n1 n2 Q σ pc lv (.int b :: st)) : GG x g z0 nL n1 n2 Q σ pc lv (.int a :: st) := e ▸ k
theorem gg_topl {a b : Int64} (e : a = b) (k : GG x g z0 nL n1 n2 Q σ pc lv (.long b :: st)) : GG x g z0 nL n1 n2 Q σ pc lv (.long a :: st) := e ▸ k
theorem gg_st {σ' : St} (e : σ = σ') (k : GG x g z0 nL n1 n2 Q σ' pc lv st) : GG x g z0 nL n1 n2 Q σ pc lv st := e ▸ k
theorem gg_nmi {a : Int32} (k : ∀ b : Int32, b = a → GG x g z0 nL n1 n2 Q σ pc lv (.int b :: st)) : GG x g z0 nL n1 n2 Q σ pc lv (.int a :: st) := k a rfl
theorem gg_nml {a : Int64} (k : ∀ b : Int64, b = a → GG x g z0 nL n1 n2 Q σ pc lv (.long b :: st)) : GG x g z0 nL n1 n2 Q σ pc lv (.long a :: st) := k a rfl
theorem wWIn {w : Cond} (hC : Cx x own cc nL ret h g z0) (hw : WIn w) : w.before x.2.2.2.2.2.2.1 x.2.2.2.2.1 = true := hC.2.2.2.2.2.2.2.1.2.2.2.1 w hw.1 hw.2 _
theorem g_iconst {pc' : Nat} {n : Int} {v : Int32} (hC : Cx x own cc nL ret h g z0) (hd : decode cc pc = .ok (.iconst n, 1)) (hp : pc + 1 = pc') (hv : Int32.ofInt n = v) (k : GG x g z0 nL n1 n2 Q σ pc' lv (.int v :: st)) : GG x g z0 nL n1 n2 Q σ pc lv (st) := fun H locs ls hP hS hl => lv_iconst hC.1 hC.2.1 hd hv (hp ▸ k H locs ls hP hS hl)
theorem g_bipush {pc' : Nat} {n : Int} {v : Int32} (hC : Cx x own cc nL ret h g z0) (hd : decode cc pc = .ok (.bipush n, 2)) (hp : pc + 2 = pc') (hv : (Int8.ofInt n).toInt32 = v) (k : GG x g z0 nL n1 n2 Q σ pc' lv (.int v :: st)) : GG x g z0 nL n1 n2 Q σ pc lv (st) := fun H locs ls hP hS hl => lv_bipush hC.1 hC.2.1 hd hv (hp ▸ k H locs ls hP hS hl)
theorem g_sipush {pc' : Nat} {n : Int} {v : Int32} (hC : Cx x own cc nL ret h g z0) (hd : decode cc pc = .ok (.sipush n, 3)) (hp : pc + 3 = pc') (hv : (Int16.ofInt n).toInt32 = v) (k : GG x g z0 nL n1 n2 Q σ pc' lv (.int v :: st)) : GG x g z0 nL n1 n2 Q σ pc lv (st) := fun H locs ls hP hS hl => lv_sipush hC.1 hC.2.1 hd hv (hp ▸ k H locs ls hP hS hl)
theorem g_lconst {pc' : Nat} {n : Fin 2} {v : Int64} (hC : Cx x own cc nL ret h g z0) (hd : decode cc pc = .ok (.lconst n, 1)) (hp : pc + 1 = pc') (hv : Int64.ofNat (n : Nat) = v) (k : GG x g z0 nL n1 n2 Q σ pc' lv (.long v :: st)) : GG x g z0 nL n1 n2 Q σ pc lv (st) := fun H locs ls hP hS hl => lv_lconst hC.1 hC.2.1 hd hv (hp ▸ k H locs ls hP hS hl)
theorem g_iload_n {pc' : Nat} {k : Fin 4} {i j : Nat} {v : Int32} (hC : Cx x own cc nL ret h g z0) (hd : decode cc pc = .ok (.iload_n k, 1)) (hp : pc + 1 = pc') (hi : (k : Nat) = i) (hj : lv[j]? = some (i, .int v)) (k : GG x g z0 nL n1 n2 Q σ pc' lv (.int v :: st)) : GG x g z0 nL n1 n2 Q σ pc lv st := fun H locs ls hP hS hl => lv_iload_n hC.1 hC.2.1 hd hi (lv_at hl j hj) (hp ▸ k H locs ls hP hS hl)
theorem g_iload {pc' : Nat} {i j : Nat} {v : Int32} (hC : Cx x own cc nL ret h g z0) (hd : decode cc pc = .ok (.iload i, 2)) (hp : pc + 2 = pc') (hj : lv[j]? = some (i, .int v)) (k : GG x g z0 nL n1 n2 Q σ pc' lv (.int v :: st)) : GG x g z0 nL n1 n2 Q σ pc lv st := fun H locs ls hP hS hl => lv_iload hC.1 hC.2.1 hd (lv_at hl j hj) (hp ▸ k H locs ls hP hS hl)
theorem g_istore_n {pc' : Nat} {k : Fin 4} {i : Nat} {v : Int32} (hC : Cx x own cc nL ret h g z0) (hd : decode cc pc = .ok (.istore_n k, 1)) (hp : pc + 1 = pc') (hi : (k : Nat) = i) (hn : i < nL) (hl : (i, Value.int v) :: lv.filter (fun q => !(q.1 == i) && !(q.1 + 1 == i && q.2.category == 2)) = lv') (k : GG x g z0 nL n1 n2 Q σ pc' lv' st) : GG x g z0 nL n1 n2 Q σ pc lv (.int v :: st) := fun H locs ls hP hS hl0 => lv_istore_n hC.1 hC.2.1 hd hi hl0 hn hl (fun ls' hl' => hp ▸ k H locs ls' hP hS hl')
theorem g_istore {pc' : Nat} {i : Nat} {v : Int32} (hC : Cx x own cc nL ret h g z0) (hd : decode cc pc = .ok (.istore i, 2)) (hp : pc + 2 = pc') (hn : i < nL) (hl : (i, Value.int v) :: lv.filter (fun q => !(q.1 == i) && !(q.1 + 1 == i && q.2.category == 2)) = lv') (k : GG x g z0 nL n1 n2 Q σ pc' lv' st) : GG x g z0 nL n1 n2 Q σ pc lv (.int v :: st) := fun H locs ls hP hS hl0 => lv_istore hC.1 hC.2.1 hd hl0 hn hl (fun ls' hl' => hp ▸ k H locs ls' hP hS hl')
theorem g_lload_n {pc' : Nat} {k : Fin 4} {i j : Nat} {v : Int64} (hC : Cx x own cc nL ret h g z0) (hd : decode cc pc = .ok (.lload_n k, 1)) (hp : pc + 1 = pc') (hi : (k : Nat) = i) (hj : lv[j]? = some (i, .long v)) (k : GG x g z0 nL n1 n2 Q σ pc' lv (.long v :: st)) : GG x g z0 nL n1 n2 Q σ pc lv st := fun H locs ls hP hS hl => lv_lload_n hC.1 hC.2.1 hd hi (lv_at hl j hj) (hp ▸ k H locs ls hP hS hl)
theorem g_lload {pc' : Nat} {i j : Nat} {v : Int64} (hC : Cx x own cc nL ret h g z0) (hd : decode cc pc = .ok (.lload i, 2)) (hp : pc + 2 = pc') (hj : lv[j]? = some (i, .long v)) (k : GG x g z0 nL n1 n2 Q σ pc' lv (.long v :: st)) : GG x g z0 nL n1 n2 Q σ pc lv st := fun H locs ls hP hS hl => lv_lload hC.1 hC.2.1 hd (lv_at hl j hj) (hp ▸ k H locs ls hP hS hl)
theorem g_lstore_n {pc' : Nat} {k : Fin 4} {i : Nat} {v : Int64} (hC : Cx x own cc nL ret h g z0) (hd : decode cc pc = .ok (.lstore_n k, 1)) (hp : pc + 1 = pc') (hi : (k : Nat) = i) (hn : i + 1 < nL) (hl : (i, Value.long v) :: lv.filter (fun q => !(q.1 == i) && (!(q.1 == i + 1) && !(q.1 + 1 == i && q.2.category == 2))) = lv') (k : GG x g z0 nL n1 n2 Q σ pc' lv' st) : GG x g z0 nL n1 n2 Q σ pc lv (.long v :: st) := fun H locs ls hP hS hl0 => lv_lstore_n hC.1 hC.2.1 hd hi hl0 hn hl (fun ls' hl' => hp ▸ k H locs ls' hP hS hl')
theorem g_lstore {pc' : Nat} {i : Nat} {v : Int64} (hC : Cx x own cc nL ret h g z0) (hd : decode cc pc = .ok (.lstore i, 2)) (hp : pc + 2 = pc') (hn : i + 1 < nL) (hl : (i, Value.long v) :: lv.filter (fun q => !(q.1 == i) && (!(q.1 == i + 1) && !(q.1 + 1 == i && q.2.category == 2))) = lv') (k : GG x g z0 nL n1 n2 Q σ pc' lv' st) : GG x g z0 nL n1 n2 Q σ pc lv (.long v :: st) := fun H locs ls hP hS hl0 => lv_lstore hC.1 hC.2.1 hd hl0 hn hl (fun ls' hl' => hp ▸ k H locs ls' hP hS hl')
theorem g_aload_n {pc' : Nat} {k : Fin 4} {i j : Nat} {v : Nat} (hC : Cx x own cc nL ret h g z0) (hd : decode cc pc = .ok (.aload_n k, 1)) (hp : pc + 1 = pc') (hi : (k : Nat) = i) (hj : lv[j]? = some (i, .ref v)) (k : GG x g z0 nL n1 n2 Q σ pc' lv (.ref v :: st)) : GG x g z0 nL n1 n2 Q σ pc lv st := fun H locs ls hP hS hl => lv_aload_n hC.1 hC.2.1 hd hi (lv_at hl j hj) (hp ▸ k H locs ls hP hS hl)
theorem g_aload {pc' : Nat} {i j : Nat} {v : Nat} (hC : Cx x own cc nL ret h g z0) (hd : decode cc pc = .ok (.aload i, 2)) (hp : pc + 2 = pc') (hj : lv[j]? = some (i, .ref v)) (k : GG x g z0 nL n1 n2 Q σ pc' lv (.ref v :: st)) : GG x g z0 nL n1 n2 Q σ pc lv st := fun H locs ls hP hS hl => lv_aload hC.1 hC.2.1 hd (lv_at hl j hj) (hp ▸ k H locs ls hP hS hl)
theorem g_astore_n {pc' : Nat} {k : Fin 4} {i : Nat} {v : Nat} (hC : Cx x own cc nL ret h g z0) (hd : decode cc pc = .ok (.astore_n k, 1)) (hp : pc + 1 = pc') (hi : (k : Nat) = i) (hn : i < nL) (hl : (i, Value.ref v) :: lv.filter (fun q => !(q.1 == i) && !(q.1 + 1 == i && q.2.category == 2)) = lv') (k : GG x g z0 nL n1 n2 Q σ pc' lv' st) : GG x g z0 nL n1 n2 Q σ pc lv (.ref v :: st) := fun H locs ls hP hS hl0 => lv_astore_n hC.1 hC.2.1 hd hi hl0 hn hl (fun ls' hl' => hp ▸ k H locs ls' hP hS hl')
theorem g_astore {pc' : Nat} {i : Nat} {v : Nat} (hC : Cx x own cc nL ret h g z0) (hd : decode cc pc = .ok (.astore i, 2)) (hp : pc + 2 = pc') (hn : i < nL) (hl : (i, Value.ref v) :: lv.filter (fun q => !(q.1 == i) && !(q.1 + 1 == i && q.2.category == 2)) = lv') (k : GG x g z0 nL n1 n2 Q σ pc' lv' st) : GG x g z0 nL n1 n2 Q σ pc lv (.ref v :: st) := fun H locs ls hP hS hl0 => lv_astore hC.1 hC.2.1 hd hl0 hn hl (fun ls' hl' => hp ▸ k H locs ls' hP hS hl')
theorem g_iinc {pc' : Nat} {i j : Nat} {n : Int} {v u : Int32} (hC : Cx x own cc nL ret h g z0) (hd : decode cc pc = .ok (.iinc i n, 3)) (hp : pc + 3 = pc') (hj : lv[j]? = some (i, .int v)) (hv : v + Int32.ofInt n = u) (hn : i < nL) (hl : (i, Value.int u) :: lv.filter (fun q => !(q.1 == i) && !(q.1 + 1 == i && q.2.category == 2)) = lv') (k : GG x g z0 nL n1 n2 Q σ pc' lv' st) : GG x g z0 nL n1 n2 Q σ pc lv st := fun H locs ls hP hS hl0 => lv_iinc hC.1 hC.2.1 hd hl0 hj hv hn hl (fun ls' hl' => hp ▸ k H locs ls' hP hS hl')
theorem g_iadd {pc' : Nat} {a b : Int32} (hC : Cx x own cc nL ret h g z0) (hd : decode cc pc = .ok (.iadd, 1)) (hp : pc + 1 = pc')  (k : GG x g z0 nL n1 n2 Q σ pc' lv (.int (a + b) :: st)) : GG x g z0 nL n1 n2 Q σ pc lv (.int b :: .int a :: st) := fun H locs ls hP hS hl => lv_iadd hC.1 hC.2.1 hd  (hp ▸ k H locs ls hP hS hl)
theorem g_isub {pc' : Nat} {a b : Int32} (hC : Cx x own cc nL ret h g z0) (hd : decode cc pc = .ok (.isub, 1)) (hp : pc + 1 = pc')  (k : GG x g z0 nL n1 n2 Q σ pc' lv (.int (a - b) :: st)) : GG x g z0 nL n1 n2 Q σ pc lv (.int b :: .int a :: st) := fun H locs ls hP hS hl => lv_isub hC.1 hC.2.1 hd  (hp ▸ k H locs ls hP hS hl)
theorem g_imul {pc' : Nat} {a b : Int32} (hC : Cx x own cc nL ret h g z0) (hd : decode cc pc = .ok (.imul, 1)) (hp : pc + 1 = pc')  (k : GG x g z0 nL n1 n2 Q σ pc' lv (.int (a * b) :: st)) : GG x g z0 nL n1 n2 Q σ pc lv (.int b :: .int a :: st) := fun H locs ls hP hS hl => lv_imul hC.1 hC.2.1 hd  (hp ▸ k H locs ls hP hS hl)
theorem g_iand {pc' : Nat} {a b : Int32} (hC : Cx x own cc nL ret h g z0) (hd : decode cc pc = .ok (.iand, 1)) (hp : pc + 1 = pc')  (k : GG x g z0 nL n1 n2 Q σ pc' lv (.int (a &&& b) :: st)) : GG x g z0 nL n1 n2 Q σ pc lv (.int b :: .int a :: st) := fun H locs ls hP hS hl => lv_iand hC.1 hC.2.1 hd  (hp ▸ k H locs ls hP hS hl)
theorem g_ior {pc' : Nat} {a b : Int32} (hC : Cx x own cc nL ret h g z0) (hd : decode cc pc = .ok (.ior, 1)) (hp : pc + 1 = pc')  (k : GG x g z0 nL n1 n2 Q σ pc' lv (.int (a ||| b) :: st)) : GG x g z0 nL n1 n2 Q σ pc lv (.int b :: .int a :: st) := fun H locs ls hP hS hl => lv_ior hC.1 hC.2.1 hd  (hp ▸ k H locs ls hP hS hl)
theorem g_ixor {pc' : Nat} {a b : Int32} (hC : Cx x own cc nL ret h g z0) (hd : decode cc pc = .ok (.ixor, 1)) (hp : pc + 1 = pc')  (k : GG x g z0 nL n1 n2 Q σ pc' lv (.int (a ^^^ b) :: st)) : GG x g z0 nL n1 n2 Q σ pc lv (.int b :: .int a :: st) := fun H locs ls hP hS hl => lv_ixor hC.1 hC.2.1 hd  (hp ▸ k H locs ls hP hS hl)
theorem g_irem {pc' : Nat} {a b : Int32} (hC : Cx x own cc nL ret h g z0) (hd : decode cc pc = .ok (.irem, 1)) (hp : pc + 1 = pc') (hne : ¬ b = 0) (k : GG x g z0 nL n1 n2 Q σ pc' lv (.int (a - a / b * b) :: st)) : GG x g z0 nL n1 n2 Q σ pc lv (.int b :: .int a :: st) := fun H locs ls hP hS hl => lv_irem hC.1 hC.2.1 hd hne (hp ▸ k H locs ls hP hS hl)
theorem g_idiv {pc' : Nat} {a b : Int32} (hC : Cx x own cc nL ret h g z0) (hd : decode cc pc = .ok (.idiv, 1)) (hp : pc + 1 = pc') (hne : ¬ b = 0) (k : GG x g z0 nL n1 n2 Q σ pc' lv (.int (a / b) :: st)) : GG x g z0 nL n1 n2 Q σ pc lv (.int b :: .int a :: st) := fun H locs ls hP hS hl => lv_idiv hC.1 hC.2.1 hd hne (hp ▸ k H locs ls hP hS hl)
theorem g_ladd {pc' : Nat} {a b : Int64} (hC : Cx x own cc nL ret h g z0) (hd : decode cc pc = .ok (.ladd, 1)) (hp : pc + 1 = pc')  (k : GG x g z0 nL n1 n2 Q σ pc' lv (.long (a + b) :: st)) : GG x g z0 nL n1 n2 Q σ pc lv (.long b :: .long a :: st) := fun H locs ls hP hS hl => lv_ladd hC.1 hC.2.1 hd  (hp ▸ k H locs ls hP hS hl)
theorem g_lsub {pc' : Nat} {a b : Int64} (hC : Cx x own cc nL ret h g z0) (hd : decode cc pc = .ok (.lsub, 1)) (hp : pc + 1 = pc')  (k : GG x g z0 nL n1 n2 Q σ pc' lv (.long (a - b) :: st)) : GG x g z0 nL n1 n2 Q σ pc lv (.long b :: .long a :: st) := fun H locs ls hP hS hl => lv_lsub hC.1 hC.2.1 hd  (hp ▸ k H locs ls hP hS hl)
theorem g_lmul {pc' : Nat} {a b : Int64} (hC : Cx x own cc nL ret h g z0) (hd : decode cc pc = .ok (.lmul, 1)) (hp : pc + 1 = pc')  (k : GG x g z0 nL n1 n2 Q σ pc' lv (.long (a * b) :: st)) : GG x g z0 nL n1 n2 Q σ pc lv (.long b :: .long a :: st) := fun H locs ls hP hS hl => lv_lmul hC.1 hC.2.1 hd  (hp ▸ k H locs ls hP hS hl)
theorem g_lrem {pc' : Nat} {a b : Int64} (hC : Cx x own cc nL ret h g z0) (hd : decode cc pc = .ok (.lrem, 1)) (hp : pc + 1 = pc') (hne : ¬ b = 0) (k : GG x g z0 nL n1 n2 Q σ pc' lv (.long (a - a / b * b) :: st)) : GG x g z0 nL n1 n2 Q σ pc lv (.long b :: .long a :: st) := fun H locs ls hP hS hl => lv_lrem hC.1 hC.2.1 hd hne (hp ▸ k H locs ls hP hS hl)
theorem g_ishl {pc' : Nat} {a b : Int32} (hC : Cx x own cc nL ret h g z0) (hd : decode cc pc = .ok (.ishl, 1)) (hp : pc + 1 = pc')  (k : GG x g z0 nL n1 n2 Q σ pc' lv (.int (a <<< (b &&& 31)) :: st)) : GG x g z0 nL n1 n2 Q σ pc lv (.int b :: .int a :: st) := fun H locs ls hP hS hl => lv_ishl hC.1 hC.2.1 hd  (hp ▸ k H locs ls hP hS hl)
theorem g_ishr {pc' : Nat} {a b : Int32} (hC : Cx x own cc nL ret h g z0) (hd : decode cc pc = .ok (.ishr, 1)) (hp : pc + 1 = pc')  (k : GG x g z0 nL n1 n2 Q σ pc' lv (.int (a >>> (b &&& 31)) :: st)) : GG x g z0 nL n1 n2 Q σ pc lv (.int b :: .int a :: st) := fun H locs ls hP hS hl => lv_ishr hC.1 hC.2.1 hd  (hp ▸ k H locs ls hP hS hl)
theorem g_iushr {pc' : Nat} {a b : Int32} (hC : Cx x own cc nL ret h g z0) (hd : decode cc pc = .ok (.iushr, 1)) (hp : pc + 1 = pc')  (k : GG x g z0 nL n1 n2 Q σ pc' lv (.int (a.toUInt32 >>> (b.toUInt32 &&& Int32.toUInt32 31)).toInt32 :: st)) : GG x g z0 nL n1 n2 Q σ pc lv (.int b :: .int a :: st) := fun H locs ls hP hS hl => lv_iushr hC.1 hC.2.1 hd rfl (hp ▸ k H locs ls hP hS hl)
theorem g_i2l {pc' : Nat} {a : Int32} (hC : Cx x own cc nL ret h g z0) (hd : decode cc pc = .ok (.i2l, 1)) (hp : pc + 1 = pc')  (k : GG x g z0 nL n1 n2 Q σ pc' lv (.long a.toInt64 :: st)) : GG x g z0 nL n1 n2 Q σ pc lv (.int a :: st) := fun H locs ls hP hS hl => lv_i2l hC.1 hC.2.1 hd rfl (hp ▸ k H locs ls hP hS hl)
theorem g_l2i {pc' : Nat} {a : Int64} (hC : Cx x own cc nL ret h g z0) (hd : decode cc pc = .ok (.l2i, 1)) (hp : pc + 1 = pc')  (k : GG x g z0 nL n1 n2 Q σ pc' lv (.int a.toInt32 :: st)) : GG x g z0 nL n1 n2 Q σ pc lv (.long a :: st) := fun H locs ls hP hS hl => lv_l2i hC.1 hC.2.1 hd rfl (hp ▸ k H locs ls hP hS hl)
theorem g_i2b {pc' : Nat} {a : Int32} (hC : Cx x own cc nL ret h g z0) (hd : decode cc pc = .ok (.i2b, 1)) (hp : pc + 1 = pc')  (k : GG x g z0 nL n1 n2 Q σ pc' lv (.int a.toInt8.toInt32 :: st)) : GG x g z0 nL n1 n2 Q σ pc lv (.int a :: st) := fun H locs ls hP hS hl => lv_i2b hC.1 hC.2.1 hd rfl (hp ▸ k H locs ls hP hS hl)
theorem g_dup {pc' : Nat} {va : Value} (hC : Cx x own cc nL ret h g z0) (hd : decode cc pc = .ok (.dup, 1)) (hp : pc + 1 = pc') (hva : va.category = 1) (k : GG x g z0 nL n1 n2 Q σ pc' lv (va :: va :: st)) : GG x g z0 nL n1 n2 Q σ pc lv (va :: st) := fun H locs ls hP hS hl => lv_dup hC.1 hC.2.1 hd hva (hp ▸ k H locs ls hP hS hl)
theorem g_pop {pc' : Nat} {va : Value} (hC : Cx x own cc nL ret h g z0) (hd : decode cc pc = .ok (.pop, 1)) (hp : pc + 1 = pc') (hva : va.category = 1) (k : GG x g z0 nL n1 n2 Q σ pc' lv (st)) : GG x g z0 nL n1 n2 Q σ pc lv (va :: st) := fun H locs ls hP hS hl => lv_pop hC.1 hC.2.1 hd hva (hp ▸ k H locs ls hP hS hl)
theorem n_iadd {pc' : Nat} {a b : Nat} (hC : Cx x own cc nL ret h g z0) (hd : decode cc pc = .ok (.iadd, 1)) (hp : pc + 1 = pc')  (k : GG x g z0 nL n1 n2 Q σ pc' lv (.int (nI (a + b)) :: st)) : GG x g z0 nL n1 n2 Q σ pc lv (.int (nI b) :: .int (nI a) :: st) := g_iadd hC hd hp (gg_topi (nI_add a b) k)
theorem n_isub {pc' : Nat} {a b : Nat} (hC : Cx x own cc nL ret h g z0) (hd : decode cc pc = .ok (.isub, 1)) (hp : pc + 1 = pc') (hb : b ≤ a) (k : GG x g z0 nL n1 n2 Q σ pc' lv (.int (nI (a - b)) :: st)) : GG x g z0 nL n1 n2 Q σ pc lv (.int (nI b) :: .int (nI a) :: st) := g_isub hC hd hp (gg_topi (pk_sub hb) k)
theorem n_imul {pc' : Nat} {a b : Nat} (hC : Cx x own cc nL ret h g z0) (hd : decode cc pc = .ok (.imul, 1)) (hp : pc + 1 = pc')  (k : GG x g z0 nL n1 n2 Q σ pc' lv (.int (nI (a * b)) :: st)) : GG x g z0 nL n1 n2 Q σ pc lv (.int (nI b) :: .int (nI a) :: st) := g_imul hC hd hp (gg_topi (pk_mul a b) k)
theorem g_icmp_eq {pc' tgt : Nat} {off : Int} {a b : Int32} (hC : Cx x own cc nL ret h g z0) (hd : decode cc pc = .ok (.if_icmp .eq off, 3)) (ht : (pc : Int) + off = (tgt : Int)) (hp : pc + 3 = pc') (kt : a = b → GG x g z0 nL n1 n2 Q σ tgt lv st) (kf : ¬ a = b → GG x g z0 nL n1 n2 Q σ pc' lv st) : GG x g z0 nL n1 n2 Q σ pc lv (.int b :: .int a :: st) := fun H locs ls hP hS hl => lv_icmp_eq hC.1 hC.2.1 hd ht (fun q => kt q H locs ls hP hS hl) (fun q => hp ▸ kf q H locs ls hP hS hl)
theorem g_if_eq {pc' tgt : Nat} {off : Int} {a : Int32} (hC : Cx x own cc nL ret h g z0) (hd : decode cc pc = .ok (.ifCond .eq off, 3)) (ht : (pc : Int) + off = (tgt : Int)) (hp : pc + 3 = pc') (kt : a = 0 → GG x g z0 nL n1 n2 Q σ tgt lv st) (kf : ¬ a = 0 → GG x g z0 nL n1 n2 Q σ pc' lv st) : GG x g z0 nL n1 n2 Q σ pc lv (.int a :: st) := fun H locs ls hP hS hl => lv_if_eq hC.1 hC.2.1 hd ht (fun q => kt q H locs ls hP hS hl) (fun q => hp ▸ kf q H locs ls hP hS hl)
theorem g_icmp_ne {pc' tgt : Nat} {off : Int} {a b : Int32} (hC : Cx x own cc nL ret h g z0) (hd : decode cc pc = .ok (.if_icmp .ne off, 3)) (ht : (pc : Int) + off = (tgt : Int)) (hp : pc + 3 = pc') (kt : ¬ a = b → GG x g z0 nL n1 n2 Q σ tgt lv st) (kf : a = b → GG x g z0 nL n1 n2 Q σ pc' lv st) : GG x g z0 nL n1 n2 Q σ pc lv (.int b :: .int a :: st) := fun H locs ls hP hS hl => lv_icmp_ne hC.1 hC.2.1 hd ht (fun q => kt q H locs ls hP hS hl) (fun q => hp ▸ kf q H locs ls hP hS hl)
theorem g_if_ne {pc' tgt : Nat} {off : Int} {a : Int32} (hC : Cx x own cc nL ret h g z0) (hd : decode cc pc = .ok (.ifCond .ne off, 3)) (ht : (pc : Int) + off = (tgt : Int)) (hp : pc + 3 = pc') (kt : ¬ a = 0 → GG x g z0 nL n1 n2 Q σ tgt lv st) (kf : a = 0 → GG x g z0 nL n1 n2 Q σ pc' lv st) : GG x g z0 nL n1 n2 Q σ pc lv (.int a :: st) := fun H locs ls hP hS hl => lv_if_ne hC.1 hC.2.1 hd ht (fun q => kt q H locs ls hP hS hl) (fun q => hp ▸ kf q H locs ls hP hS hl)
theorem g_icmp_lt {pc' tgt : Nat} {off : Int} {a b : Int32} (hC : Cx x own cc nL ret h g z0) (hd : decode cc pc = .ok (.if_icmp .lt off, 3)) (ht : (pc : Int) + off = (tgt : Int)) (hp : pc + 3 = pc') (kt : a < b → GG x g z0 nL n1 n2 Q σ tgt lv st) (kf : ¬ a < b → GG x g z0 nL n1 n2 Q σ pc' lv st) : GG x g z0 nL n1 n2 Q σ pc lv (.int b :: .int a :: st) := fun H locs ls hP hS hl => lv_icmp_lt hC.1 hC.2.1 hd ht (fun q => kt q H locs ls hP hS hl) (fun q => hp ▸ kf q H locs ls hP hS hl)
theorem g_if_lt {pc' tgt : Nat} {off : Int} {a : Int32} (hC : Cx x own cc nL ret h g z0) (hd : decode cc pc = .ok (.ifCond .lt off, 3)) (ht : (pc : Int) + off = (tgt : Int)) (hp : pc + 3 = pc') (kt : a < 0 → GG x g z0 nL n1 n2 Q σ tgt lv st) (kf : ¬ a < 0 → GG x g z0 nL n1 n2 Q σ pc' lv st) : GG x g z0 nL n1 n2 Q σ pc lv (.int a :: st) := fun H locs ls hP hS hl => lv_if_lt hC.1 hC.2.1 hd ht (fun q => kt q H locs ls hP hS hl) (fun q => hp ▸ kf q H locs ls hP hS hl)
theorem g_icmp_ge {pc' tgt : Nat} {off : Int} {a b : Int32} (hC : Cx x own cc nL ret h g z0) (hd : decode cc pc = .ok (.if_icmp .ge off, 3)) (ht : (pc : Int) + off = (tgt : Int)) (hp : pc + 3 = pc') (kt : b ≤ a → GG x g z0 nL n1 n2 Q σ tgt lv st) (kf : ¬ b ≤ a → GG x g z0 nL n1 n2 Q σ pc' lv st) : GG x g z0 nL n1 n2 Q σ pc lv (.int b :: .int a :: st) := fun H locs ls hP hS hl => lv_icmp_ge hC.1 hC.2.1 hd ht (fun q => kt q H locs ls hP hS hl) (fun q => hp ▸ kf q H locs ls hP hS hl)
theorem g_if_ge {pc' tgt : Nat} {off : Int} {a : Int32} (hC : Cx x own cc nL ret h g z0) (hd : decode cc pc = .ok (.ifCond .ge off, 3)) (ht : (pc : Int) + off = (tgt : Int)) (hp : pc + 3 = pc') (kt : 0 ≤ a → GG x g z0 nL n1 n2 Q σ tgt lv st) (kf : ¬ 0 ≤ a → GG x g z0 nL n1 n2 Q σ pc' lv st) : GG x g z0 nL n1 n2 Q σ pc lv (.int a :: st) := fun H locs ls hP hS hl => lv_if_ge hC.1 hC.2.1 hd ht (fun q => kt q H locs ls hP hS hl) (fun q => hp ▸ kf q H locs ls hP hS hl)
theorem g_icmp_gt {pc' tgt : Nat} {off : Int} {a b : Int32} (hC : Cx x own cc nL ret h g z0) (hd : decode cc pc = .ok (.if_icmp .gt off, 3)) (ht : (pc : Int) + off = (tgt : Int)) (hp : pc + 3 = pc') (kt : b < a → GG x g z0 nL n1 n2 Q σ tgt lv st) (kf : ¬ b < a → GG x g z0 nL n1 n2 Q σ pc' lv st) : GG x g z0 nL n1 n2 Q σ pc lv (.int b :: .int a :: st) := fun H locs ls hP hS hl => lv_icmp_gt hC.1 hC.2.1 hd ht (fun q => kt q H locs ls hP hS hl) (fun q => hp ▸ kf q H locs ls hP hS hl)
theorem g_if_gt {pc' tgt : Nat} {off : Int} {a : Int32} (hC : Cx x own cc nL ret h g z0) (hd : decode cc pc = .ok (.ifCond .gt off, 3)) (ht : (pc : Int) + off = (tgt : Int)) (hp : pc + 3 = pc') (kt : 0 < a → GG x g z0 nL n1 n2 Q σ tgt lv st) (kf : ¬ 0 < a → GG x g z0 nL n1 n2 Q σ pc' lv st) : GG x g z0 nL n1 n2 Q σ pc lv (.int a :: st) := fun H locs ls hP hS hl => lv_if_gt hC.1 hC.2.1 hd ht (fun q => kt q H locs ls hP hS hl) (fun q => hp ▸ kf q H locs ls hP hS hl)
theorem g_icmp_le {pc' tgt : Nat} {off : Int} {a b : Int32} (hC : Cx x own cc nL ret h g z0) (hd : decode cc pc = .ok (.if_icmp .le off, 3)) (ht : (pc : Int) + off = (tgt : Int)) (hp : pc + 3 = pc') (kt : a ≤ b → GG x g z0 nL n1 n2 Q σ tgt lv st) (kf : ¬ a ≤ b → GG x g z0 nL n1 n2 Q σ pc' lv st) : GG x g z0 nL n1 n2 Q σ pc lv (.int b :: .int a :: st) := fun H locs ls hP hS hl => lv_icmp_le hC.1 hC.2.1 hd ht (fun q => kt q H locs ls hP hS hl) (fun q => hp ▸ kf q H locs ls hP hS hl)
theorem g_if_le {pc' tgt : Nat} {off : Int} {a : Int32} (hC : Cx x own cc nL ret h g z0) (hd : decode cc pc = .ok (.ifCond .le off, 3)) (ht : (pc : Int) + off = (tgt : Int)) (hp : pc + 3 = pc') (kt : a ≤ 0 → GG x g z0 nL n1 n2 Q σ tgt lv st) (kf : ¬ a ≤ 0 → GG x g z0 nL n1 n2 Q σ pc' lv st) : GG x g z0 nL n1 n2 Q σ pc lv (.int a :: st) := fun H locs ls hP hS hl => lv_if_le hC.1 hC.2.1 hd ht (fun q => kt q H locs ls hP hS hl) (fun q => hp ▸ kf q H locs ls hP hS hl)
theorem n_icmp_eq {pc' tgt : Nat} {off : Int} {a b : Nat} (hC : Cx x own cc nL ret h g z0) (hd : decode cc pc = .ok (.if_icmp .eq off, 3)) (ht : (pc : Int) + off = (tgt : Int)) (hp : pc + 3 = pc') (ha : a < 2 ^ 31) (hb : b < 2 ^ 31) (kt : a = b → GG x g z0 nL n1 n2 Q σ tgt lv st) (kf : a ≠ b → GG x g z0 nL n1 n2 Q σ pc' lv st) : GG x g z0 nL n1 n2 Q σ pc lv (.int (nI b) :: .int (nI a) :: st) := g_icmp_eq hC hd ht hp (fun q => kt ((nI_eq ha hb).mp q)) (fun q => kf ( (fun e => q ((nI_eq ha hb).mpr e))))
theorem n_icmp_ne {pc' tgt : Nat} {off : Int} {a b : Nat} (hC : Cx x own cc nL ret h g z0) (hd : decode cc pc = .ok (.if_icmp .ne off, 3)) (ht : (pc : Int) + off = (tgt : Int)) (hp : pc + 3 = pc') (ha : a < 2 ^ 31) (hb : b < 2 ^ 31) (kt : a ≠ b → GG x g z0 nL n1 n2 Q σ tgt lv st) (kf : a = b → GG x g z0 nL n1 n2 Q σ pc' lv st) : GG x g z0 nL n1 n2 Q σ pc lv (.int (nI b) :: .int (nI a) :: st) := g_icmp_ne hC hd ht hp (fun q => kt (fun e => q (congrArg nI e))) (fun q => kf ((nI_eq ha hb).mp q))
theorem n_icmp_lt {pc' tgt : Nat} {off : Int} {a b : Nat} (hC : Cx x own cc nL ret h g z0) (hd : decode cc pc = .ok (.if_icmp .lt off, 3)) (ht : (pc : Int) + off = (tgt : Int)) (hp : pc + 3 = pc') (ha : a < 2 ^ 31) (hb : b < 2 ^ 31) (kt : a < b → GG x g z0 nL n1 n2 Q σ tgt lv st) (kf : b ≤ a → GG x g z0 nL n1 n2 Q σ pc' lv st) : GG x g z0 nL n1 n2 Q σ pc lv (.int (nI b) :: .int (nI a) :: st) := g_icmp_lt hC hd ht hp (fun q => kt ((nI_ltI ha hb).mp q)) (fun q => kf (Nat.not_lt.mp (fun e => q ((nI_ltI ha hb).mpr e))))
theorem n_icmp_ge {pc' tgt : Nat} {off : Int} {a b : Nat} (hC : Cx x own cc nL ret h g z0) (hd : decode cc pc = .ok (.if_icmp .ge off, 3)) (ht : (pc : Int) + off = (tgt : Int)) (hp : pc + 3 = pc') (ha : a < 2 ^ 31) (hb : b < 2 ^ 31) (kt : b ≤ a → GG x g z0 nL n1 n2 Q σ tgt lv st) (kf : a < b → GG x g z0 nL n1 n2 Q σ pc' lv st) : GG x g z0 nL n1 n2 Q σ pc lv (.int (nI b) :: .int (nI a) :: st) := g_icmp_ge hC hd ht hp (fun q => kt ((nI_leI hb ha).mp q)) (fun q => kf (Nat.not_le.mp (fun e => q ((nI_leI hb ha).mpr e))))
theorem n_icmp_gt {pc' tgt : Nat} {off : Int} {a b : Nat} (hC : Cx x own cc nL ret h g z0) (hd : decode cc pc = .ok (.if_icmp .gt off, 3)) (ht : (pc : Int) + off = (tgt : Int)) (hp : pc + 3 = pc') (ha : a < 2 ^ 31) (hb : b < 2 ^ 31) (kt : b < a → GG x g z0 nL n1 n2 Q σ tgt lv st) (kf : a ≤ b → GG x g z0 nL n1 n2 Q σ pc' lv st) : GG x g z0 nL n1 n2 Q σ pc lv (.int (nI b) :: .int (nI a) :: st) := g_icmp_gt hC hd ht hp (fun q => kt ((nI_ltI hb ha).mp q)) (fun q => kf (Nat.not_lt.mp (fun e => q ((nI_ltI hb ha).mpr e))))
theorem n_icmp_le {pc' tgt : Nat} {off : Int} {a b : Nat} (hC : Cx x own cc nL ret h g z0) (hd : decode cc pc = .ok (.if_icmp .le off, 3)) (ht : (pc : Int) + off = (tgt : Int)) (hp : pc + 3 = pc') (ha : a < 2 ^ 31) (hb : b < 2 ^ 31) (kt : a ≤ b → GG x g z0 nL n1 n2 Q σ tgt lv st) (kf : b < a → GG x g z0 nL n1 n2 Q σ pc' lv st) : GG x g z0 nL n1 n2 Q σ pc lv (.int (nI b) :: .int (nI a) :: st) := g_icmp_le hC hd ht hp (fun q => kt ((nI_leI ha hb).mp q)) (fun q => kf (Nat.not_le.mp (fun e => q ((nI_leI ha hb).mpr e))))
theorem nI_z {a : Nat} (ha : a < 2 ^ 31) : (nI a = 0 ↔ a = 0) ∧ (nI a < 0 ↔ False) ∧ (0 ≤ nI a ↔ True) ∧ (0 < nI a ↔ a ≠ 0) ∧ (nI a ≤ 0 ↔ a = 0) := by
  have e0 : (0 : Int32) = nI 0 := nI_0.symm
  have h0 : (0 : Nat) < 2 ^ 31 := by decide
  refine ⟨?_, ?_, ?_, ?_, ?_⟩
  · rw [e0, nI_eq ha h0]
  · rw [e0, nI_ltI ha h0]; exact ⟨fun e => absurd e (Nat.not_lt_zero _), False.elim⟩
  · rw [e0, nI_leI h0 ha]; exact ⟨fun _ => trivial, fun _ => Nat.zero_le _⟩
  · rw [e0, nI_ltI h0 ha]; omega
  · rw [e0, nI_leI ha h0]; omega
theorem n_if_eq {pc' tgt : Nat} {off : Int} {a : Nat} (hC : Cx x own cc nL ret h g z0) (hd : decode cc pc = .ok (.ifCond .eq off, 3)) (ht : (pc : Int) + off = (tgt : Int)) (hp : pc + 3 = pc') (ha : a < 2 ^ 31) (kt : a = 0 → GG x g z0 nL n1 n2 Q σ tgt lv st) (kf : a ≠ 0 → GG x g z0 nL n1 n2 Q σ pc' lv st) : GG x g z0 nL n1 n2 Q σ pc lv (.int (nI a) :: st) := g_if_eq hC hd ht hp (fun q => kt ((nI_z ha).1.mp q)) (fun q => kf (fun e => q ((nI_z ha).1.mpr e)))
theorem n_if_ne {pc' tgt : Nat} {off : Int} {a : Nat} (hC : Cx x own cc nL ret h g z0) (hd : decode cc pc = .ok (.ifCond .ne off, 3)) (ht : (pc : Int) + off = (tgt : Int)) (hp : pc + 3 = pc') (ha : a < 2 ^ 31) (kt : a ≠ 0 → GG x g z0 nL n1 n2 Q σ tgt lv st) (kf : a = 0 → GG x g z0 nL n1 n2 Q σ pc' lv st) : GG x g z0 nL n1 n2 Q σ pc lv (.int (nI a) :: st) := g_if_ne hC hd ht hp (fun q => kt (fun e => q ((nI_z ha).1.mpr e))) (fun q => kf ((nI_z ha).1.mp q))
theorem n_if_lt {pc' tgt : Nat} {off : Int} {a : Nat} (hC : Cx x own cc nL ret h g z0) (hd : decode cc pc = .ok (.ifCond .lt off, 3)) (ht : (pc : Int) + off = (tgt : Int)) (hp : pc + 3 = pc') (ha : a < 2 ^ 31) (kt : False → GG x g z0 nL n1 n2 Q σ tgt lv st) (kf : True → GG x g z0 nL n1 n2 Q σ pc' lv st) : GG x g z0 nL n1 n2 Q σ pc lv (.int (nI a) :: st) := g_if_lt hC hd ht hp (fun q => kt ((nI_z ha).2.1.mp q)) (fun q => kf (trivial))
theorem n_if_ge {pc' tgt : Nat} {off : Int} {a : Nat} (hC : Cx x own cc nL ret h g z0) (hd : decode cc pc = .ok (.ifCond .ge off, 3)) (ht : (pc : Int) + off = (tgt : Int)) (hp : pc + 3 = pc') (ha : a < 2 ^ 31) (kt : True → GG x g z0 nL n1 n2 Q σ tgt lv st) (kf : False → GG x g z0 nL n1 n2 Q σ pc' lv st) : GG x g z0 nL n1 n2 Q σ pc lv (.int (nI a) :: st) := g_if_ge hC hd ht hp (fun q => kt ((nI_z ha).2.2.1.mp q)) (fun q => kf (q ((nI_z ha).2.2.1.mpr trivial)))
theorem n_if_gt {pc' tgt : Nat} {off : Int} {a : Nat} (hC : Cx x own cc nL ret h g z0) (hd : decode cc pc = .ok (.ifCond .gt off, 3)) (ht : (pc : Int) + off = (tgt : Int)) (hp : pc + 3 = pc') (ha : a < 2 ^ 31) (kt : a ≠ 0 → GG x g z0 nL n1 n2 Q σ tgt lv st) (kf : a = 0 → GG x g z0 nL n1 n2 Q σ pc' lv st) : GG x g z0 nL n1 n2 Q σ pc lv (.int (nI a) :: st) := g_if_gt hC hd ht hp (fun q => kt ((nI_z ha).2.2.2.1.mp q)) (fun q => kf (Classical.byContradiction fun e => q ((nI_z ha).2.2.2.1.mpr e)))
theorem n_if_le {pc' tgt : Nat} {off : Int} {a : Nat} (hC : Cx x own cc nL ret h g z0) (hd : decode cc pc = .ok (.ifCond .le off, 3)) (ht : (pc : Int) + off = (tgt : Int)) (hp : pc + 3 = pc') (ha : a < 2 ^ 31) (kt : a = 0 → GG x g z0 nL n1 n2 Q σ tgt lv st) (kf : a ≠ 0 → GG x g z0 nL n1 n2 Q σ pc' lv st) : GG x g z0 nL n1 n2 Q σ pc lv (.int (nI a) :: st) := g_if_le hC hd ht hp (fun q => kt ((nI_z ha).2.2.2.2.mp q)) (fun q => kf (fun e => q ((nI_z ha).2.2.2.2.mpr e)))
noncomputable def bI (p : Prop) : Int32 := @ite _ p (Classical.propDecidable p) 1 0
theorem bI_t {p : Prop} (h : p) : bI p = 1 := if_pos h
theorem bI_f {p : Prop} (h : ¬ p) : bI p = 0 := if_neg h
theorem bI_0 {p : Prop} : bI p = 0 ↔ ¬ p := by
  by_cases h : p
  · rw [bI_t h]; exact ⟨fun e => absurd e (by decide), fun e => absurd h e⟩
  · rw [bI_f h]; exact ⟨fun _ => h, fun _ => rfl⟩
theorem bI_nar (p : Prop) : narrow .boolean (.int (bI p)) = .int (bI p) := by
  by_cases h : p
  · rw [bI_t h]; rfl
  · rw [bI_f h]; rfl
theorem bI_fit (p : Prop) : fits .boolean (.int (bI p)) = true := by
  by_cases h : p
  · rw [bI_t h]; rfl
  · rw [bI_f h]; rfl
theorem bI_c {p q : Prop} (h : p ↔ q) : bI p = bI q := by
  by_cases hp : p
  · rw [bI_t hp, bI_t (h.mp hp)]
  · rw [bI_f hp, bI_f (fun z => hp (h.mpr z))]
theorem b_if_eq {pc' tgt : Nat} {off : Int} {p : Prop} (hC : Cx x own cc nL ret h g z0) (hd : decode cc pc = .ok (.ifCond .eq off, 3)) (ht : (pc : Int) + off = (tgt : Int)) (hp : pc + 3 = pc') (kt : ¬ p → GG x g z0 nL n1 n2 Q σ tgt lv st) (kf : p → GG x g z0 nL n1 n2 Q σ pc' lv st) : GG x g z0 nL n1 n2 Q σ pc lv (.int (bI p) :: st) := g_if_eq hC hd ht hp (fun q => kt (bI_0.mp q)) (fun q => kf (Classical.byContradiction fun z => q (bI_0.mpr z)))
theorem b_if_ne {pc' tgt : Nat} {off : Int} {p : Prop} (hC : Cx x own cc nL ret h g z0) (hd : decode cc pc = .ok (.ifCond .ne off, 3)) (ht : (pc : Int) + off = (tgt : Int)) (hp : pc + 3 = pc') (kt : p → GG x g z0 nL n1 n2 Q σ tgt lv st) (kf : ¬ p → GG x g z0 nL n1 n2 Q σ pc' lv st) : GG x g z0 nL n1 n2 Q σ pc lv (.int (bI p) :: st) := g_if_ne hC hd ht hp (fun q => kt (Classical.byContradiction fun z => q (bI_0.mpr z))) (fun q => kf (bI_0.mp q))
theorem g_goto {tgt : Nat} {off : Int} (hC : Cx x own cc nL ret h g z0) (hd : decode cc pc = .ok (.goto off, 3)) (ht : (pc : Int) + off = (tgt : Int)) (k : GG x g z0 nL n1 n2 Q σ tgt lv st) : GG x g z0 nL n1 n2 Q σ pc lv st := fun H locs ls hP hS hl => lv_goto hC.1 hC.2.1 hd ht (k H locs ls hP hS hl)
theorem g_ldc {pc' idx : Nat} {v : Int32} (hC : Cx x own cc nL ret h g z0) (hw : WIn (.constant own idx v)) (hd : decode cc pc = .ok (.ldc idx, 2)) (hp : pc + 2 = pc') (k : GG x g z0 nL n1 n2 Q σ pc' lv (.int v :: st)) : GG x g z0 nL n1 n2 Q σ pc lv st := fun H locs ls hP hS hl => lv_ldc hC.1 hC.2.1 hC.2.2.2.1 (wWIn hC hw) hd (hp ▸ k H locs ls hP hS hl)
theorem g_ldc2 {pc' idx : Nat} {v : Int64} (hC : Cx x own cc nL ret h g z0) (hw : WIn (.constantLong own idx v)) (hd : decode cc pc = .ok (.ldc2_w idx, 3)) (hp : pc + 3 = pc') (k : GG x g z0 nL n1 n2 Q σ pc' lv (.long v :: st)) : GG x g z0 nL n1 n2 Q σ pc lv st := fun H locs ls hP hS hl => lv_ldc2 hC.1 hC.2.1 hC.2.2.2.1 (wWIn hC hw) hd (hp ▸ k H locs ls hP hS hl)
theorem g_get {C : String} {T : u_T} {N ci idx k j pc' : Nat} {fs : List Value} {v : Value} (hC : Cx x own cc nL ret h g z0) (hlay : ∀ w ∈ u_ws C T N, WIn w) (hc : vwCl[ci]? = some (C, T, N)) (hw : WIn (.fieldLink own idx (T j).1 (T j).2.1 (T j).2.2.1)) (hk : k < NC) (he : ct g σ k = .inr (ci, fs)) (hj : j < N) (hv : fs[j]? = some v) (hd : decode cc pc = .ok (.getfield idx, 3)) (hp : pc + 3 = pc') (kk : GG x g z0 nL n1 n2 Q σ pc' lv (v :: st)) : GG x g z0 nL n1 n2 Q σ pc lv (.ref (g.2.1 k) :: st) := fun H locs ls hP hS hl =>
  va_get hC.1 hC.2.1 (Ts := u_ws C T N) (fun w hw => wWIn hC (hlay w hw)) (fun w hw => hw) hC.2.2.2.1 hC.2.2.2.2.2.2.2.1.1 hP k (by rw [wl_get g σ hk, he]) hc j hj (wWIn hC hw) (fun _ h9 => h9) hv hd (hp ▸ kk H locs ls hP hS hl)
theorem g_put {σ' : St} {C : String} {T : u_T} {N ci idx k j pc' : Nat} {fs : List Value} {v : Value} {ty : FieldType} {ty0 : Nat → FieldType} (hC : Cx x own cc nL ret h g z0) (hlay : ∀ w ∈ u_ws C T N, WIn w) (hc : vwCl[ci]? = some (C, T, N)) (hty : ∀ k, k < N → parseFieldDescriptor (T k).2.2.1 = some (ty0 k)) (hnm : ∀ a, a < N → ∀ b, b < N → a ≠ b → (T a).2.1 ≠ (T b).2.1) (hw : WIn (.fieldLink own idx (T j).1 (T j).2.1 (T j).2.2.1)) (hk : k < NC) (he : ct g σ k = .inr (ci, fs)) (he' : ct g σ' k = .inr (ci, fs.set j v)) (ho : ∀ i, i ≠ k → ct g σ' i = ct g σ i) (hj : j < N) (hfin : (T j).2.2.2 = false) (hdd : parseFieldDescriptor (T j).2.2.1 = some ty) (hnn : narrow ty v = v) (hfit : fits ty v = true) (hl : j < fs.length) (hd : decode cc pc = .ok (.putfield idx, 3)) (hp : pc + 3 = pc') (kk : GG x g z0 nL n1 n2 Q σ' pc' lv st) : GG x g z0 nL n1 n2 Q σ pc lv (v :: .ref (g.2.1 k) :: st) := fun H locs ls hP hS hl0 =>
  va_put hC.1 hC.2.1 (Ts := u_ws C T N) (fun w hw => wWIn hC (hlay w hw)) (fun w hw => hw) ty0 hty hnm hC.2.2.2.1 hC.2.2.2.2.2.2.2.1.1 hP (wl_D hC.2.2.2.2.2.2.2.1 σ) hS k (by rw [wl_get g σ hk, he]) hc j hj (wWIn hC hw) (fun _ h9 => h9) hfin hdd hnn hfit hl hd (fun H1 locs1 hP1 hD1 hS1 => hp ▸ kk H1 locs1 ls (by rw [← he', wl_set g σ σ' hk ho] at hP1; exact hP1) hS1 hl0)
theorem cl_nI {i n : Nat} (hi : i < n) (hn : n < 2 ^ 31) : (nI i).toNatClampNeg = i := nI_clamp (Nat.lt_trans hi hn)
theorem a_ld {k n i pc' : Nat} (hC : Cx x own cc nL ret h g z0) (hk : k < NC) (he : ct g σ k = .inl (g.2.2.2.1 0, n, .inl (σ.1 k))) (hi : i < n) (hn : n < 2 ^ 31) (hd : decode cc pc = .ok (.iaload, 1)) (hp : pc + 1 = pc') (kk : GG x g z0 nL n1 n2 Q σ pc' lv (.int (σ.1 k i) :: st)) : GG x g z0 nL n1 n2 Q σ pc lv (.int (nI i) :: .ref (g.2.1 k) :: st) := fun H locs ls hP hS hl =>
  va_iald hC.1 hC.2.1 hC.2.2.2.2.2.2.2.1.1 hP k 0 (by rw [wl_get g σ hk, he]) rfl (vp_in_nI hi hn) hd (by rw [cl_nI hi hn]; exact hp ▸ kk H locs ls hP hS hl)
theorem a_ldb {k n i pc' : Nat} (hC : Cx x own cc nL ret h g z0) (hk : k < NC) (he : ct g σ k = .inl (g.2.2.2.1 1, n, .inl (σ.1 k))) (hi : i < n) (hn : n < 2 ^ 31) (hd : decode cc pc = .ok (.baload, 1)) (hp : pc + 1 = pc') (kk : GG x g z0 nL n1 n2 Q σ pc' lv (.int (σ.1 k i) :: st)) : GG x g z0 nL n1 n2 Q σ pc lv (.int (nI i) :: .ref (g.2.1 k) :: st) := fun H locs ls hP hS hl =>
  va_bald hC.1 hC.2.1 hC.2.2.2.2.2.2.2.1.1 hP k 1 (by rw [wl_get g σ hk, he]) rfl (vp_in_nI hi hn) hd (by rw [cl_nI hi hn]; exact hp ▸ kk H locs ls hP hS hl)
theorem a_ldz {k n i pc' : Nat} (hC : Cx x own cc nL ret h g z0) (hk : k < NC) (he : ct g σ k = .inl (g.2.2.2.1 2, n, .inl (σ.1 k))) (hi : i < n) (hn : n < 2 ^ 31) (hd : decode cc pc = .ok (.baload, 1)) (hp : pc + 1 = pc') (kk : GG x g z0 nL n1 n2 Q σ pc' lv (.int (σ.1 k i) :: st)) : GG x g z0 nL n1 n2 Q σ pc lv (.int (nI i) :: .ref (g.2.1 k) :: st) := fun H locs ls hP hS hl =>
  va_zald hC.1 hC.2.1 hC.2.2.2.2.2.2.2.1.1 hP k 2 (by rw [wl_get g σ hk, he]) rfl (vp_in_nI hi hn) hd (by rw [cl_nI hi hn]; exact hp ▸ kk H locs ls hP hS hl)
theorem ct_st {k n i t : Nat} {v : Int32} (σ : St) (he : ∀ σ : St, ct g σ k = .inl (g.2.2.2.1 t, n, .inl (σ.1 k))) : (.inl (g.2.2.2.1 t, n, .inl (upd (σ.1 k) i v)) : va_E) = ct g (uv σ k i v) k := by
  rw [he (uv σ k i v), uv_row]
  rfl
theorem a_st {k n i pc' : Nat} {v : Int32} (hC : Cx x own cc nL ret h g z0) (hk : k < NC) (he : ∀ σ : St, ct g σ k = .inl (g.2.2.2.1 0, n, .inl (σ.1 k))) (hi : i < n) (hn : n < 2 ^ 31) (hd : decode cc pc = .ok (.iastore, 1)) (hp : pc + 1 = pc') (kk : GG x g z0 nL n1 n2 Q (uv σ k i v) pc' lv st) : GG x g z0 nL n1 n2 Q σ pc lv (.int v :: .int (nI i) :: .ref (g.2.1 k) :: st) := fun H locs ls hP hS hl =>
  va_iast hC.1 hC.2.1 hC.2.2.2.2.2.2.2.1.1 hP (wl_D hC.2.2.2.2.2.2.2.1 σ) hS k 0 (by rw [wl_get g σ hk, he σ]) rfl (vp_in_nI hi hn) hd (fun H1 locs1 hP1 hD1 hS1 => hp ▸ kk H1 locs1 ls (by rw [cl_nI hi hn, ct_st σ he, wl_set g σ _ hk (fun j hj => ct_uv g σ k i v hj)] at hP1; exact hP1) hS1 hl)
end ROWS
