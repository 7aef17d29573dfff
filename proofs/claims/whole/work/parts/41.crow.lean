theorem w_init_Math : WIn (.initialized "java/lang/Math") := win_at 66 (by decide +kernel) (by decide +kernel)
theorem w_init_Sys : WIn (.initialized "java/lang/System") := win_at 81 (by decide +kernel) (by decide +kernel)
theorem w_st_min : WIn (.static Lib.Math.min.name) := win_at 384 (by decide +kernel) (by decide +kernel)
theorem w_cd_min : WIn (.code Lib.Math.min.name Lib.Math.min.code 2 (some .int)) := win_at 385 (by decide +kernel) (by decide +kernel)
theorem w_st_max : WIn (.static Lib.Math.max.name) := win_at 201 (by decide +kernel) (by decide +kernel)
theorem w_cd_max : WIn (.code Lib.Math.max.name Lib.Math.max.code 2 (some .int)) := win_at 202 (by decide +kernel) (by decide +kernel)
theorem w_st_copy : WIn (.static arraycopyName) := win_at 770 (by decide +kernel) (by decide +kernel)
theorem w_nat_copy : WIn (.native arraycopyName) := win_at 771 (by decide +kernel) (by decide +kernel)
theorem wM_X2_18 : WIn (.methodLink RX2 18 yJ7_fill_53178) := win_at 648 (by decide +kernel) (by decide +kernel)
theorem k_J7_fill_53178 : CalS yJ7_fill_53178 cJ7_fill_53178 4 none 2 := ⟨win_at 649 (by decide +kernel) (by decide +kernel), win_at 79 (by decide +kernel) (by decide +kernel), win_at 650 (by decide +kernel) (by decide +kernel), ⟨by decide, by decide, by decide +kernel⟩, by decide⟩
/-- the words for what is private in a nest mate; they hold by the extra fact of the layout -/
def NW (U : State) : Prop := va_Nw (.methodLinkNest RX6 142 yX9_firstDifference RX9) U ∧ va_Nw (.methodLinkNest RX2 59 yX9_firstDifference RX9) U ∧ va_Nw (.methodLinkNest RX1 74 yX9_firstDifference RX9) U
def GX (g : Lay) : Prop := ∀ (U : State) (H : Heap), g.2.2.2.2 U H → NW U
section CROW
variable {x : Ctx} {g : Lay} {z0 nL n1 n2 h : Nat} {Q : State → Prop} {σ : St} {pc : Nat} {lv lv' : List (Nat × Value)} {st : List Value} {own : String} {cc : ByteArray} {ret : Option FieldType}
theorem g_alen {k n t pc' : Nat} {r : (Nat → Int32) ⊕ (Nat → Int64) ⊕ (Nat → UInt32) ⊕ (Nat → UInt64) ⊕ (Nat → Option Nat)} {ty : FieldType} (hC : Cx x own cc nL ret h g z0) (hk : k < NC) (he : ct g σ k = .inl (g.2.2.2.1 t, n, r)) (ht : (tyG g)[t]? = some (g.2.2.2.1 t, ty)) (hd : decode cc pc = .ok (.arraylength, 1)) (hp : pc + 1 = pc') (kk : GG x g z0 nL n1 n2 Q σ pc' lv (.int (nI n) :: st)) : GG x g z0 nL n1 n2 Q σ pc lv (.ref (g.2.1 k) :: st) := fun H locs ls hP hS hl =>
  va_alen (x := (n, r)) hC.1 hC.2.1 hC.2.2.2.2.2.2.2.1.1 hP k t (by rw [wl_get g σ hk, he]) ht rfl hd (hp ▸ kk H locs ls hP hS hl)
theorem n_min {a b idx pc' : Nat} (hC : Cx x own cc nL ret h g z0) (hw : WIn (.methodLink own idx Lib.Math.min.name)) (hh : 0 < h) (ha : a < 2 ^ 31) (hb : b < 2 ^ 31) (hr : (st.map fun v => v.category).sum ≤ 8) (hd : decode cc pc = .ok (.invokestatic idx, 3)) (hp : pc + 3 = pc') (hc1 : n1 ≤ x.2.2.2.1.cells) (hc2 : n2 ≤ x.2.2.2.1.slots) (kk : GG x g z0 nL n1 n2 Q σ pc' lv (.int (nI (min a b)) :: st)) : GG x g z0 nL n1 n2 Q σ pc lv (.int (nI b) :: .int (nI a) :: st) := fun H locs ls hP hS hl => by
  have hr2 : 40 * h ≤ x.2.2.2.1.locals := hC.2.2.2.2.2.2.1.2
  refine va_mmin hC.1 hC.2.1 (hC.2.2.1.trans hl.1.symm) hC.2.2.2.1 (wWIn hC hw) (wWIn hC w_st_min) (wWIn hC w_init_Math) (wWIn hC w_cd_min) (Nat.le_trans hh hC.2.2.2.2.2.2.1.1) (by show _ ≤ x.2.2.2.1.locals; omega) hc1 hc2 hd ?_
  have e : (if nI b < nI a then nI b else nI a) = nI (min a b) := by
    by_cases q : b < a
    · rw [if_pos (nI_lt q ha), Nat.min_eq_right (by omega)]
    · rw [if_neg (nI_nlt (by omega) hb), Nat.min_eq_left (by omega)]
  rw [e]
  exact hp ▸ kk H locs ls hP hS hl
theorem n_max {a b idx pc' : Nat} (hC : Cx x own cc nL ret h g z0) (hw : WIn (.methodLink own idx Lib.Math.max.name)) (hh : 0 < h) (ha : a < 2 ^ 31) (hb : b < 2 ^ 31) (hr : (st.map fun v => v.category).sum ≤ 8) (hd : decode cc pc = .ok (.invokestatic idx, 3)) (hp : pc + 3 = pc') (hc1 : n1 ≤ x.2.2.2.1.cells) (hc2 : n2 ≤ x.2.2.2.1.slots) (kk : GG x g z0 nL n1 n2 Q σ pc' lv (.int (nI (max a b)) :: st)) : GG x g z0 nL n1 n2 Q σ pc lv (.int (nI b) :: .int (nI a) :: st) := fun H locs ls hP hS hl => by
  have hr2 : 40 * h ≤ x.2.2.2.1.locals := hC.2.2.2.2.2.2.1.2
  refine va_mmax hC.1 hC.2.1 (hC.2.2.1.trans hl.1.symm) hC.2.2.2.1 (wWIn hC hw) (wWIn hC w_st_max) (wWIn hC w_init_Math) (wWIn hC w_cd_max) (Nat.le_trans hh hC.2.2.2.2.2.2.1.1) (by show _ ≤ x.2.2.2.1.locals; omega) hc1 hc2 hd ?_
  have e : (if nI a < nI b then nI b else nI a) = nI (max a b) := by
    by_cases q : a < b
    · rw [if_pos (nI_lt q hb), Nat.max_eq_right (by omega)]
    · rw [if_neg (nI_nlt (by omega) ha), Nat.max_eq_left (by omega)]
  rw [e]
  exact hp ▸ kk H locs ls hP hS hl
theorem nfw : nativeFrameWords "java/lang/System" "arraycopy" 5 = 7 := by decide
/-- a copy between arrays of ints, or in one -/
theorem g_copy {k0 k1 m0 m1 sp dp n idx pc' : Nat} (hC : Cx x own cc nL ret h g z0) (hw : WIn (.methodLink own idx arraycopyName)) (hh : 0 < h) (hk0 : k0 < NC) (hk1 : k1 < NC) (he0 : ct g σ k0 = .inl (g.2.2.2.1 0, m0, .inl (σ.1 k0))) (he1 : ∀ σ : St, ct g σ k1 = .inl (g.2.2.2.1 0, m1, .inl (σ.1 k1))) (h4 : sp + n ≤ m0) (h5 : dp + n ≤ m1) (hm0 : m0 < 2 ^ 31) (hm1 : m1 < 2 ^ 31) (hr : (st.map fun v => v.category).sum ≤ 8) (hd : decode cc pc = .ok (.invokestatic idx, 3)) (hp : pc + 3 = pc') (kk : GG x g z0 nL n1 n2 Q (ur σ k1 (va_cpy (σ.1 k0) (σ.1 k1) sp dp n)) pc' lv st) : GG x g z0 nL n1 n2 Q σ pc lv (.int (nI n) :: .int (nI dp) :: .ref (g.2.1 k1) :: .int (nI sp) :: .ref (g.2.1 k0) :: st) := fun H locs ls hP hS hl => by
  have hr2 : 40 * h ≤ x.2.2.2.1.locals := hC.2.2.2.2.2.2.1.2
  have c1 : (nI sp).toNatClampNeg = sp := nI_clamp (by omega)
  have c2 : (nI dp).toNatClampNeg = dp := nI_clamp (by omega)
  have c3 : (nI n).toNatClampNeg = n := nI_clamp (by omega)
  refine va_copyi hC.1 hC.2.1 (hC.2.2.1.trans hl.1.symm) hC.2.2.2.1 (wWIn hC hw) (wWIn hC w_nat_copy) (wWIn hC w_st_copy) (wWIn hC w_init_Sys) hC.2.2.2.2.2.2.2.1.1 hP (wl_D hC.2.2.2.2.2.2.2.1 σ) hS k0 k1 0 0 (by rw [wl_get g σ hk0, he0]) (by rw [wl_get g σ hk1, he1 σ]) rfl rfl rfl (nI_pos (by omega)) (nI_pos (by omega)) (nI_pos (by omega)) (by rw [c1, c3]; exact h4) (by rw [c2, c3]; exact h5) (fun _ _ => rfl) (Nat.le_trans hh hC.2.2.2.2.2.2.1.1) (by rw [nfw]; show _ ≤ x.2.2.2.1.locals; omega) hd ?_
  intro H1 locs1 hP1 hD1 hS1
  rw [c1, c2, c3] at hP1
  have e : (.inl (g.2.2.2.1 0, m1, .inl (va_cpy (σ.1 k0) (σ.1 k1) sp dp n)) : va_E) = ct g (ur σ k1 (va_cpy (σ.1 k0) (σ.1 k1) sp dp n)) k1 := by
    rw [he1, ur_row]
  rw [e, wl_set g σ _ hk1 (fun j hj => ct_ur g σ k1 _ hj)] at hP1
  exact hp ▸ kk H1 locs1 ls hP1 hS1 hl
variable {y : MethodName} {cc' : ByteArray} {nL' h' idx n : Nat} {ret' : Option FieldType} {As : List Value} {st0 : List Value}
theorem cbN {host : String} (hC : Cx x own cc nL ret h g z0) (hk : CalS y cc' nL' ret' n) (hw : va_Nw (.methodLinkNest own idx y host) x.2.2.2.2.1) (hh : h' < h) : va_CN x.2.2.2.1 x.2.2.2.2.1 x.2.2.2.2.2.2.1 own idx y host cc' nL' ret' [.code y cc' nL' ret'] (rmH h') 0 0 n ∧ (Cond.static y).before x.2.2.2.2.2.2.1 x.2.2.2.2.1 = true ∧ True := by
  obtain ⟨k1, k2, k3, k4, k5⟩ := hk
  obtain ⟨hr1, hr2⟩ := hC.2.2.2.2.2.2.1
  refine ⟨⟨⟨rfl, rfl, ?_, ?_, ?_, List.mem_cons_self⟩, wWIn hC k3, wWIn hC k2, ⟨k4.1, k4.2.1⟩, ?_, va_Nw.use rfl hw⟩, wWIn hC k1, trivial⟩
  · show h' + 1 ≤ x.2.2.2.1.frames
    exact Nat.le_trans hh hr1
  · show 8 + (nL' + 11) + 40 * h' ≤ x.2.2.2.1.locals
    have : 40 * h ≤ x.2.2.2.1.locals := hr2
    omega
  · intro w hw a' U hW
    rw [List.mem_singleton.mp hw]
    exact word_at hW (good_of_word k3.2) (wWIn hC k3)
  · intro sig hs
    have h2 := k4.2.2
    rw [hs] at h2
    exact (Option.some.inj h2).symm
theorem c_Ni {pc' : Nat} {host : String} {post : Int32 → St → Prop} (hC : Cx x own cc nL ret h g z0) (hM : CTi x.2.1 y cc' nL' ret' h' g z0 As σ post) (hk : CalS y cc' nL' ret' n) (hw : va_Nw (.methodLinkNest own idx y host) x.2.2.2.2.1) (hh : h' < h) (hn : As.length = n) (hr : (st.map fun v => v.category).sum ≤ 8) (hd : decode cc pc = .ok (.invokestatic idx, 3)) (hp : pc + 3 = pc') (hc1 : n1 ≤ x.2.2.2.1.cells) (hc2 : n2 ≤ x.2.2.2.1.slots) (kk : ∀ (r : Int32) (σ' : St), post r σ' → GG x g z0 nL n1 n2 Q σ' pc' lv (.int r :: st)) : GG x g z0 nL n1 n2 Q σ pc lv (As.reverse ++ st) := fun H locs ls hP hS hl => va_calli (va_runSN (Ts := []) ⟨hC.1, hC.2.1, hC.2.2.1, hC.2.2.2.1, fun w hw => absurd hw List.not_mem_nil⟩ hM (cbN hC hk hw hh) ⟨blindW, fun U hU hW => ⟨rfl, preW hC hP hS U hU hW⟩⟩ rfl hn hl.1 rfl (by show 2 * 0 + _ ≤ 8; omega) hd ⟨hc1, hc2⟩) hS (fun q _ hq => hq) (fun q hq => hq) (fun r σ' t H1 locs1 ht hvm hw' hB hz1 hk1 hS1 => hp ▸ kk r σ' hw' H1 locs1 ls (ht ▸ hB) hS1 hl)
theorem f_Ni {pc' : Nat} {host : String} {R : Int32} {S : St} (hC : Cx x own cc nL ret h g z0) (hM : CTi x.2.1 y cc' nL' ret' h' g z0 As σ (FI R S)) (hk : CalS y cc' nL' ret' n) (hw : va_Nw (.methodLinkNest own idx y host) x.2.2.2.2.1) (hh : h' < h) (hn : As.length = n) (hst : st0 = As.reverse ++ st) (hr : (st.map fun v => v.category).sum ≤ 8) (hd : decode cc pc = .ok (.invokestatic idx, 3)) (hp : pc + 3 = pc') (hc1 : n1 ≤ x.2.2.2.1.cells) (hc2 : n2 ≤ x.2.2.2.1.slots) (kk : GG x g z0 nL n1 n2 Q S pc' lv (.int R :: st)) : GG x g z0 nL n1 n2 Q σ pc lv st0 := hst ▸ c_Ni hC hM hk hw hh hn hr hd hp hc1 hc2 (fun r σ' hq => by obtain ⟨e1, e2⟩ := hq; rw [e1, e2]; exact kk)
theorem g_dup2 {pc' : Nat} {va vb : Value} (hC : Cx x own cc nL ret h g z0) (hd : decode cc pc = .ok (.dup2, 1)) (hp : pc + 1 = pc') (h1 : va.category = 1) (h2 : vb.category = 1) (k : GG x g z0 nL n1 n2 Q σ pc' lv (va :: vb :: va :: vb :: st)) : GG x g z0 nL n1 n2 Q σ pc lv (va :: vb :: st) := fun H locs ls hP hS hl => lv_dup2_11 hC.1 hC.2.1 hd h1 h2 (hp ▸ k H locs ls hP hS hl)
theorem wN_X6_142 (hG : GX g) (hC : Cx x own cc nL ret h g z0) : va_Nw (.methodLinkNest RX6 142 yX9_firstDifference RX9) x.2.2.2.2.1 := (hG _ _ hC.2.2.2.2.2.2.2.2.2).1
theorem wN_X2_59 (hG : GX g) (hC : Cx x own cc nL ret h g z0) : va_Nw (.methodLinkNest RX2 59 yX9_firstDifference RX9) x.2.2.2.2.1 := (hG _ _ hC.2.2.2.2.2.2.2.2.2).2.1
theorem wN_X1_74 (hG : GX g) (hC : Cx x own cc nL ret h g z0) : va_Nw (.methodLinkNest RX1 74 yX9_firstDifference RX9) x.2.2.2.2.1 := (hG _ _ hC.2.2.2.2.2.2.2.2.2).2.2
end CROW
/-- an array of 201 ints -/
def A2 (g : Lay) (k : Nat) : Prop := k < NC ∧ ∀ σ : St, ct g σ k = .inl (g.2.2.2.1 0, 201, .inl (σ.1 k))
theorem A2_ba (g : Lay) {b j : Nat} (hb : b < 8) (h1 : 1 ≤ j) (h2 : j ≤ 6) : A2 g (34 + 7 * b + j) := ⟨by show _ < 228; omega, fun σ => ct_ba g σ hb h1 h2⟩
theorem A2_ch (g : Lay) {c : Nat} (hc : c < 6) : A2 g (90 + 3 * c + 1) := ⟨by show _ < 228; omega, fun σ => ct_ch g σ hc⟩
