/-! constructors: cells are made one behind another from address z on -/
abbrev RLw : String := "ForkWatchLaw"
theorem w_oi_i : WIn (.instanceMethod Lib.objectInit) := win_at 89 (by decide +kernel) (by decide +kernel)
theorem w_oi_c : WIn (.code Lib.objectInit ⟨#[0xb1]⟩ 1 none) := win_at 90 (by decide +kernel) (by decide +kernel)
theorem w_oi_X1 : WIn (.methodLink RX1 3 Lib.objectInit) := win_at 222 (by decide +kernel) (by decide +kernel)
theorem w_in_X1 : WIn (.instantiable RX1 7) := win_at 218 (by decide +kernel) (by decide +kernel)
theorem w_ini_X1 : WIn (.initialized RX1) := win_at 67 (by decide +kernel) (by decide +kernel)
theorem w_oi_X2 : WIn (.methodLink RX2 3 Lib.objectInit) := win_at 257 (by decide +kernel) (by decide +kernel)
theorem w_in_X2 : WIn (.instantiable RX2 6) := win_at 253 (by decide +kernel) (by decide +kernel)
theorem w_ini_X2 : WIn (.initialized RX2) := win_at 68 (by decide +kernel) (by decide +kernel)
theorem w_oi_X4 : WIn (.methodLink RX4 1 Lib.objectInit) := win_at 199 (by decide +kernel) (by decide +kernel)
theorem w_in_X4 : WIn (.instantiable RX4 4) := win_at 195 (by decide +kernel) (by decide +kernel)
theorem w_ini_X4 : WIn (.initialized RX4) := win_at 65 (by decide +kernel) (by decide +kernel)
theorem w_oi_X5 : WIn (.methodLink RX5 3 Lib.objectInit) := win_at 96 (by decide +kernel) (by decide +kernel)
theorem w_in_X5 : WIn (.instantiable RX5 9) := win_at 92 (by decide +kernel) (by decide +kernel)
theorem w_ini_X5 : WIn (.initialized RX5) := win_at 59 (by decide +kernel) (by decide +kernel)
theorem w_oi_X6 : WIn (.methodLink RX6 3 Lib.objectInit) := win_at 189 (by decide +kernel) (by decide +kernel)
theorem w_in_X6 : WIn (.instantiable RX6 9) := win_at 185 (by decide +kernel) (by decide +kernel)
theorem w_ini_X6 : WIn (.initialized RX6) := win_at 64 (by decide +kernel) (by decide +kernel)
theorem w_oi_X7 : WIn (.methodLink RX7 3 Lib.objectInit) := win_at 134 (by decide +kernel) (by decide +kernel)
theorem w_in_X7 : WIn (.instantiable RX7 2) := win_at 130 (by decide +kernel) (by decide +kernel)
theorem w_ini_X7 : WIn (.initialized RX7) := win_at 61 (by decide +kernel) (by decide +kernel)
theorem w_oi_X8 : WIn (.methodLink RX8 3 Lib.objectInit) := win_at 102 (by decide +kernel) (by decide +kernel)
theorem w_in_X8 : WIn (.instantiable RX8 5) := win_at 98 (by decide +kernel) (by decide +kernel)
theorem w_ini_X8 : WIn (.initialized RX8) := win_at 60 (by decide +kernel) (by decide +kernel)
theorem w_oi_X9 : WIn (.methodLink RX9 1 Lib.objectInit) := win_at 88 (by decide +kernel) (by decide +kernel)
theorem w_in_X9 : WIn (.instantiable RX9 4) := win_at 84 (by decide +kernel) (by decide +kernel)
theorem w_ini_X9 : WIn (.initialized RX9) := win_at 58 (by decide +kernel) (by decide +kernel)
theorem w_oi_X10 : WIn (.methodLink RX10 1 Lib.objectInit) := win_at 1152 (by decide +kernel) (by decide +kernel)
theorem w_in_X10 : WIn (.instantiable RX10 40) := win_at 1148 (by decide +kernel) (by decide +kernel)
theorem w_ini_X10 : WIn (.initialized RX10) := win_at 69 (by decide +kernel) (by decide +kernel)
theorem w_cl_L_8 : WIn (.classLink RLw 8 RX9) := win_at 83 (by decide +kernel) (by decide +kernel)
theorem w_li_L_110 : WIn (.methodLink RLw 110 yX9_init) := win_at 85 (by decide +kernel) (by decide +kernel)
theorem w_cl_X9_7 : WIn (.classLink RX9 7 RX5) := win_at 91 (by decide +kernel) (by decide +kernel)
theorem w_li_X9_9 : WIn (.methodLink RX9 9 yX5_init) := win_at 93 (by decide +kernel) (by decide +kernel)
theorem w_cl_X5_9 : WIn (.classLink RX5 9 RX8) := win_at 97 (by decide +kernel) (by decide +kernel)
theorem w_cl_X8_15 : WIn (.classLink RX8 15 "ForkWatch$Kind") := win_at 103 (by decide +kernel) (by decide +kernel)
theorem w_cl_X5_18 : WIn (.classLink RX5 18 RX7) := win_at 128 (by decide +kernel) (by decide +kernel)
theorem w_cl_X9_16 : WIn (.classLink RX9 16 RX6) := win_at 184 (by decide +kernel) (by decide +kernel)
theorem w_li_X9_18 : WIn (.methodLink RX9 18 yX6_init) := win_at 186 (by decide +kernel) (by decide +kernel)
theorem w_cl_X6_9 : WIn (.classLink RX6 9 RX1) := win_at 190 (by decide +kernel) (by decide +kernel)
theorem w_cl_X6_17 : WIn (.classLink RX6 17 RX2) := win_at 192 (by decide +kernel) (by decide +kernel)
theorem w_cl_X6_23 : WIn (.classLink RX6 23 RX4) := win_at 194 (by decide +kernel) (by decide +kernel)
theorem w_li_X6_25 : WIn (.methodLink RX6 25 yX4_init) := win_at 196 (by decide +kernel) (by decide +kernel)
theorem w_li_X6_42 : WIn (.methodLink RX6 42 yX1_init) := win_at 219 (by decide +kernel) (by decide +kernel)
theorem w_cl_L_111 : WIn (.classLink RLw 111 RX10) := win_at 1147 (by decide +kernel) (by decide +kernel)
theorem w_li_L_113 : WIn (.methodLink RLw 113 yX10_init) := win_at 1149 (by decide +kernel) (by decide +kernel)
theorem w_ac_int : WIn (.arrayClass .int) := win_at 127 (by decide +kernel) (by decide +kernel)
theorem w_ac_byte : WIn (.arrayClass .byte) := win_at 126 (by decide +kernel) (by decide +kernel)
theorem w_ac_boolean : WIn (.arrayClass .boolean) := win_at 1274 (by decide +kernel) (by decide +kernel)
theorem w_ac_long : WIn (.arrayClass .long) := win_at 1695 (by decide +kernel) (by decide +kernel)
def CalI (y : MethodName) (cc : ByteArray) (nL : Nat) (n : Nat) : Prop := WIn (.instanceMethod y) ∧ WIn (.initialized y.cls) ∧ WIn (.code y cc nL none) ∧ (y.cls ≠ "java/lang/invoke/MethodHandle" ∧ y.cls ≠ "java/lang/invoke/VarHandle" ∧ (parseMethodDescriptor y.desc).map (fun d => d.parameters.length) = some n) ∧ nL ≤ 21 ∧ y.name = "<init>"
theorem ki_X1 : CalI yX1_init cX1_init 1 0 := ⟨win_at 220 (by decide +kernel) (by decide +kernel), w_ini_X1, win_at 221 (by decide +kernel) (by decide +kernel), ⟨by decide, by decide, by decide +kernel⟩, by decide, rfl⟩
theorem ki_X2 : CalI yX2_init cX2_init 1 0 := ⟨win_at 255 (by decide +kernel) (by decide +kernel), w_ini_X2, win_at 256 (by decide +kernel) (by decide +kernel), ⟨by decide, by decide, by decide +kernel⟩, by decide, rfl⟩
theorem ki_X4 : CalI yX4_init cX4_init 3 2 := ⟨win_at 197 (by decide +kernel) (by decide +kernel), w_ini_X4, win_at 198 (by decide +kernel) (by decide +kernel), ⟨by decide, by decide, by decide +kernel⟩, by decide, rfl⟩
theorem ki_X5 : CalI yX5_init cX5_init 2 0 := ⟨win_at 94 (by decide +kernel) (by decide +kernel), w_ini_X5, win_at 95 (by decide +kernel) (by decide +kernel), ⟨by decide, by decide, by decide +kernel⟩, by decide, rfl⟩
theorem ki_X6 : CalI yX6_init cX6_init 2 0 := ⟨win_at 187 (by decide +kernel) (by decide +kernel), w_ini_X6, win_at 188 (by decide +kernel) (by decide +kernel), ⟨by decide, by decide, by decide +kernel⟩, by decide, rfl⟩
theorem ki_X7 : CalI yX7_init cX7_init 1 0 := ⟨win_at 132 (by decide +kernel) (by decide +kernel), w_ini_X7, win_at 133 (by decide +kernel) (by decide +kernel), ⟨by decide, by decide, by decide +kernel⟩, by decide, rfl⟩
theorem ki_X8 : CalI yX8_init cX8_init 1 0 := ⟨win_at 100 (by decide +kernel) (by decide +kernel), w_ini_X8, win_at 101 (by decide +kernel) (by decide +kernel), ⟨by decide, by decide, by decide +kernel⟩, by decide, rfl⟩
theorem ki_X9 : CalI yX9_init cX9_init 1 0 := ⟨win_at 86 (by decide +kernel) (by decide +kernel), w_ini_X9, win_at 87 (by decide +kernel) (by decide +kernel), ⟨by decide, by decide, by decide +kernel⟩, by decide, rfl⟩
theorem ki_X10 : CalI yX10_init cX10_init 1 0 := ⟨win_at 1150 (by decide +kernel) (by decide +kernel), w_ini_X10, win_at 1151 (by decide +kernel) (by decide +kernel), ⟨by decide, by decide, by decide +kernel⟩, by decide, rfl⟩
/-- the words for constructors of nest mates and for arrays of references -/
def NW2 (U : State) : Prop := va_Nw (.methodLinkNest RX5 11 yX8_init RX9) U ∧ va_Nw (.methodLinkNest RX5 28 yX7_init RX9) U ∧ va_Nw (.methodLinkNest RX6 43 yX2_init RX9) U ∧ va_AO "ForkWatch$Kind" U ∧ va_AO RX7 U ∧ va_AO RX1 U ∧ va_AO RX2 U
def GX2 (g : Lay) : Prop := ∀ (U : State) (H : Heap), g.2.2.2.2 U H → NW2 U
def wz (z : Nat) (S : Nat → va_E) (n : Nat) : va_W := (List.range n).map (fun i => (z + i, S i))
def us (S : Nat → va_E) (k : Nat) (e : va_E) : Nat → va_E := fun j => if j = k then e else S j
theorem us_s (S : Nat → va_E) (k : Nat) (e : va_E) : us S k e k = e := if_pos rfl
theorem us_o (S : Nat → va_E) {k j : Nat} (e : va_E) (h : j ≠ k) : us S k e j = S j := if_neg h
theorem wz_get (z : Nat) (S : Nat → va_E) {i n : Nat} (h : i < n) : (wz z S n)[i]? = some (z + i, S i) := by simp [wz, h]
theorem wz_len (z : Nat) (S : Nat → va_E) (n : Nat) : (wz z S n).length = n := by simp [wz]
theorem wz_lt {z : Nat} {S : Nat → va_E} {n k : Nat} {q : Nat × va_E} (h : (wz z S n)[k]? = some q) : k < n ∧ q = (z + k, S k) := by
  have hk : k < n := by
    have := (List.getElem?_eq_some_iff.mp h).1
    rw [wz_len] at this
    exact this
  rw [wz_get z S hk] at h
  exact ⟨hk, (Option.some.inj h).symm⟩
theorem wz_D (z : Nat) (S : Nat → va_E) (n : Nat) : va_D (fun q => z ≤ q) (wz z S n) := by
  refine ⟨fun i j p q hi hj hpq => ?_, fun k q hk => ?_⟩
  · obtain ⟨-, rfl⟩ := wz_lt hi
    obtain ⟨-, rfl⟩ := wz_lt hj
    have : z + i = z + j := hpq
    omega
  · obtain ⟨-, rfl⟩ := wz_lt hk
    exact Nat.le_add_right _ _
theorem wz_ext {z : Nat} {S S' : Nat → va_E} {n : Nat} (h : ∀ i, i < n → S i = S' i) : wz z S n = wz z S' n := by
  apply List.ext_getElem?
  intro i
  by_cases hi : i < n
  · rw [wz_get z S hi, wz_get z S' hi, h i hi]
  · rw [List.getElem?_eq_none (by rw [wz_len]; omega), List.getElem?_eq_none (by rw [wz_len]; omega)]
theorem wz_set {z : Nat} {S : Nat → va_E} {n k : Nat} (h : k < n) (e : va_E) : (wz z S n).set k (z + k, e) = wz z (us S k e) n := by
  apply List.ext_getElem?
  intro i
  by_cases hi : i = k
  · subst hi
    rw [wz_get z _ h, List.getElem?_set_self (by rw [wz_len]; exact h), us_s]
  · rw [List.getElem?_set_ne (Ne.symm hi)]
    by_cases hN : i < n
    · rw [wz_get z S hN, wz_get z _ hN, us_o _ _ hi]
    · rw [List.getElem?_eq_none (by rw [wz_len]; omega), List.getElem?_eq_none (by rw [wz_len]; omega)]
theorem wz_push (z : Nat) (S : Nat → va_E) (n : Nat) (e : va_E) : wz z S n ++ [(z + n, e)] = wz z (us S n e) (n + 1) := by
  apply List.ext_getElem?
  intro i
  rcases Nat.lt_trichotomy i n with hi | hi | hi
  · rw [List.getElem?_append_left (by rw [wz_len]; exact hi), wz_get z S hi, wz_get z _ (by omega), us_o _ _ (by omega)]
  · subst hi
    rw [List.getElem?_append_right (by rw [wz_len]; exact Nat.le_refl _), wz_len, Nat.sub_self, wz_get z _ (by omega), us_s]
    rfl
  · rw [List.getElem?_eq_none (by rw [List.length_append, wz_len]; simp; omega), List.getElem?_eq_none (by rw [wz_len]; omega)]
def GN (x : Ctx) (g : Lay) (z nL n1 n2 : Nat) (Q : State → Prop) (S : Nat → va_E) (w pc : Nat) (lv : List (Nat × Value)) (st : List Value) : Prop :=
  ∀ (H : Heap) (locs : List Loc) (ls : Array Slot), va_P g.1 vwCl (wz z S w) H → H.size = z + w → va_S (fun q => z ≤ q) x.2.2.2.2.1.heap H locs → lv_has ls nL lv → W x.1 x.2.1 x.2.2.1 x.2.2.2.1 x.2.2.2.2.1 x.2.2.2.2.2.1 x.2.2.2.2.2.2.1 x.2.2.2.2.2.2.2.1 x.2.2.2.2.2.2.2.2.1 x.2.2.2.2.2.2.2.2.2 H locs n1 n2 Q (F0 x.2.2.2.2.2.1 pc ls st)
def rmN (h kc ks : Nat) : Room := { frames := h, cells := kc, slots := ks, locals := 40 * h }
def WN (g : Lay) (z : Nat) (S : Nat → va_E) (n : Nat) (U : State) : Prop := va_P g.1 vwCl (wz z S n) U.heap ∧ U.heap.size = z + n ∧ WK g z U ∧ g.2.2.2.2 U U.heap
abbrev BN (g : Lay) (z n : Nat) : (Nat → va_E) → State → Prop := fun u t => va_P g.1 vwCl (wz z u n) t.heap ∧ t.heap.size = z + n
/-- a constructor's contract: the cells S, n of them, become S', n' of them -/
def CN (l : Launch) (y : MethodName) (cc : ByteArray) (nL h kc ks : Nat) (g : Lay) (z : Nat) (av : List Value) (S : Nat → va_E) (n : Nat) (S' : Nat → va_E) (n' : Nat) : Prop :=
  Met l y [.code y cc nL none] (rmN h kc ks) (va_Pc av (WN g z S n)) (va_Qv (fun u : Nat → va_E => u = S') (BN g z n') (fun q => z ≤ q)) kc ks (fun q => z ≤ q)
def QN (x : Ctx) (g : Lay) (z : Nat) (S' : Nat → va_E) (n' kc ks : Nat) : State → Prop := MQ x.2.2.2.2.2.2.2.1 (va_Qv (fun u : Nat → va_E => u = S') (BN g z n') (fun q => z ≤ q)) x.2.2.2.2.2.2.1 x.2.2.2.2.1 kc ks (fun q => z ≤ q)
def Cr (x : Ctx) (kc ks : Nat) : Prop := (kc ≤ x.2.2.2.1.cells ∧ ks ≤ x.2.2.2.1.slots) ∧ x.2.2.2.2.2.2.2.2.1.name = "<init>"
theorem CN.of {l : Launch} {y : MethodName} {cc : ByteArray} {nL h kc ks : Nat} {g : Lay} {z : Nat} {av : List Value} {S S' : Nat → va_E} {n n' : Nat} (hy : plainName y.cls = true) (hyn : y.name = "<init>") (hn : (lg_sl av).length ≤ nL)
    (body : ∀ x : Ctx, x.2.1 = l → x.2.2.2.2.2.2.1 = av.toArray → Cx x y.cls cc nL none h g z → Cr x kc ks → GN x g z nL 0 0 (QN x g z S' n' kc ks) S n 0 (lv_args 0 av) []) : CN l y cc nL h kc ks g z av S n S' n' := by
  refine Met.ofW (cc := cc) (maxL := nL) (ret := none) hy rfl ?_
  intro p e s m args below meth c s₁ B hml hv
  obtain ⟨rfl, hP, hz, hK, hX⟩ := hv
  have hown : s.vm.findClass y.cls = some m.cls := findClass_of_methodNamed B.named
  have hin : meth.name = "<init>" := (name_of_methodNamed B.named B.method).1.trans hyn
  have hl := lv_entry av (n := nL) hn
  rw [lg_entry_eq]
  exact body (p, l, e, rmN h kc ks, s, m, av.toArray, below, meth, c) rfl rfl ⟨B.exec, B.bytes, hml, hown, B.notSynchronized, B.returns, ⟨Nat.le_refl _, Nat.le_refl _⟩, hK, by show z ≤ s.heap.size; omega, hX⟩ ⟨⟨Nat.le_refl _, Nat.le_refl _⟩, hin⟩ s.heap [] _ hP hz va_S.rf hl
section NROWS
variable {x : Ctx} {g : Lay} {z0 nL n1 n2 h : Nat} {Q : State → Prop} {S : Nat → va_E} {w pc : Nat} {lv lv' : List (Nat × Value)} {st : List Value} {own : String} {cc : ByteArray} {ret : Option FieldType}
theorem qq_topi {a b : Int32} (e : a = b) (k : GN x g z0 nL n1 n2 Q S w pc lv (.int b :: st)) : GN x g z0 nL n1 n2 Q S w pc lv (.int a :: st) := e ▸ k
theorem q_iconst {pc' : Nat} {n : Int} {v : Int32} (hC : Cx x own cc nL ret h g z0) (hd : decode cc pc = .ok (.iconst n, 1)) (hp : pc + 1 = pc') (hv : Int32.ofInt n = v) (k : GN x g z0 nL n1 n2 Q S w pc' lv (.int v :: st)) : GN x g z0 nL n1 n2 Q S w pc lv (st) := fun H locs ls hP hz hS hl => lv_iconst hC.1 hC.2.1 hd hv (hp ▸ k H locs ls hP hz hS hl)
theorem q_bipush {pc' : Nat} {n : Int} {v : Int32} (hC : Cx x own cc nL ret h g z0) (hd : decode cc pc = .ok (.bipush n, 2)) (hp : pc + 2 = pc') (hv : (Int8.ofInt n).toInt32 = v) (k : GN x g z0 nL n1 n2 Q S w pc' lv (.int v :: st)) : GN x g z0 nL n1 n2 Q S w pc lv (st) := fun H locs ls hP hz hS hl => lv_bipush hC.1 hC.2.1 hd hv (hp ▸ k H locs ls hP hz hS hl)
theorem q_sipush {pc' : Nat} {n : Int} {v : Int32} (hC : Cx x own cc nL ret h g z0) (hd : decode cc pc = .ok (.sipush n, 3)) (hp : pc + 3 = pc') (hv : (Int16.ofInt n).toInt32 = v) (k : GN x g z0 nL n1 n2 Q S w pc' lv (.int v :: st)) : GN x g z0 nL n1 n2 Q S w pc lv (st) := fun H locs ls hP hz hS hl => lv_sipush hC.1 hC.2.1 hd hv (hp ▸ k H locs ls hP hz hS hl)
theorem q_iload_n {pc' : Nat} {k : Fin 4} {i j : Nat} {v : Int32} (hC : Cx x own cc nL ret h g z0) (hd : decode cc pc = .ok (.iload_n k, 1)) (hp : pc + 1 = pc') (hi : (k : Nat) = i) (hj : lv[j]? = some (i, .int v)) (k : GN x g z0 nL n1 n2 Q S w pc' lv (.int v :: st)) : GN x g z0 nL n1 n2 Q S w pc lv st := fun H locs ls hP hz hS hl => lv_iload_n hC.1 hC.2.1 hd hi (lv_at hl j hj) (hp ▸ k H locs ls hP hz hS hl)
theorem q_istore_n {pc' : Nat} {k : Fin 4} {i : Nat} {v : Int32} (hC : Cx x own cc nL ret h g z0) (hd : decode cc pc = .ok (.istore_n k, 1)) (hp : pc + 1 = pc') (hi : (k : Nat) = i) (hn : i < nL) (hl : (i, Value.int v) :: lv.filter (fun q => !(q.1 == i) && !(q.1 + 1 == i && q.2.category == 2)) = lv') (k : GN x g z0 nL n1 n2 Q S w pc' lv' st) : GN x g z0 nL n1 n2 Q S w pc lv (.int v :: st) := fun H locs ls hP hz hS hl0 => lv_istore_n hC.1 hC.2.1 hd hi hl0 hn hl (fun ls' hl' => hp ▸ k H locs ls' hP hz hS hl')
theorem q_aload_n {pc' : Nat} {k : Fin 4} {i j : Nat} {v : Nat} (hC : Cx x own cc nL ret h g z0) (hd : decode cc pc = .ok (.aload_n k, 1)) (hp : pc + 1 = pc') (hi : (k : Nat) = i) (hj : lv[j]? = some (i, .ref v)) (k : GN x g z0 nL n1 n2 Q S w pc' lv (.ref v :: st)) : GN x g z0 nL n1 n2 Q S w pc lv st := fun H locs ls hP hz hS hl => lv_aload_n hC.1 hC.2.1 hd hi (lv_at hl j hj) (hp ▸ k H locs ls hP hz hS hl)
theorem q_astore_n {pc' : Nat} {k : Fin 4} {i : Nat} {v : Nat} (hC : Cx x own cc nL ret h g z0) (hd : decode cc pc = .ok (.astore_n k, 1)) (hp : pc + 1 = pc') (hi : (k : Nat) = i) (hn : i < nL) (hl : (i, Value.ref v) :: lv.filter (fun q => !(q.1 == i) && !(q.1 + 1 == i && q.2.category == 2)) = lv') (k : GN x g z0 nL n1 n2 Q S w pc' lv' st) : GN x g z0 nL n1 n2 Q S w pc lv (.ref v :: st) := fun H locs ls hP hz hS hl0 => lv_astore_n hC.1 hC.2.1 hd hi hl0 hn hl (fun ls' hl' => hp ▸ k H locs ls' hP hz hS hl')
theorem q_iinc {pc' : Nat} {i j : Nat} {n : Int} {v u : Int32} (hC : Cx x own cc nL ret h g z0) (hd : decode cc pc = .ok (.iinc i n, 3)) (hp : pc + 3 = pc') (hj : lv[j]? = some (i, .int v)) (hv : v + Int32.ofInt n = u) (hn : i < nL) (hl : (i, Value.int u) :: lv.filter (fun q => !(q.1 == i) && !(q.1 + 1 == i && q.2.category == 2)) = lv') (k : GN x g z0 nL n1 n2 Q S w pc' lv' st) : GN x g z0 nL n1 n2 Q S w pc lv st := fun H locs ls hP hz hS hl0 => lv_iinc hC.1 hC.2.1 hd hl0 hj hv hn hl (fun ls' hl' => hp ▸ k H locs ls' hP hz hS hl')
theorem q_imul {pc' : Nat} {a b : Int32} (hC : Cx x own cc nL ret h g z0) (hd : decode cc pc = .ok (.imul, 1)) (hp : pc + 1 = pc')  (k : GN x g z0 nL n1 n2 Q S w pc' lv (.int (a * b) :: st)) : GN x g z0 nL n1 n2 Q S w pc lv (.int b :: .int a :: st) := fun H locs ls hP hz hS hl => lv_imul hC.1 hC.2.1 hd  (hp ▸ k H locs ls hP hz hS hl)
theorem qn_imul {pc' : Nat} {a b : Nat} (hC : Cx x own cc nL ret h g z0) (hd : decode cc pc = .ok (.imul, 1)) (hp : pc + 1 = pc')  (k : GN x g z0 nL n1 n2 Q S w pc' lv (.int (nI (a * b)) :: st)) : GN x g z0 nL n1 n2 Q S w pc lv (.int (nI b) :: .int (nI a) :: st) := q_imul hC hd hp (qq_topi (pk_mul a b) k)
theorem q_dup {pc' : Nat} {va : Value} (hC : Cx x own cc nL ret h g z0) (hd : decode cc pc = .ok (.dup, 1)) (hp : pc + 1 = pc') (hva : va.category = 1) (k : GN x g z0 nL n1 n2 Q S w pc' lv (va :: va :: st)) : GN x g z0 nL n1 n2 Q S w pc lv (va :: st) := fun H locs ls hP hz hS hl => lv_dup hC.1 hC.2.1 hd hva (hp ▸ k H locs ls hP hz hS hl)
theorem q_icmp_ge {pc' tgt : Nat} {off : Int} {a b : Int32} (hC : Cx x own cc nL ret h g z0) (hd : decode cc pc = .ok (.if_icmp .ge off, 3)) (ht : (pc : Int) + off = (tgt : Int)) (hp : pc + 3 = pc') (kt : b ≤ a → GN x g z0 nL n1 n2 Q S w tgt lv st) (kf : ¬ b ≤ a → GN x g z0 nL n1 n2 Q S w pc' lv st) : GN x g z0 nL n1 n2 Q S w pc lv (.int b :: .int a :: st) := fun H locs ls hP hz hS hl => lv_icmp_ge hC.1 hC.2.1 hd ht (fun q => kt q H locs ls hP hz hS hl) (fun q => hp ▸ kf q H locs ls hP hz hS hl)
theorem qn_icmp_ge {pc' tgt : Nat} {off : Int} {a b : Nat} (hC : Cx x own cc nL ret h g z0) (hd : decode cc pc = .ok (.if_icmp .ge off, 3)) (ht : (pc : Int) + off = (tgt : Int)) (hp : pc + 3 = pc') (ha : a < 2 ^ 31) (hb : b < 2 ^ 31) (kt : b ≤ a → GN x g z0 nL n1 n2 Q S w tgt lv st) (kf : a < b → GN x g z0 nL n1 n2 Q S w pc' lv st) : GN x g z0 nL n1 n2 Q S w pc lv (.int (nI b) :: .int (nI a) :: st) := q_icmp_ge hC hd ht hp (fun q => kt ((nI_leI hb ha).mp q)) (fun q => kf (Nat.not_le.mp (fun e => q ((nI_leI hb ha).mpr e))))
theorem q_goto {tgt : Nat} {off : Int} (hC : Cx x own cc nL ret h g z0) (hd : decode cc pc = .ok (.goto off, 3)) (ht : (pc : Int) + off = (tgt : Int)) (k : GN x g z0 nL n1 n2 Q S w tgt lv st) : GN x g z0 nL n1 n2 Q S w pc lv st := fun H locs ls hP hz hS hl => lv_goto hC.1 hC.2.1 hd ht (k H locs ls hP hz hS hl)
theorem qq_lv (k : GN x g z0 nL n1 n2 Q S w pc lv' st) (ks : List Nat) (hl : lv_pick lv ks = lv') : GN x g z0 nL n1 n2 Q S w pc lv st := fun H locs ls hP hz hS h => k H locs ls hP hz hS (lv_sub h ks hl)
theorem qq_lve (e : lv = lv') (k : GN x g z0 nL n1 n2 Q S w pc lv' st) : GN x g z0 nL n1 n2 Q S w pc lv st := e ▸ k
theorem qq_top {a b : Value} (e : a = b) (k : GN x g z0 nL n1 n2 Q S w pc lv (b :: st)) : GN x g z0 nL n1 n2 Q S w pc lv (a :: st) := e ▸ k
theorem qq_S {S' : Nat → va_E} {w' m1 m2 : Nat} (ew : w = w') (e1 : n1 = m1) (e2 : n2 = m2) (e : ∀ i, i < w → S i = S' i) (k : GN x g z0 nL m1 m2 Q S' w' pc lv st) : GN x g z0 nL n1 n2 Q S w pc lv st := by
  subst ew; subst e1; subst e2
  exact fun H locs ls hP hz hS hl => k H locs ls (by rw [← wz_ext e]; exact hP) hz hS hl
theorem us_comm {S : Nat → va_E} {a b : Nat} {e f : va_E} (h : a ≠ b) : us (us S a e) b f = us (us S b f) a e := by
  funext j
  unfold us
  by_cases h1 : j = a
  · by_cases h2 : j = b
    · exact absurd (h1.symm.trans h2) h
    · rw [if_neg h2, if_pos h1, if_pos h1]
  · rw [if_neg h1, if_neg h1]
theorem us_us {S : Nat → va_E} {a : Nat} {e f : va_E} : us (us S a e) a f = us S a f := by
  funext j
  unfold us
  by_cases h1 : j = a
  · rw [if_pos h1, if_pos h1]
  · rw [if_neg h1, if_neg h1, if_neg h1]
theorem us_in {S : Nat → va_E} {a b : Nat} {e f h : va_E} : us (us (us S a e) a f) b h = us (us S a f) b h := by rw [us_us]
theorem qq_Se {S' : Nat → va_E} (e : S = S') (k : GN x g z0 nL n1 n2 Q S' w pc lv st) : GN x g z0 nL n1 n2 Q S w pc lv st := e ▸ k
theorem q_obj {idx a pc' : Nat} (hC : Cx x own cc nL ret h g z0) (hh : 0 < h) (hw : WIn (.methodLink own idx Lib.objectInit)) (hr : (st.map fun v => v.category).sum ≤ 8) (hd : decode cc pc = .ok (.invokespecial idx, 3)) (hp : pc + 3 = pc') (k : GN x g z0 nL n1 n2 Q S w pc' lv st) : GN x g z0 nL n1 n2 Q S w pc lv (.ref a :: st) := fun H locs ls hP hz hS hl => by
  have hr2 : 40 * h ≤ x.2.2.2.1.locals := hC.2.2.2.2.2.2.1.2
  refine W.objInit hC.1 hC.2.1 hC.2.2.2.1 (wWIn hC hw) (wWIn hC w_oi_i) (wWIn hC w_oi_c) rfl (by rw [hC.2.2.1]; exact hl.1) rfl hd (Nat.le_trans hh hC.2.2.2.2.2.2.1.1) (by show 2 * 0 + _ + 12 ≤ x.2.2.2.1.locals; omega) ?_
  exact hp ▸ k H locs ls hP hz hS hl
theorem q_new {C : String} {T : u_T} {N ci idx pc' : Nat} {ty : Nat → FieldType} {fs : List Value} (hC : Cx x own cc nL ret h g z0) (hlay : ∀ w ∈ u_ws C T N, WIn w) (hc : vwCl[ci]? = some (C, T, N)) (hty : ∀ k, k < N → parseFieldDescriptor (T k).2.2.1 = some (ty k)) (hcl : WIn (.classLink own idx C)) (hinst : WIn (.instantiable C N)) (hini : WIn (.initialized C)) (hfs : ∀ j, j < N → defaultValue (ty j) = vp_V fs j) (hc1 : n1 + 1 ≤ x.2.2.2.1.cells) (hc2 : n2 + N ≤ x.2.2.2.1.slots) (hd : decode cc pc = .ok (.new idx, 3)) (hp : pc + 3 = pc') (k : GN x g z0 nL (n1 + 1) (n2 + N) Q (us S w (.inr (ci, fs))) (w + 1) pc' lv (.ref (z0 + w) :: st)) : GN x g z0 nL n1 n2 Q S w pc lv st := fun H locs ls hP hz hS hl => by
  have hKn := hC.2.2.2.2.2.2.2.1.1.1 ci _ hc
  refine W.newcK hC.1 hC.2.1 hC.2.2.2.1 (wWIn hC hcl) (wWIn hC hinst) (wWIn hC hini) rfl hd hc1 hc2 hKn.2.1 hz fun H1 kC hkC e1 z1 o1 => ?_
  have hk : ∀ (k : Nat) (y : Nat × va_E), (wz z0 S w)[k]? = some y → H1[y.1]? = H[y.1]? := fun k y hy => o1 y.1 (by rw [← hz]; exact (hP k y hy).lt)
  refine hp ▸ k H1 locs ls ?_ (by omega) ⟨by have := hS.1; omega, fun y h1 h2 => (o1 y (by have := hS.1; omega)).trans (hS.2.1 y h1 h2), hS.2.2⟩ hl
  rw [← wz_push]
  refine (hP.kept hk).app (fun k y hy => ?_)
  have hz9 : k < 1 := (List.getElem?_eq_some_iff.mp hy).1
  rw [show k = 0 by omega] at hy
  cases hy
  exact ⟨_, hc, (u_born (ws := u_ws C T N) ty (fun w hw => wWIn hC (hlay w hw)) (fun w hw => hw) hKn hkC e1 hty).to hfs⟩
theorem q_newa {atype : ArrayType} {ty : FieldType} {t N pc' : Nat} {a0 : vp_A} (hC : Cx x own cc nL ret h g z0) (hty : newarray.typeOf atype = ty) (hac : WIn (.arrayClass ty)) (hT : (tyG g)[t]? = some (g.2.2.2.1 t, ty)) (hra : ∀ c, va_RA x.2.2.2.2.1 c ty → x.2.2.2.2.1.vm.findClass ("[" ++ ty.toString) = some c) (ha : ∀ cA : ClassId, vp_cell cA a0 = arrV cA N (fun _ => defaultValue ty)) (hN : N < 2 ^ 31) (hb : N * componentBytes ty ≤ 536870912) (hc1 : n1 + 1 ≤ x.2.2.2.1.cells) (hc2 : n2 + N ≤ x.2.2.2.1.slots) (hd : decode cc pc = .ok (.newarray atype, 2)) (hp : pc + 2 = pc') (k : GN x g z0 nL (n1 + 1) (n2 + N) Q (us S w (.inl (g.2.2.2.1 t, a0))) (w + 1) pc' lv (.ref (z0 + w) :: st)) : GN x g z0 nL n1 n2 Q S w pc lv (.int (nI N) :: st) := fun H locs ls hP hz hS hl => by
  subst hty
  refine va_newaK hC.1 hC.2.1 (wWIn hC hac) rfl hd rfl (nI_pos hN) (nI_clamp hN) hb hc1 hc2 hz fun H1 cA e1 z1 o1 hAr hNm => ?_
  have hcA : cA = g.2.2.2.1 t := Option.some.inj (hNm.symm.trans (hra _ (hC.2.2.2.2.2.2.2.1.1.2 t _ hT).2))
  subst hcA
  have hk : ∀ (k : Nat) (y : Nat × va_E), (wz z0 S w)[k]? = some y → H1[y.1]? = H[y.1]? := fun k y hy => o1 y.1 (by rw [← hz]; exact (hP k y hy).lt)
  refine hp ▸ k H1 locs ls ?_ (by omega) ⟨by have := hS.1; omega, fun y h1 h2 => (o1 y (by have := hS.1; omega)).trans (hS.2.1 y h1 h2), hS.2.2⟩ hl
  rw [← wz_push]
  refine (hP.kept hk).app (fun k y hy => ?_)
  have hz9 : k < 1 := (List.getElem?_eq_some_iff.mp hy).1
  rw [show k = 0 by omega] at hy
  cases hy
  show H1[z0 + w]? = some (vp_cell _ _)
  rw [ha]
  exact e1
theorem q_newq {C : String} {idx t N pc' : Nat} (hC : Cx x own cc nL ret h g z0) (hcl : WIn (.classLink own idx C)) (hAO : va_AO C x.2.2.2.2.1) (hT : (tyG g)[t]? = some (g.2.2.2.1 t, .object C)) (hN : N < 2 ^ 31) (hb : N * 4 ≤ 536870912) (hc1 : n1 + 1 ≤ x.2.2.2.1.cells) (hc2 : n2 + N ≤ x.2.2.2.1.slots) (hd : decode cc pc = .ok (.anewarray idx, 3)) (hp : pc + 3 = pc') (k : GN x g z0 nL (n1 + 1) (n2 + N) Q (us S w (.inl (g.2.2.2.1 t, N, qA (fun _ => none)))) (w + 1) pc' lv (.ref (z0 + w) :: st)) : GN x g z0 nL n1 n2 Q S w pc lv (.int (nI N) :: st) := fun H locs ls hP hz hS hl => by
  have hcl2 := nI_clamp hN
  refine W.anew hC.1 hC.2.1 hC.2.2.2.1 (wWIn hC hcl) (va_AO.use hAO) rfl hd rfl (nI_pos hN) (by rw [hcl2]; exact hb) hc1 (by rw [hcl2]; exact hc2) fun cA kA comp f1 f2 f3 f4 => ?_
  rw [hcl2]
  generalize hH1 : H.push ({ cls := cA, slots := Array.replicate N .null, vm := .none } : Cell) = H1
  have z1 : H1.size = H.size + 1 := by rw [← hH1, Array.size_push]
  have e1 : H1[H.size]? = some (arrV cA N (fun _ => .null)) := by rw [← hH1, Array.getElem?_push_size, ← arrV_new]
  have o1 : ∀ q : Nat, q < H.size → H1[q]? = H[q]? := fun q hq => by rw [← hH1, Array.getElem?_push, if_neg (Nat.ne_of_lt hq)]
  obtain ⟨kA2, comp2, r1, r2, r3, r4⟩ := (hC.2.2.2.2.2.2.2.1.1.2 t _ hT).2
  have hcA : cA = g.2.2.2.1 t := Option.some.inj (f1.symm.trans r4)
  subst hcA
  have hk : ∀ (k : Nat) (y : Nat × va_E), (wz z0 S w)[k]? = some y → H1[y.1]? = H[y.1]? := fun k y hy => o1 y.1 ((hP k y hy).lt)
  rw [hz] at e1 z1 ⊢
  refine hp ▸ k H1 locs ls ?_ (by omega) ⟨by have := hS.1; omega, fun y h1 h2 => (o1 y (by have := hS.1; omega)).trans (hS.2.1 y h1 h2), hS.2.2⟩ hl
  rw [← wz_push]
  refine (hP.kept hk).app (fun k y hy => ?_)
  have hz9 : k < 1 := (List.getElem?_eq_some_iff.mp hy).1
  rw [show k = 0 by omega] at hy
  cases hy
  show H1[z0 + w]? = some (vp_cell _ _)
  rw [vp_cell_q]
  exact e1
theorem q_get {C : String} {T : u_T} {N ci idx i j pc' : Nat} {fs : List Value} {v : Value} (hC : Cx x own cc nL ret h g z0) (hlay : ∀ w ∈ u_ws C T N, WIn w) (hc : vwCl[ci]? = some (C, T, N)) (hw : WIn (.fieldLink own idx (T j).1 (T j).2.1 (T j).2.2.1)) (hi : i < w) (he : S i = .inr (ci, fs)) (hj : j < N) (hv : fs[j]? = some v) (hd : decode cc pc = .ok (.getfield idx, 3)) (hp : pc + 3 = pc') (kk : GN x g z0 nL n1 n2 Q S w pc' lv (v :: st)) : GN x g z0 nL n1 n2 Q S w pc lv (.ref (z0 + i) :: st) := fun H locs ls hP hz hS hl =>
  va_get hC.1 hC.2.1 (Ts := u_ws C T N) (fun w hw => wWIn hC (hlay w hw)) (fun w hw => hw) hC.2.2.2.1 hC.2.2.2.2.2.2.2.1.1 hP i (by rw [wz_get z0 S hi, he]) hc j hj (wWIn hC hw) (fun _ h9 => h9) hv hd (hp ▸ kk H locs ls hP hz hS hl)
theorem q_put {C : String} {T : u_T} {N ci idx i j pc' : Nat} {fs : List Value} {v : Value} {ty : FieldType} {ty0 : Nat → FieldType} (hC : Cx x own cc nL ret h g z0) (hin2 : x.2.2.2.2.2.2.2.2.1.name = "<init>") (hlay : ∀ w ∈ u_ws C T N, WIn w) (hc : vwCl[ci]? = some (C, T, N)) (hty : ∀ k, k < N → parseFieldDescriptor (T k).2.2.1 = some (ty0 k)) (hnm : ∀ a, a < N → ∀ b, b < N → a ≠ b → (T a).2.1 ≠ (T b).2.1) (hw : WIn (.fieldLink own idx (T j).1 (T j).2.1 (T j).2.2.1)) (hi : i < w) (he : S i = .inr (ci, fs)) (hj : j < N) (hfin : (T j).2.2.2 = false ∨ (T j).2.2.2 = true ∧ (T j).1 = own) (hdd : parseFieldDescriptor (T j).2.2.1 = some ty) (hnn : narrow ty v = v) (hfit : fits ty v = true) (hl9 : j < fs.length) (hd : decode cc pc = .ok (.putfield idx, 3)) (hp : pc + 3 = pc') (kk : GN x g z0 nL n1 n2 Q (us S i (.inr (ci, fs.set j v))) w pc' lv st) : GN x g z0 nL n1 n2 Q S w pc lv (v :: .ref (z0 + i) :: st) := fun H locs ls hP hz hS hl => by
  have hts : ∀ w ∈ u_ws C T N, w.before x.2.2.2.2.2.2.1 x.2.2.2.2.1 = true := fun w hw => wWIn hC (hlay w hw)
  have hK := hC.2.2.2.2.2.2.2.1.1
  have hown := hC.2.2.2.1
  have hap := va_apart (own := own) hts (fun w hw => hw) ty0 hty hnm hK hc
  have hei : (wz z0 S w)[i]? = some (z0 + i, .inr (ci, fs)) := by rw [wz_get z0 S hi, he]
  have hD := wz_D z0 S w
  obtain ⟨r, h1, cell, q1, q2, q3, q4⟩ := hP i _ hei
  have hr : r = (C, T, N) := Option.some.inj (h1.symm.trans hc)
  subst hr
  obtain ⟨hSl, hfc, kC, hkC, hkind⟩ := hK.1 ci _ hc
  obtain ⟨cf, kf, fi, f, hfi, hsl⟩ := hSl j hj
  have hlay2 := hts _ (u_in_lay hj)
  have hst := (u_facts hfc hkC (u_lays hts (fun w hw => hw) hj) hfi).1
  have fin : ∀ (H' : Heap) (locs1 : List Loc), va_P g.1 vwCl ((wz z0 S w).set i (z0 + i, .inr (ci, fs.set j v))) H' → H'.size = H.size → va_S (fun q => z0 ≤ q) x.2.2.2.2.1.heap H' locs1 → W x.1 x.2.1 x.2.2.1 x.2.2.2.1 x.2.2.2.2.1 x.2.2.2.2.2.1 x.2.2.2.2.2.2.1 x.2.2.2.2.2.2.2.1 x.2.2.2.2.2.2.2.2.1 x.2.2.2.2.2.2.2.2.2 H' locs1 n1 n2 Q (F0 x.2.2.2.2.2.1 (pc + 3) ls st) := fun H' locs1 a b c => hp ▸ kk H' locs1 ls (by rw [← wz_set hi]; exact a) (by rw [b]; exact hz) c hl
  unfold u_lay at hlay2
  rcases hfin with hfin | ⟨hfin, hdecl⟩
  · rw [if_neg (by rw [hfin]; decide)] at hlay2
    have h6 := u_store hfc hkC hkind hlay2 hfi hdd hnn hfit
    refine W.putK hC.1 hC.2.1 (f := f) ⟨hown, wWIn hC hw, ⟨_, _, _, hfi⟩, hst⟩ (by rw [q2]; exact h6) q1 q3 (by rw [hsl]; exact k2_hasslot (q4 j hj)) rfl rfl hd fun H' e1 e2 e3 => ?_
    rw [hsl] at e1 ⊢
    exact fin H' _ (hP.set hD hei ⟨_, hc, t_OB.to (V := updV (vp_V fs) j v) ⟨_, e1, q2, q3, t_set q4 hap hj v⟩ (fun k _ => vp_updV_set hl9 v k)⟩ e3) e2 (hS.put e2 e3 (hD.2 i _ hei))
  · rw [if_pos hfin] at hlay2
    have hcf : x.2.2.2.2.2.1.cls = cf := by
      obtain ⟨_, _, c', _, _, _, -, -, hf', -, -, -, hown2, -⟩ := Cond.laysFinal_spec hlay2
      have e1 : c' = cf := by have := hfi.symm.trans hf'; simp at this; exact this.1.symm
      rw [hdecl] at hown2
      rw [← e1]; exact Option.some.inj (hown.symm.trans hown2)
    have h6 := u_fits hfc hkC hkind (Or.inr hlay2) hfi hdd hnn hfit
    refine W.putFinK hC.1 hC.2.1 hown (wWIn hC hw) hfi hst hcf hin2 (by rw [q2]; exact h6) q1 q3 (by rw [hsl]; exact k2_hasslot (q4 j hj)) rfl rfl hd fun H' e1 e2 e3 => ?_
    rw [hsl] at e1 ⊢
    exact fin H' _ (hP.set hD hei ⟨_, hc, t_OB.to (V := updV (vp_V fs) j v) ⟨_, e1, q2, q3, t_set q4 hap hj v⟩ (fun k _ => vp_updV_set hl9 v k)⟩ e3) e2 (hS.put e2 e3 (hD.2 i _ hei))
theorem q_iast {i j N pc' : Nat} {f : Nat → Int32} {v : Int32} (hC : Cx x own cc nL ret h g z0) (hi : i < w) (he : S i = .inl (g.2.2.2.1 0, N, .inl f)) (hj : j < N) (hN : N < 2 ^ 31) (hd : decode cc pc = .ok (.iastore, 1)) (hp : pc + 1 = pc') (kk : GN x g z0 nL n1 n2 Q (us S i (.inl (g.2.2.2.1 0, N, .inl (upd f j v)))) w pc' lv st) : GN x g z0 nL n1 n2 Q S w pc lv (.int v :: .int (nI j) :: .ref (z0 + i) :: st) := fun H locs ls hP hz hS hl => by
  have hK := hC.2.2.2.2.2.2.2.1.1
  have hei : (wz z0 S w)[i]? = some (z0 + i, .inl (g.2.2.2.1 0, N, .inl f)) := by rw [wz_get z0 S hi, he]
  have hD := wz_D z0 S w
  have hT : (tyG g)[0]? = some (g.2.2.2.1 0, .int) := rfl
  refine W.iast hC.1 hC.2.1 (hP i _ hei) ((hK.2 0 _ hT).1 N (fun j => .int (f j))) (fun q => by cases q) (by show ¬ (nI j < 0 ∨ (arrV _ _ _).slots.size ≤ _); rw [arrV_size]; exact vp_in_nI hj hN) rfl rfl hd fun H1 e z oq => ?_
  rw [cl_nI hj hN] at e ⊢
  refine hp ▸ kk H1 _ ls ?_ (by rw [z]; exact hz) (hS.put z oq (hD.2 i _ hei)) hl
  rw [← wz_set hi]
  refine hP.set hD hei ?_ oq
  show H1[z0 + i]? = some (vp_cell _ _)
  rw [e, vp_cell_i, vp_cell_i, arrV_store]
  congr 2
  funext q
  by_cases hq : q = j
  · subst hq
    simp [updV, upd]
  · simp [updV, upd, hq]
theorem q_aast {i j N t k ci pc' : Nat} {r : vw_C} {vs : List Value} {f : Nat → Option Nat} (hC : Cx x own cc nL ret h g z0) (hi : i < w) (he : S i = .inl (g.2.2.2.1 t, N, qA f)) (hT : (tyG g)[t]? = some (g.2.2.2.1 t, .object r.1)) (hk : k < w) (hek : S k = .inr (ci, vs)) (hc : vwCl[ci]? = some r) (hj : j < N) (hN : N < 2 ^ 31) (hd : decode cc pc = .ok (.aastore, 1)) (hp : pc + 1 = pc') (kk : GN x g z0 nL n1 n2 Q (us S i (.inl (g.2.2.2.1 t, N, qA (va_up f j (some (z0 + k)))))) w pc' lv st) : GN x g z0 nL n1 n2 Q S w pc lv (.ref (z0 + k) :: .int (nI j) :: .ref (z0 + i) :: st) := fun H locs ls hP hz hS hl => by
  have hK := hC.2.2.2.2.2.2.2.1.1
  have hei : (wz z0 S w)[i]? = some (z0 + i, .inl (g.2.2.2.1 t, N, qA f)) := by rw [wz_get z0 S hi, he]
  have hek2 : (wz z0 S w)[k]? = some (z0 + k, .inr (ci, vs)) := by rw [wz_get z0 S hk, hek]
  have hD := wz_D z0 S w
  obtain ⟨r', hr', cellV, g1, g2, g3, -⟩ := hP k _ hek2
  have hcls := (hK.1 ci r hc).2
  obtain ⟨kA, comp, k1, k2, k3, -⟩ := (hK.2 t _ hT).2
  have hcomp : comp = g.1.1 ci := Option.some.inj (k3.symm.trans hcls.1)
  subst hcomp
  obtain ⟨kC, hkC, -⟩ := hcls.2
  refine W.aast hC.1 hC.2.1 (hP i _ hei) (fun q h => by cases h) (fun h => by cases h) k1 k2 rfl hkC ⟨nI_pos (by omega), by show _ < (arrV _ _ _).slots.size; rw [arrV_size, cl_nI hj hN]; exact hj⟩ g1 (fun q h => by rw [g3] at h; cases h) (by rw [g2]; exact hkC) (by rw [g2]; exact va_assign hcls) rfl rfl hd fun H1 e z oq => ?_
  rw [cl_nI hj hN] at e ⊢
  refine hp ▸ kk H1 _ ls ?_ (by rw [z]; exact hz) (hS.put z oq (hD.2 i _ hei)) hl
  rw [← wz_set hi]
  refine hP.set hD hei ?_ oq
  show H1[z0 + i]? = some (vp_cell _ _)
  rw [e, vp_cell_q, vp_cell_q, arrV_store]
  congr 2
  funext q
  by_cases hq : q = j
  · subst hq
    simp [updV, va_up, va_rf]
  · simp [updV, va_up, hq]
theorem q_gs {C n d : String} {v : Value} {idx pc' : Nat} (hC : Cx x own cc nL ret h g z0) (hZ : va_Z C n d v (fun q => z0 ≤ q) x.2.2.2.2.1 x.2.2.2.2.1.heap) (hw : WIn (.fieldLink own idx C n d)) (hd : decode cc pc = .ok (.getstatic idx, 3)) (hp : pc + 3 = pc') (k : GN x g z0 nL n1 n2 Q S w pc' lv (v :: st)) : GN x g z0 nL n1 n2 Q S w pc lv st := fun H locs ls hP hz hS hl => va_gets hC.1 hC.2.1 hZ hS hC.2.2.2.1 (wWIn hC hw) (fun _ e => e) hd (hp ▸ k H locs ls hP hz hS hl)
theorem q_max {a b idx pc' : Nat} (hC : Cx x own cc nL ret h g z0) (hw : WIn (.methodLink own idx Lib.Math.max.name)) (hh : 0 < h) (ha : a < 2 ^ 31) (hb : b < 2 ^ 31) (hr : (st.map fun v => v.category).sum ≤ 8) (hd : decode cc pc = .ok (.invokestatic idx, 3)) (hp : pc + 3 = pc') (hc1 : n1 ≤ x.2.2.2.1.cells) (hc2 : n2 ≤ x.2.2.2.1.slots) (kk : GN x g z0 nL n1 n2 Q S w pc' lv (.int (nI (max a b)) :: st)) : GN x g z0 nL n1 n2 Q S w pc lv (.int (nI b) :: .int (nI a) :: st) := fun H locs ls hP hz hS hl => by
  have hr2 : 40 * h ≤ x.2.2.2.1.locals := hC.2.2.2.2.2.2.1.2
  refine va_mmax hC.1 hC.2.1 (hC.2.2.1.trans hl.1.symm) hC.2.2.2.1 (wWIn hC hw) (wWIn hC w_st_max) (wWIn hC w_init_Math) (wWIn hC w_cd_max) (Nat.le_trans hh hC.2.2.2.2.2.2.1.1) (by show _ ≤ x.2.2.2.1.locals; omega) hc1 hc2 hd ?_
  have e : (if nI a < nI b then nI b else nI a) = nI (max a b) := by
    by_cases q : a < b
    · rw [if_pos (nI_lt q hb), Nat.max_eq_right (by omega)]
    · rw [if_neg (nI_nlt (by omega) ha), Nat.max_eq_left (by omega)]
  rw [e]
  exact hp ▸ kk H locs ls hP hz hS hl
theorem q_ret {S' : Nat → va_E} {n' : Nat} (hC : Cx x own cc nL none h g z0) (hd : decode cc pc = .ok (.return_, 1)) (hn : w = n') (e : ∀ i, i < w → S i = S' i) : GN x g z0 nL n1 n2 (QN x g z0 S' n' n1 n2) S w pc lv [] := fun H locs ls hP hz hS hl => by
  subst hn
  rw [wz_ext e] at hP
  exact W.vret hC.1 hC.2.1 hC.2.2.2.2.2.1 (fun t ht hW => ⟨⟨S', rfl, rfl, by show va_P _ _ _ t.heap; rw [ht]; exact hP, by rw [ht]; exact hz⟩, hS.F ht⟩) hS.2.2 hd hC.2.2.2.2.1
theorem blindN {av : List Value} {n : Nat} : FrameBlind (va_Pc av (WN g z0 S n)) := by
  intro a U g' mk q
  obtain ⟨q0, qP, qz, qK, qX⟩ := q
  exact ⟨q0, qP, qz, WK.moved (s := U) (U := U.calling g' mk a) (State.WarmedH.refl U) qK, qK.2.2.2.2.1 U (U.calling g' mk a) _ (State.WarmedH.refl U) qX⟩
theorem preN (hC : Cx x own cc nL ret h g z0) {H : Heap} {locs : List Loc} (hP : va_P g.1 vwCl (wz z0 S w) H) (hz : H.size = z0 + w) (hS : va_S (fun q => z0 ≤ q) x.2.2.2.2.1.heap H locs) : ∀ U : State, U.heap = H → x.2.2.2.2.1.WarmedH U.vm → WN g z0 S w U := by
  intro U hU hW
  obtain ⟨-, -, -, -, -, -, -, hK, hz0, hX⟩ := hC
  refine ⟨by rw [hU]; exact hP, by rw [hU]; exact hz, hK.moved hW, ?_⟩
  rw [hU]
  exact hK.2.2.2.2.1 _ U H hW (hK.2.2.2.2.2 _ _ H hX (fun a h1 h2 => hS.2.1 a h1 h2))
variable {y : MethodName} {cc' : ByteArray} {nL' h' idx n kc ks n' : Nat} {As : List Value} {S' : Nat → va_E}
theorem q_init {a pc' : Nat} {st0 : List Value} (hC : Cx x own cc nL ret h g z0) (hM : CN x.2.1 y cc' nL' h' kc ks g z0 (.ref a :: As) S w S' n') (hk : CalI y cc' nL' n) (hw : WIn (.methodLink own idx y)) (hh : h' < h) (hn : As.length = n) (hst : st0 = As.reverse ++ .ref a :: st) (hr : (st.map fun v => v.category).sum ≤ 8) (hd : decode cc pc = .ok (.invokespecial idx, 3)) (hp : pc + 3 = pc') (hc1 : n1 + kc ≤ x.2.2.2.1.cells) (hc2 : n2 + ks ≤ x.2.2.2.1.slots) (kk : GN x g z0 nL (n1 + kc) (n2 + ks) Q S' n' pc' lv st) : GN x g z0 nL n1 n2 Q S w pc lv st0 := fun H locs ls hP hz hS hl => by
  subst hst
  obtain ⟨k1, k2, k3, k4, k5, k6⟩ := hk
  obtain ⟨hr1, hr2⟩ := hC.2.2.2.2.2.2.1
  have cw : CallB x.2.2.2.1 x.2.2.2.2.1 x.2.2.2.2.2.2.1 own idx y cc' nL' none [.code y cc' nL' none] (rmN h' kc ks) kc ks n := by
    refine ⟨rfl, rfl, ?_, ?_, ?_, List.mem_cons_self, wWIn hC k3, wWIn hC k2, ⟨k4.1, k4.2.1⟩, ?_, wWIn hC hw⟩
    · show h' + 1 ≤ x.2.2.2.1.frames
      exact Nat.le_trans hh hr1
    · show 8 + (nL' + 11) + 40 * h' ≤ x.2.2.2.1.locals
      have : 40 * h ≤ x.2.2.2.1.locals := hr2
      omega
    · intro w hw a' U hW
      rw [List.mem_singleton.mp hw]
      exact word_at hW (good_of_word k3.2) (wWIn hC k3)
    · intro sig hs
      have h2 := k4.2.2
      rw [hs] at h2
      exact (Option.some.inj h2).symm
  exact va_callv (va_runI (Ts := []) ⟨hC.1, hC.2.1, hC.2.2.1, hC.2.2.2.1, fun w hw => absurd hw List.not_mem_nil⟩ hM ⟨cw, k6, wWIn hC k1⟩ ⟨blindN, fun U hU hW => ⟨rfl, preN hC hP hz hS U hU hW⟩⟩ rfl hn hl.1 rfl (by show 2 * 0 + _ ≤ 8; omega) hd ⟨hc1, hc2⟩) hS (fun q _ hq => hq) (fun q hq => hq) (fun u t H1 locs1 ht hvm hw' hB hz1 hk1 hS1 => hp ▸ kk H1 locs1 ls (by rw [← ht, ← hw']; exact hB.1) (by rw [← ht]; exact hB.2) hS1 hl)
theorem q_initN {a pc' : Nat} {host : String} {st0 : List Value} (hC : Cx x own cc nL ret h g z0) (hM : CN x.2.1 y cc' nL' h' kc ks g z0 (.ref a :: As) S w S' n') (hk : CalI y cc' nL' n) (hw : va_Nw (.methodLinkNest own idx y host) x.2.2.2.2.1) (hh : h' < h) (hn : As.length = n) (hst : st0 = As.reverse ++ .ref a :: st) (hr : (st.map fun v => v.category).sum ≤ 8) (hd : decode cc pc = .ok (.invokespecial idx, 3)) (hp : pc + 3 = pc') (hc1 : n1 + kc ≤ x.2.2.2.1.cells) (hc2 : n2 + ks ≤ x.2.2.2.1.slots) (kk : GN x g z0 nL (n1 + kc) (n2 + ks) Q S' n' pc' lv st) : GN x g z0 nL n1 n2 Q S w pc lv st0 := fun H locs ls hP hz hS hl => by
  subst hst
  obtain ⟨k1, k2, k3, k4, k5, k6⟩ := hk
  obtain ⟨hr1, hr2⟩ := hC.2.2.2.2.2.2.1
  have cw : va_CN x.2.2.2.1 x.2.2.2.2.1 x.2.2.2.2.2.2.1 own idx y host cc' nL' none [.code y cc' nL' none] (rmN h' kc ks) kc ks n := by
    refine ⟨⟨rfl, rfl, ?_, ?_, ?_, List.mem_cons_self⟩, wWIn hC k3, wWIn hC k2, ⟨k4.1, k4.2.1⟩, ?_, va_Nw.use rfl hw⟩
    · show h' + 1 ≤ x.2.2.2.1.frames
      exact Nat.le_trans hh hr1
    · show 8 + (nL' + 11) + 40 * h' ≤ x.2.2.2.1.locals
      have : 40 * h ≤ x.2.2.2.1.locals := hr2
      omega
    · intro w hw a' U hW
      rw [List.mem_singleton.mp hw]
      exact word_at hW (good_of_word k3.2) (wWIn hC k3)
    · intro sig hs
      have h2 := k4.2.2
      rw [hs] at h2
      exact (Option.some.inj h2).symm
  exact va_callv (va_runIN (Ts := []) ⟨hC.1, hC.2.1, hC.2.2.1, hC.2.2.2.1, fun w hw => absurd hw List.not_mem_nil⟩ hM ⟨cw, k6, wWIn hC k1⟩ ⟨blindN, fun U hU hW => ⟨rfl, preN hC hP hz hS U hU hW⟩⟩ rfl hn hl.1 rfl (by show 2 * 0 + _ ≤ 8; omega) hd ⟨hc1, hc2⟩) hS (fun q _ hq => hq) (fun q hq => hq) (fun u t H1 locs1 ht hvm hw' hB hz1 hk1 hS1 => hp ▸ kk H1 locs1 ls (by rw [← ht, ← hw']; exact hB.1) (by rw [← ht]; exact hB.2) hS1 hl)
end NROWS
