theorem wK_L_13 : WIn (.classLink RL 13 "java/lang/IllegalStateException") := win_at 397 (by decide +kernel) (by decide +kernel)
theorem wK_L_19 : WIn (.classLink RL 19 "java/lang/IllegalArgumentException") := win_at 476 (by decide +kernel) (by decide +kernel)
theorem wK_L_28 : WIn (.classLink RL 28 "java/util/NoSuchElementException") := win_at 893 (by decide +kernel) (by decide +kernel)
def CalH (y : MethodName) (cc : ByteArray) (nL : Nat) (hh : List (Nat × Nat × Nat × Nat)) (n : Nat) : Prop := WIn (.static y) ∧ WIn (.initialized y.cls) ∧ WIn (.codeWith y cc nL (some .int) hh) ∧ (y.cls ≠ "java/lang/invoke/MethodHandle" ∧ y.cls ≠ "java/lang/invoke/VarHandle" ∧ (parseMethodDescriptor y.desc).map (fun d => d.parameters.length) = some n) ∧ nL ≤ 21
abbrev hL_feed : List (Nat × Nat × Nat × Nat) := [(0, 16, 19, 13)]
theorem kh_feed : CalH yL_feed cL_feed 8 hL_feed 7 := ⟨win_at 395 (by decide +kernel) (by decide +kernel), win_at 57 (by decide +kernel) (by decide +kernel), win_at 396 (by decide +kernel) (by decide +kernel), ⟨by decide, by decide, by decide +kernel⟩, by decide⟩
abbrev hL_load : List (Nat × Nat × Nat × Nat) := [(0, 9, 12, 19), (0, 9, 15, 13)]
theorem kh_load : CalH yL_load cL_load 4 hL_load 3 := ⟨win_at 474 (by decide +kernel) (by decide +kernel), win_at 57 (by decide +kernel) (by decide +kernel), win_at 475 (by decide +kernel) (by decide +kernel), ⟨by decide, by decide, by decide +kernel⟩, by decide⟩
abbrev hL_run : List (Nat × Nat × Nat × Nat) := [(0, 9, 12, 19), (0, 9, 15, 13)]
theorem kh_run : CalH yL_run cL_run 4 hL_run 3 := ⟨win_at 652 (by decide +kernel) (by decide +kernel), win_at 57 (by decide +kernel) (by decide +kernel), win_at 653 (by decide +kernel) (by decide +kernel), ⟨by decide, by decide, by decide +kernel⟩, by decide⟩
abbrev hL_write : List (Nat × Nat × Nat × Nat) := [(0, 12, 15, 28), (0, 12, 19, 19), (0, 12, 23, 13)]
theorem kh_write : CalH yL_write cL_write 6 hL_write 5 := ⟨win_at 891 (by decide +kernel) (by decide +kernel), win_at 57 (by decide +kernel) (by decide +kernel), win_at 892 (by decide +kernel) (by decide +kernel), ⟨by decide, by decide, by decide +kernel⟩, by decide⟩
abbrev hL_read : List (Nat × Nat × Nat × Nat) := [(0, 10, 13, 28), (0, 10, 17, 13)]
theorem kh_read : CalH yL_read cL_read 5 hL_read 4 := ⟨win_at 920 (by decide +kernel) (by decide +kernel), win_at 57 (by decide +kernel) (by decide +kernel), win_at 921 (by decide +kernel) (by decide +kernel), ⟨by decide, by decide, by decide +kernel⟩, by decide⟩
abbrev hL_exchange : List (Nat × Nat × Nat × Nat) := [(0, 10, 13, 28)]
theorem kh_exchange : CalH yL_exchange cL_exchange 5 hL_exchange 4 := ⟨win_at 927 (by decide +kernel) (by decide +kernel), win_at 57 (by decide +kernel) (by decide +kernel), win_at 928 (by decide +kernel) (by decide +kernel), ⟨by decide, by decide, by decide +kernel⟩, by decide⟩
abbrev hL_post : List (Nat × Nat × Nat × Nat) := [(0, 9, 12, 28)]
theorem kh_post : CalH yL_post cL_post 4 hL_post 3 := ⟨win_at 934 (by decide +kernel) (by decide +kernel), win_at 57 (by decide +kernel) (by decide +kernel), win_at 935 (by decide +kernel) (by decide +kernel), ⟨by decide, by decide, by decide +kernel⟩, by decide⟩
abbrev hL_calm : List (Nat × Nat × Nat × Nat) := [(0, 16, 19, 28)]
theorem kh_calm : CalH yL_calm cL_calm 4 hL_calm 3 := ⟨win_at 941 (by decide +kernel) (by decide +kernel), win_at 57 (by decide +kernel) (by decide +kernel), win_at 942 (by decide +kernel) (by decide +kernel), ⟨by decide, by decide, by decide +kernel⟩, by decide⟩
abbrev hL_adopt : List (Nat × Nat × Nat × Nat) := [(0, 9, 12, 28)]
theorem kh_adopt : CalH yL_adopt cL_adopt 4 hL_adopt 3 := ⟨win_at 953 (by decide +kernel) (by decide +kernel), win_at 57 (by decide +kernel) (by decide +kernel), win_at 954 (by decide +kernel) (by decide +kernel), ⟨by decide, by decide, by decide +kernel⟩, by decide⟩
abbrev hL_fork : List (Nat × Nat × Nat × Nat) := [(0, 9, 12, 19), (0, 9, 15, 13)]
theorem kh_fork : CalH yL_fork cL_fork 4 hL_fork 3 := ⟨win_at 961 (by decide +kernel) (by decide +kernel), win_at 57 (by decide +kernel) (by decide +kernel), win_at 962 (by decide +kernel) (by decide +kernel), ⟨by decide, by decide, by decide +kernel⟩, by decide⟩
abbrev hL_move : List (Nat × Nat × Nat × Nat) := [(0, 10, 13, 28)]
theorem kh_move : CalH yL_move cL_move 5 hL_move 4 := ⟨win_at 968 (by decide +kernel) (by decide +kernel), win_at 57 (by decide +kernel) (by decide +kernel), win_at 969 (by decide +kernel) (by decide +kernel), ⟨by decide, by decide, by decide +kernel⟩, by decide⟩
abbrev hL_rewind : List (Nat × Nat × Nat × Nat) := [(0, 10, 13, 28), (0, 10, 17, 19)]
theorem kh_rewind : CalH yL_rewind cL_rewind 5 hL_rewind 4 := ⟨win_at 975 (by decide +kernel) (by decide +kernel), win_at 57 (by decide +kernel) (by decide +kernel), win_at 976 (by decide +kernel) (by decide +kernel), ⟨by decide, by decide, by decide +kernel⟩, by decide⟩
abbrev hL_corrupt : List (Nat × Nat × Nat × Nat) := [(0, 12, 15, 28), (0, 12, 19, 19), (0, 12, 23, 13)]
theorem kh_corrupt : CalH yL_corrupt cL_corrupt 6 hL_corrupt 5 := ⟨win_at 982 (by decide +kernel) (by decide +kernel), win_at 57 (by decide +kernel) (by decide +kernel), win_at 983 (by decide +kernel) (by decide +kernel), ⟨by decide, by decide, by decide +kernel⟩, by decide⟩
abbrev hL_heal : List (Nat × Nat × Nat × Nat) := [(0, 10, 13, 28), (0, 10, 17, 13)]
theorem kh_heal : CalH yL_heal cL_heal 5 hL_heal 4 := ⟨win_at 989 (by decide +kernel) (by decide +kernel), win_at 57 (by decide +kernel) (by decide +kernel), win_at 990 (by decide +kernel) (by decide +kernel), ⟨by decide, by decide, by decide +kernel⟩, by decide⟩
abbrev hL_length : List (Nat × Nat × Nat × Nat) := [(0, 9, 12, 28)]
theorem kh_length : CalH yL_length cL_length 4 hL_length 3 := ⟨win_at 996 (by decide +kernel) (by decide +kernel), win_at 57 (by decide +kernel) (by decide +kernel), win_at 997 (by decide +kernel) (by decide +kernel), ⟨by decide, by decide, by decide +kernel⟩, by decide⟩
abbrev hL_entry : List (Nat × Nat × Nat × Nat) := [(0, 12, 15, 28), (0, 12, 19, 19)]
theorem kh_entry : CalH yL_entry cL_entry 6 hL_entry 5 := ⟨win_at 1009 (by decide +kernel) (by decide +kernel), win_at 57 (by decide +kernel) (by decide +kernel), win_at 1010 (by decide +kernel) (by decide +kernel), ⟨by decide, by decide, by decide +kernel⟩, by decide⟩
abbrev hL_value : List (Nat × Nat × Nat × Nat) := [(0, 10, 13, 28)]
theorem kh_value : CalH yL_value cL_value 5 hL_value 4 := ⟨win_at 1027 (by decide +kernel) (by decide +kernel), win_at 57 (by decide +kernel) (by decide +kernel), win_at 1028 (by decide +kernel) (by decide +kernel), ⟨by decide, by decide, by decide +kernel⟩, by decide⟩
abbrev hL_branchOf : List (Nat × Nat × Nat × Nat) := [(0, 9, 12, 28)]
theorem kh_branchOf : CalH yL_branchOf cL_branchOf 4 hL_branchOf 3 := ⟨win_at 1037 (by decide +kernel) (by decide +kernel), win_at 57 (by decide +kernel) (by decide +kernel), win_at 1038 (by decide +kernel) (by decide +kernel), ⟨by decide, by decide, by decide +kernel⟩, by decide⟩
abbrev hL_commonLength : List (Nat × Nat × Nat × Nat) := [(0, 10, 13, 28)]
theorem kh_commonLength : CalH yL_commonLength cL_commonLength 5 hL_commonLength 4 := ⟨win_at 1044 (by decide +kernel) (by decide +kernel), win_at 57 (by decide +kernel) (by decide +kernel), win_at 1045 (by decide +kernel) (by decide +kernel), ⟨by decide, by decide, by decide +kernel⟩, by decide⟩
abbrev hL_conflicts : List (Nat × Nat × Nat × Nat) := [(0, 10, 13, 28)]
theorem kh_conflicts : CalH yL_conflicts cL_conflicts 5 hL_conflicts 4 := ⟨win_at 1052 (by decide +kernel) (by decide +kernel), win_at 57 (by decide +kernel) (by decide +kernel), win_at 1053 (by decide +kernel) (by decide +kernel), ⟨by decide, by decide, by decide +kernel⟩, by decide⟩
abbrev hL_receipt : List (Nat × Nat × Nat × Nat) := [(0, 10, 13, 28), (0, 10, 17, 19)]
theorem kh_receipt : CalH yL_receipt cL_receipt 5 hL_receipt 4 := ⟨win_at 1060 (by decide +kernel) (by decide +kernel), win_at 57 (by decide +kernel) (by decide +kernel), win_at 1061 (by decide +kernel) (by decide +kernel), ⟨by decide, by decide, by decide +kernel⟩, by decide⟩
abbrev hL_hashAt : List (Nat × Nat × Nat × Nat) := [(0, 10, 13, 28)]
theorem kh_hashAt : CalH yL_hashAt cL_hashAt 5 hL_hashAt 4 := ⟨win_at 1068 (by decide +kernel) (by decide +kernel), win_at 57 (by decide +kernel) (by decide +kernel), win_at 1069 (by decide +kernel) (by decide +kernel), ⟨by decide, by decide, by decide +kernel⟩, by decide⟩
abbrev hL_vector : List (Nat × Nat × Nat × Nat) := [(0, 10, 13, 28)]
theorem kh_vector : CalH yL_vector cL_vector 5 hL_vector 4 := ⟨win_at 1076 (by decide +kernel) (by decide +kernel), win_at 57 (by decide +kernel) (by decide +kernel), win_at 1077 (by decide +kernel) (by decide +kernel), ⟨by decide, by decide, by decide +kernel⟩, by decide⟩
abbrev hL_order : List (Nat × Nat × Nat × Nat) := [(0, 10, 13, 28)]
theorem kh_order : CalH yL_order cL_order 5 hL_order 4 := ⟨win_at 1083 (by decide +kernel) (by decide +kernel), win_at 57 (by decide +kernel) (by decide +kernel), win_at 1084 (by decide +kernel) (by decide +kernel), ⟨by decide, by decide, by decide +kernel⟩, by decide⟩
abbrev hL_isSuspicious : List (Nat × Nat × Nat × Nat) := [(0, 16, 19, 28)]
theorem kh_isSuspicious : CalH yL_isSuspicious cL_isSuspicious 4 hL_isSuspicious 3 := ⟨win_at 1094 (by decide +kernel) (by decide +kernel), win_at 57 (by decide +kernel) (by decide +kernel), win_at 1095 (by decide +kernel) (by decide +kernel), ⟨by decide, by decide, by decide +kernel⟩, by decide⟩
abbrev hL_wouldFind : List (Nat × Nat × Nat × Nat) := [(0, 9, 12, 28)]
theorem kh_wouldFind : CalH yL_wouldFind cL_wouldFind 4 hL_wouldFind 3 := ⟨win_at 1101 (by decide +kernel) (by decide +kernel), win_at 57 (by decide +kernel) (by decide +kernel), win_at 1102 (by decide +kernel) (by decide +kernel), ⟨by decide, by decide, by decide +kernel⟩, by decide⟩
abbrev hL_seenBy : List (Nat × Nat × Nat × Nat) := [(0, 9, 12, 28)]
theorem kh_seenBy : CalH yL_seenBy cL_seenBy 4 hL_seenBy 3 := ⟨win_at 1109 (by decide +kernel) (by decide +kernel), win_at 57 (by decide +kernel) (by decide +kernel), win_at 1110 (by decide +kernel) (by decide +kernel), ⟨by decide, by decide, by decide +kernel⟩, by decide⟩
abbrev hL_blame : List (Nat × Nat × Nat × Nat) := [(0, 10, 13, 28), (0, 10, 17, 19)]
theorem kh_blame : CalH yL_blame cL_blame 5 hL_blame 4 := ⟨win_at 1116 (by decide +kernel) (by decide +kernel), win_at 57 (by decide +kernel) (by decide +kernel), win_at 1117 (by decide +kernel) (by decide +kernel), ⟨by decide, by decide, by decide +kernel⟩, by decide⟩
abbrev hL_boardPost : List (Nat × Nat × Nat × Nat) := [(0, 10, 13, 28), (0, 10, 17, 19)]
theorem kh_boardPost : CalH yL_boardPost cL_boardPost 5 hL_boardPost 4 := ⟨win_at 1129 (by decide +kernel) (by decide +kernel), win_at 57 (by decide +kernel) (by decide +kernel), win_at 1130 (by decide +kernel) (by decide +kernel), ⟨by decide, by decide, by decide +kernel⟩, by decide⟩
abbrev hL_checkPost : List (Nat × Nat × Nat × Nat) := [(0, 10, 13, 28)]
theorem kh_checkPost : CalH yL_checkPost cL_checkPost 5 hL_checkPost 4 := ⟨win_at 1141 (by decide +kernel) (by decide +kernel), win_at 57 (by decide +kernel) (by decide +kernel), win_at 1142 (by decide +kernel) (by decide +kernel), ⟨by decide, by decide, by decide +kernel⟩, by decide⟩
def NW3 (U : State) : Prop := va_Nc exI exA U ∧ va_Nc exI exNo U ∧ va_Nc exA exNo U
def GX3 (g : Lay) : Prop := ∀ (U : State) (H : Heap), g.2.2.2.2 U H → NW3 U
/-- a helper's contract: it returns, whatever is thrown below it -/
def CH (l : Launch) (y : MethodName) (cc : ByteArray) (nL : Nat) (hh : List (Nat × Nat × Nat × Nat)) (h k : Nat) (g : Lay) (z0 : Nat) (av : List Value) (σ : St) (post : Int32 → St → Prop) : Prop :=
  Met l y [.codeWith y cc nL (some .int) hh] (rmX h k) (va_Pc av (WU g z0 σ)) (va_Qi post (Bw g) (fun q => z0 ≤ q)) k (6 * k) (fun q => z0 ≤ q)
def Qh (x : Ctx) (g : Lay) (z0 k : Nat) (post : Int32 → St → Prop) : State → Prop := MQ x.2.2.2.2.2.2.2.1 (va_Qi post (Bw g) (fun q => z0 ≤ q)) x.2.2.2.2.2.2.1 x.2.2.2.2.1 k (6 * k) (fun q => z0 ≤ q)
def Cz (x : Ctx) (h k : Nat) (hh : List (Nat × Nat × Nat × Nat)) : Prop := x.2.2.2.1 = rmX h k ∧ x.2.2.2.2.2.2.2.2.2.exceptionTable.toList = tableOf hh
theorem Cz.c {x : Ctx} {h k n : Nat} {hh : List (Nat × Nat × Nat × Nat)} (hY : Cz x h k hh) (hn : n ≤ k) : n ≤ x.2.2.2.1.cells := by rw [hY.1]; exact hn
theorem Cz.s {x : Ctx} {h k n : Nat} {hh : List (Nat × Nat × Nat × Nat)} (hY : Cz x h k hh) (hn : n ≤ 6 * k) : n ≤ x.2.2.2.1.slots := by rw [hY.1]; exact hn
theorem CH.of {l : Launch} {y : MethodName} {cc : ByteArray} {nL : Nat} {hh : List (Nat × Nat × Nat × Nat)} {h k : Nat} {g : Lay} {z0 : Nat} {av : List Value} {σ : St} {post : Int32 → St → Prop} (hy : plainName y.cls = true) (hn : (lg_sl av).length ≤ nL)
    (body : ∀ x : Ctx, x.2.1 = l → Cx x y.cls cc nL (some .int) h g z0 → Cz x h k hh → GG x g z0 nL 0 0 (Qh x g z0 k post) σ 0 (lv_args 0 av) []) : CH l y cc nL hh h k g z0 av σ post := by
  unfold CH
  refine MetFree.of_bodyS (code := cc) (maxLocals := nL) (ret := some .int) hy ?_ ?_
  · intro args s m hb hn
    obtain ⟨m9, meth, c, hn9, h1, h2, h3, h4, -, h5, h6, -⟩ := Cond.codeWith_spec (atoms_spec (ws := [.codeWith y cc nL (some .int) hh]) hb _ List.mem_cons_self)
    cases Option.some.inj (hn9.symm.trans hn)
    exact ⟨meth, c, h1, h2, h3, h4, h5, h6⟩
  · intro p e s m args below meth c s₁ B hml hv _
    have hh0 : s₁.heap = s.heap := by rw [B.state]; rfl
    have htab : c.exceptionTable.toList = tableOf hh := vx_table (x := y) B (atoms_spec (ws := [.codeWith y cc nL (some .int) hh]) B.pre _ List.mem_cons_self)
    obtain ⟨rfl, hP, hK, hz, hX⟩ := hv
    have hown : s.vm.findClass y.cls = some m.cls := findClass_of_methodNamed B.named
    have hl2 := lv_entry av (n := nL) hn
    have hW := body (p, l, e, rmX h k, s, m, av.toArray, below, meth, c) rfl ⟨B.exec, B.bytes, hml, hown, B.notSynchronized, B.returns, ⟨Nat.le_refl _, Nat.le_refl _⟩, hK, hz, hX⟩ ⟨rfl, htab⟩ s.heap [] _ hP va_S.rf hl2
    rw [← lg_entry_eq] at hW
    obtain ⟨t, a1, o, b1, b2, b3⟩ := hW s₁ hh0 (Stand.of_body B)
    exact ⟨t, o, a1, b1, b2, ⟨b3.1, b3.2⟩⟩
section HROWS
variable {x : Ctx} {g : Lay} {z0 nL n1 n2 h k : Nat} {Q : State → Prop} {σ : St} {pc : Nat} {lv lv' : List (Nat × Value)} {st st0 : List Value} {own : String} {cc : ByteArray} {ret : Option FieldType} {hh : List (Nat × Nat × Nat × Nat)}
theorem gg_widen {m1 m2 : Nat} (h1 : n1 ≤ m1) (h2 : n2 ≤ m2) (kk : GG x g z0 nL m1 m2 Q σ pc lv st) : GG x g z0 nL n1 n2 Q σ pc lv st := fun H locs ls hP hS hl => W.widen h1 h2 (kk H locs ls hP hS hl)
theorem gh_ret {post : Int32 → St → Prop} {v : Int32} (hC : Cx x own cc nL (some .int) h g z0) (h1 : n1 ≤ k) (h2 : n2 ≤ 6 * k) (hd : decode cc pc = .ok (.ireturn, 1)) (hpost : post v σ) : GG x g z0 nL n1 n2 (Qh x g z0 k post) σ pc lv [.int v] := fun H locs ls hP hS hl =>
  W.widen h1 h2 (W.zret hC.1 hC.2.1 hC.2.2.2.2.2.1 rfl (fun t ht hW => ⟨⟨v, σ, rfl, hpost, by show va_P _ _ _ t.heap; rw [ht]; exact hP⟩, hS.F ht⟩) hS.2.2 hd hC.2.2.2.2.1)
theorem a_ldl {pc' : Nat} (hC : Cx x own cc nL ret h g z0) (hd : decode cc pc = .ok (.laload, 1)) (hp : pc + 1 = pc') (kk : GG x g z0 nL n1 n2 Q σ pc' lv (.long (σ.2.2 33 0) :: st)) : GG x g z0 nL n1 n2 Q σ pc lv (.int (nI 0) :: .ref (g.2.1 33) :: st) := fun H locs ls hP hS hl =>
  va_lald hC.1 hC.2.1 hC.2.2.2.2.2.2.2.1.1 hP 33 3 (by rw [wl_get g σ (by decide), ct_33]) rfl (vp_in_nI (by decide) (by decide)) hd (by rw [cl_nI (n := 1) (by decide) (by decide)]; exact hp ▸ kk H locs ls hP hS hl)
theorem a_stl {pc' : Nat} {v : Int64} (hC : Cx x own cc nL ret h g z0) (hd : decode cc pc = .ok (.lastore, 1)) (hp : pc + 1 = pc') (kk : GG x g z0 nL n1 n2 Q (ul σ 33 0 v) pc' lv st) : GG x g z0 nL n1 n2 Q σ pc lv (.long v :: .int (nI 0) :: .ref (g.2.1 33) :: st) := fun H locs ls hP hS hl =>
  va_last hC.1 hC.2.1 hC.2.2.2.2.2.2.2.1.1 hP (wl_D hC.2.2.2.2.2.2.2.1 σ) hS 33 3 (by rw [wl_get g σ (by decide), ct_33]) rfl (vp_in_nI (by decide) (by decide)) hd (fun H1 locs1 hP1 hD1 hS1 => hp ▸ kk H1 locs1 ls (by
    have e : (.inl (g.2.2.2.1 3, 1, .inr (.inl (vp_updL (σ.2.2 33) 0 v))) : va_E) = ct g (ul σ 33 0 v) 33 := by
      rw [ct_33, ul_row]
      rfl
    rw [cl_nI (n := 1) (by decide) (by decide)] at hP1
    rw [← wl_set g σ (ul σ 33 0 v) (by decide) (fun j hj => ct_ul g σ 33 0 v hj), ← e]
    exact hP1) hS1 hl)
/-- where an exception E is caught -/
def HCa (x : Ctx) (own : String) (hh : List (Nat × Nat × Nat × Nat)) (pc : Nat) (E : String) (tgt : Nat) : Prop := ∃ (pre : List ExceptionTableEntry) (ent : ExceptionTableEntry) (suf : List ExceptionTableEntry) (nm : String), tableOf hh = pre ++ ent :: suf ∧ (∀ z ∈ pre, covers z pc = false ∨ (z.catchType ≠ 0 ∧ ∃ nm : String, WIn (.classLink own z.catchType nm) ∧ va_Nc E nm x.2.2.2.2.1)) ∧ covers ent pc = true ∧ ent.catchType ≠ 0 ∧ WIn (.classLink own ent.catchType nm) ∧ va_Nw (.castable E nm) x.2.2.2.2.1 ∧ ent.handlerPc = tgt
variable {y : MethodName} {cc' : ByteArray} {nL' h' idx n k' : Nat} {ret' : Option FieldType} {As : List Value}
theorem hx_Vi {pc' : Nat} {w : Option String} {R : Int32} {S : St} {kr ci : Nat} {fs : List Value} {r9 : vw_C} (hC : Cx x own cc nL ret h g z0) (hY : Cz x h k hh) (hM : CXi x.2.1 y cc' nL' ret' h' k' g z0 (.ref (g.2.1 kr) :: As) σ (FXi w R S) (FXx w S)) (hk : CalV y cc' nL' ret' n) (hw : WIn (.methodLink own idx y)) (hh9 : h' < h) (hkN : kr < NC) (he : ct g σ kr = .inr (ci, fs)) (hcl : vwCl[ci]? = some r9) (hrc : r9.1 = y.cls) (hn : As.length = n) (hst : st0 = As.reverse ++ .ref (g.2.1 kr) :: st) (hr : (st.map fun v => v.category).sum ≤ 8) (hd : decode cc pc = .ok (.invokevirtual idx, 3)) (hp : pc + 3 = pc') (hn1 : n1 + k' ≤ k) (hn2 : n2 + 6 * k' ≤ 6 * k) (kx : ∀ E : String, w = some E → ∃ tgt, HCa x own hh pc E tgt ∧ ∀ q : Nat, GG x g z0 nL (n1 + k') (n2 + 6 * k') Q S tgt lv [.ref q]) (kk : w = none → GG x g z0 nL (n1 + k') (n2 + 6 * k') Q S pc' lv (.int R :: st)) : GG x g z0 nL n1 n2 Q σ pc lv st0 := fun H locs ls hP hS hl => vx_calli (vx_runV (Ts := []) ⟨hC.1, hC.2.1, hC.2.2.1, hC.2.2.2.1, fun w hw => absurd hw List.not_mem_nil⟩ hM (cbVX hC hk hw hh9) ⟨blindW, hrc ▸ recvW hC hkN he hcl hP, fun U hU hW => ⟨rfl, preW hC hP hS U hU hW⟩⟩ rfl hn hl.1 hst (by show 2 * 0 + _ ≤ 8; omega) hd ⟨hY.c hn1, hY.s hn2⟩) hS (fun q _ hq => hq) (fun q hq => hq) (fun q _ hq => hq) (fun E ce q9 u t H1 locs1 ht hvm hpu hB hz1 hk1 hS1 hq hcv hcls => by
    obtain ⟨e1, e2⟩ := hpu
    obtain ⟨b1, b2⟩ := hB
    obtain ⟨tgt, ⟨pre, ent, suf, nm, t1, t2, t3, t4, t5, t6, t7⟩, kg⟩ := kx E (b1 ▸ e1)
    refine vx_catch hC.2.2.2.1 pre ent suf (hY.2.trans t1) (fun z hz => (t2 z hz).imp id (fun ⟨a, nm, b, c⟩ => ⟨a, nm, wWIn hC b, c⟩)) t3 t4 (wWIn hC t5) (va_Nw.use rfl t6) hq hcv hcls ?_
    rw [t7]
    exact kg q9 H1 locs1 ls (by rw [← e2, ← ht]; exact b2) hS1 hl) (fun r σ' t H1 locs1 ht hvm hw' hB hz1 hk1 hS1 => by obtain ⟨e0, e1, e2⟩ := hw'; subst e1; subst e2; exact hp ▸ kk e0 H1 locs1 ls (ht ▸ hB) hS1 hl)
/-- a call of a helper -/
theorem f_H {pc' : Nat} {R : Int32} {S : St} {hh' : List (Nat × Nat × Nat × Nat)} (hC : Cx x own cc nL ret h g z0) (hM : CH x.2.1 y cc' nL' hh' h' k' g z0 As σ (FI R S)) (hk : CalH y cc' nL' hh' n) (hw : WIn (.methodLink own idx y)) (hh9 : h' < h) (hn : As.length = n) (hst : st0 = As.reverse ++ st) (hr : (st.map fun v => v.category).sum ≤ 8) (hd : decode cc pc = .ok (.invokestatic idx, 3)) (hp : pc + 3 = pc') (hc1 : n1 + k' ≤ x.2.2.2.1.cells) (hc2 : n2 + 6 * k' ≤ x.2.2.2.1.slots) (kk : GG x g z0 nL (n1 + k') (n2 + 6 * k') Q S pc' lv (.int R :: st)) : GG x g z0 nL n1 n2 Q σ pc lv st0 := fun H locs ls hP hS hl => by
  obtain ⟨k1, k2, k3, k4, k5⟩ := hk
  obtain ⟨hr1, hr2⟩ := hC.2.2.2.2.2.2.1
  have cw : vx_CSW x.2.2.2.1 x.2.2.2.2.1 x.2.2.2.2.2.2.1 own idx y cc' nL' (some .int) hh' [.codeWith y cc' nL' (some .int) hh'] (rmX h' k') k' (6 * k') n := by
    refine ⟨⟨rfl, rfl, ?_, ?_, ?_, List.mem_cons_self⟩, wWIn hC k3, wWIn hC k2, ⟨k4.1, k4.2.1⟩, ?_, wWIn hC hw, wWIn hC k1⟩
    · show h' + 1 ≤ x.2.2.2.1.frames
      exact Nat.le_trans hh9 hr1
    · show 8 + (nL' + 11) + 40 * h' ≤ x.2.2.2.1.locals
      have : 40 * h ≤ x.2.2.2.1.locals := hr2
      omega
    · intro w hw a' U hW
      rw [List.mem_singleton.mp hw]
      exact word_at hW (good_of_word k3.2) (wWIn hC k3)
    · intro sig hs
      have h2 := k4.2.2
      rw [hs] at h2
      exact (Option.some.inj h2).symm
  exact va_calli (vx_runSW (Ts := []) ⟨hC.1, hC.2.1, hC.2.2.1, hC.2.2.2.1, fun w hw => absurd hw List.not_mem_nil⟩ hM cw ⟨blindW, fun U hU hW => ⟨rfl, preW hC hP hS U hU hW⟩⟩ rfl hn hl.1 hst (by show 2 * 0 + _ ≤ 8; omega) hd ⟨hc1, hc2⟩) hS (fun q _ hq => hq) (fun q hq => hq) (fun r σ' t H1 locs1 ht hvm hw' hB hz1 hk1 hS1 => by obtain ⟨e1, e2⟩ := hw'; subst e1; subst e2; exact hp ▸ kk H1 locs1 ls (ht ▸ hB) hS1 hl)
end HROWS
def kof1 (w : Option String) : Int32 := if w = none then nI 0 else nI 1
def kof2 (a : String) (w : Option String) : Int32 := if w = none then nI 0 else if w = some a then nI 1 else nI 2
def kof3 (a b : String) (w : Option String) : Int32 := if w = none then nI 0 else if w = some a then nI 1 else if w = some b then nI 2 else nI 3
