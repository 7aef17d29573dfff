/-! the enum Kind, its texts, the statics that the parser reads -/
abbrev KAd : Type := (Nat → Nat) × (Nat → Nat) × Nat × Nat
def kNm : List String := ["END", "WRONG", "SEMICOLON", "NUMBER", "CLIENTS", "BLOCKS", "WITNESS", "WRITES", "READS", "FORK", "MOVE", "REWIND", "CORRUPT", "EXCHANGE", "POST", "HEAL"]
def kOS : List Int32 := [0, 0, 0, 0, 0, 0, 0, 0, 0, 1, 1, 1, 1, 1, 1, 1]
def kOr : List Int32 := [0, 1, 2, 3, 4, 5, 6, 7, 8, 9, 10, 11, 12, 13, 14, 15]
def kF : List (String × String × String × List Int32) := [("java/lang/Enum", "ordinal", "I", kOr), ("ForkWatch$Kind", "opensStep", "Z", kOS)]
def kEn : List Nat := [83, 90, 94, 97, 100, 103, 105, 108, 110, 113, 115, 118, 120, 123, 125, 128, 130, 133, 135, 138, 141, 143]
def kLen : List Nat := [0, 1, 7, 6, 7, 6, 3, 5, 2, 4, 1, 4, 2, 6, 2, 7, 3, 8, 2, 4, 4, 2]
def kByt : List (List Int32) := [[], [59], [99, 108, 105, 101, 110, 116, 115], [98, 108, 111, 99, 107, 115], [119, 105, 116, 110, 101, 115, 115], [119, 114, 105, 116, 101, 115], [99, 107, 118], [114, 101, 97, 100, 115], [99, 107], [102, 111, 114, 107], [99], [109, 111, 118, 101], [99, 98], [114, 101, 119, 105, 110, 100], [98, 110], [99, 111, 114, 114, 117, 112, 116], [98, 110, 118], [101, 120, 99, 104, 97, 110, 103, 101], [99, 99], [112, 111, 115, 116], [104, 101, 97, 108], [98, 98]]
def kSp : List Nat := [0, 0, 1, 0, 2, 3, 4, 5, 7, 9, 11, 13, 15, 17, 19, 20]
def kOp : List Nat := [0, 0, 0, 0, 0, 0, 0, 6, 8, 10, 12, 14, 16, 18, 10, 21]
def kSm : List Int32 := [0, 0, 0, 0, 0, 0, 0, 1, 2, 3, 4, 5, 6, 7, 8, 9]
def KX (z0 : Nat) (ad : Nat → Nat) (a : KAd) (U : State) (H : Heap) : Prop :=
  va_En "ForkWatch$Kind" "LForkWatch$Kind;" kNm kF ad (fun q => z0 ≤ q) U H ∧
  vk_S 22 kLen kByt a.1 a.2.1 (fun q => z0 ≤ q) U H ∧
  va_Ef 16 "ForkWatch$Kind" "spelling" "Ljava/lang/String;" (fun i => .ref (a.1 (kSp.getD i 0))) ad (fun q => z0 ≤ q) U H ∧
  va_Ef 16 "ForkWatch$Kind" "operands" "Ljava/lang/String;" (fun i => .ref (a.1 (kOp.getD i 0))) ad (fun q => z0 ≤ q) U H ∧
  (va_Z "ForkWatch$Kind" "ALL" "[LForkWatch$Kind;" (.ref a.2.2.1) (fun q => z0 ≤ q) U H ∧ va_T (.object "ForkWatch$Kind") a.2.2.1 16 (fun j => .ref (ad j)) (fun q => z0 ≤ q) U H) ∧
  (va_Z "ForkWatch$1" "$SwitchMap$ForkWatch$Kind" "[I" (.ref a.2.2.2) (fun q => z0 ≤ q) U H ∧ va_T .int a.2.2.2 16 (fun j => .int (kSm.getD j 0)) (fun q => z0 ≤ q) U H) ∧
  va_Z "java/lang/String" "COMPACT_STRINGS" "Z" (.int 1) (fun q => z0 ≤ q) U H ∧
  (∃ r, va_Z "jdk/internal/util/Preconditions" "SIOOBE_FORMATTER" "Ljava/util/function/BiFunction;" (va_rf r) (fun q => z0 ≤ q) U H) ∧
  va_Nw (.fieldLinkNest RX8 72 "ForkWatch$Kind" "ALL" "[LForkWatch$Kind;" "ForkWatch") U
def GK (g : Lay) (z0 : Nat) (a : KAd) : Prop := ∀ (U : State) (H : Heap), g.2.2.2.2 U H → KX z0 g.2.2.1 a U H
section KROW
variable {x : Ctx} {g : Lay} {z0 nL n1 n2 h : Nat} {Q : State → Prop} {σ : St} {pc : Nat} {lv lv' : List (Nat × Value)} {st : List Value} {own : String} {cc : ByteArray} {ret : Option FieldType} {KA : KAd}
theorem GK.at (hK : GK g z0 KA) (hC : Cx x own cc nL ret h g z0) : KX z0 g.2.2.1 KA x.2.2.2.2.1 x.2.2.2.2.1.heap := hK _ _ hC.2.2.2.2.2.2.2.2.2
theorem GK.inj (hK : GK g z0 KA) (hC : Cx x own cc nL ret h g z0) {i j : Nat} (hi : i < 16) (hj : j < 16) (e : g.2.2.1 i = g.2.2.1 j) : i = j := (hK.at hC).1.2 i j hi hj e
theorem g_gs {C n d : String} {v : Value} {idx pc' : Nat} (hC : Cx x own cc nL ret h g z0) (hZ : va_Z C n d v (fun q => z0 ≤ q) x.2.2.2.2.1 x.2.2.2.2.1.heap) (hw : WIn (.fieldLink own idx C n d)) (hd : decode cc pc = .ok (.getstatic idx, 3)) (hp : pc + 3 = pc') (k : GG x g z0 nL n1 n2 Q σ pc' lv (v :: st)) : GG x g z0 nL n1 n2 Q σ pc lv st := fun H locs ls hP hS hl => va_gets hC.1 hC.2.1 hZ hS hC.2.2.2.1 (wWIn hC hw) (fun _ e => e) hd (hp ▸ k H locs ls hP hS hl)
theorem g_gsE {n : String} {i idx pc' : Nat} (hC : Cx x own cc nL ret h g z0) (hK : GK g z0 KA) (hi : i < 16) (hn : kNm.getD i "" = n) (hw : WIn (.fieldLink own idx "ForkWatch$Kind" n "LForkWatch$Kind;")) (hd : decode cc pc = .ok (.getstatic idx, 3)) (hp : pc + 3 = pc') (k : GG x g z0 nL n1 n2 Q σ pc' lv (.ref (g.2.2.1 i) :: st)) : GG x g z0 nL n1 n2 Q σ pc lv st := g_gs hC (hn ▸ ((hK.at hC).1.1 i hi).1) hw hd hp k
theorem g_gsA {pc' : Nat} (hC : Cx x RX8 cc nL ret h g z0) (hK : GK g z0 KA) (hd : decode cc pc = .ok (.getstatic 72, 3)) (hp : pc + 3 = pc') (k : GG x g z0 nL n1 n2 Q σ pc' lv (.ref KA.2.2.1 :: st)) : GG x g z0 nL n1 n2 Q σ pc lv st := fun H locs ls hP hS hl => va_getsN hC.1 hC.2.1 (hK.at hC).2.2.2.2.1.1 hS hC.2.2.2.1 (va_Nw.use rfl (hK.at hC).2.2.2.2.2.2.2.2) (fun _ e => e) hd (hp ▸ k H locs ls hP hS hl)
theorem g_tlen {ty : FieldType} {t N pc' : Nat} {f : Nat → Value} (hC : Cx x own cc nL ret h g z0) (hT : va_T ty t N f (fun q => z0 ≤ q) x.2.2.2.2.1 x.2.2.2.2.1.heap) (hd : decode cc pc = .ok (.arraylength, 1)) (hp : pc + 1 = pc') (k : GG x g z0 nL n1 n2 Q σ pc' lv (.int (nI N) :: st)) : GG x g z0 nL n1 n2 Q σ pc lv (.ref t :: st) := fun H locs ls hP hS hl => va_tlen hC.1 hC.2.1 hT hS rfl hd (hp ▸ k H locs ls hP hS hl)
theorem g_tq {i pc' : Nat} (hC : Cx x own cc nL ret h g z0) (hK : GK g z0 KA) (hi : i < 16) (hd : decode cc pc = .ok (.aaload, 1)) (hp : pc + 1 = pc') (k : GG x g z0 nL n1 n2 Q σ pc' lv (.ref (g.2.2.1 i) :: st)) : GG x g z0 nL n1 n2 Q σ pc lv (.int (nI i) :: .ref KA.2.2.1 :: st) := fun H locs ls hP hS hl => vb_tq hC.1 hC.2.1 (hK.at hC).2.2.2.2.1.2 hS (vp_in_nI hi (by decide)) (v := .ref (g.2.2.1 i)) (by rw [nI_clamp (by omega)]) hd (hp ▸ k H locs ls hP hS hl)
theorem g_tsm {i pc' : Nat} (hC : Cx x own cc nL ret h g z0) (hK : GK g z0 KA) (hi : i < 16) (hd : decode cc pc = .ok (.iaload, 1)) (hp : pc + 1 = pc') (k : GG x g z0 nL n1 n2 Q σ pc' lv (.int (kSm.getD i 0) :: st)) : GG x g z0 nL n1 n2 Q σ pc lv (.int (nI i) :: .ref KA.2.2.2 :: st) := fun H locs ls hP hS hl => va_ti hC.1 hC.2.1 (hK.at hC).2.2.2.2.2.1.2 hS (vp_in_nI hi (by decide)) (v := .int (kSm.getD i 0)) (by rw [nI_clamp (by omega)]) hd (hp ▸ k H locs ls hP hS hl)
theorem g_tby {s i pc' : Nat} (hC : Cx x own cc nL ret h g z0) (hK : GK g z0 KA) (hs : s < 22) (hi : i < kLen.getD s 0) (hl2 : kLen.getD s 0 < 2 ^ 31) (hd : decode cc pc = .ok (.baload, 1)) (hp : pc + 1 = pc') (k : GG x g z0 nL n1 n2 Q σ pc' lv (.int ((kByt.getD s []).getD i 0) :: st)) : GG x g z0 nL n1 n2 Q σ pc lv (.int (nI i) :: .ref (KA.2.1 s) :: st) := fun H locs ls hP hS hl => va_tb hC.1 hC.2.1 ((hK.at hC).2.1.1 s hs).2.2.2 hS (vp_in_nI hi hl2) (v := .int ((kByt.getD s []).getD i 0)) (by rw [nI_clamp (by omega)]) hd (hp ▸ k H locs ls hP hS hl)
theorem g_gfo {o n d ref : String} {v : Value} {q idx pc' : Nat} (hC : Cx x own cc nL ret h g z0) (hE : va_OF o n d v q (fun q => z0 ≤ q) x.2.2.2.2.1 x.2.2.2.2.1.heap) (ho : o = ref) (hw : WIn (.fieldLink own idx ref n d)) (hd : decode cc pc = .ok (.getfield idx, 3)) (hp : pc + 3 = pc') (k : GG x g z0 nL n1 n2 Q σ pc' lv (v :: st)) : GG x g z0 nL n1 n2 Q σ pc lv (.ref q :: st) := fun H locs ls hP hS hl => vk_getf hC.1 hC.2.1 hE hS hC.2.2.2.1 (wWIn hC hw) (fun _ e => ho ▸ e) hd (hp ▸ k H locs ls hP hS hl)
theorem g_gSp {i idx pc' : Nat} (hC : Cx x own cc nL ret h g z0) (hK : GK g z0 KA) (hi : i < 16) (hw : WIn (.fieldLink own idx "ForkWatch$Kind" "spelling" "Ljava/lang/String;")) (hd : decode cc pc = .ok (.getfield idx, 3)) (hp : pc + 3 = pc') (k : GG x g z0 nL n1 n2 Q σ pc' lv (.ref (KA.1 (kSp.getD i 0)) :: st)) : GG x g z0 nL n1 n2 Q σ pc lv (.ref (g.2.2.1 i) :: st) := g_gfo hC ((hK.at hC).2.2.1 i hi) rfl hw hd hp k
theorem g_gOp {i idx pc' : Nat} (hC : Cx x own cc nL ret h g z0) (hK : GK g z0 KA) (hi : i < 16) (hw : WIn (.fieldLink own idx "ForkWatch$Kind" "operands" "Ljava/lang/String;")) (hd : decode cc pc = .ok (.getfield idx, 3)) (hp : pc + 3 = pc') (k : GG x g z0 nL n1 n2 Q σ pc' lv (.ref (KA.1 (kOp.getD i 0)) :: st)) : GG x g z0 nL n1 n2 Q σ pc lv (.ref (g.2.2.1 i) :: st) := g_gfo hC ((hK.at hC).2.2.2.1 i hi) rfl hw hd hp k
theorem g_gOS {i idx pc' : Nat} (hC : Cx x own cc nL ret h g z0) (hK : GK g z0 KA) (hi : i < 16) (hw : WIn (.fieldLink own idx "ForkWatch$Kind" "opensStep" "Z")) (hd : decode cc pc = .ok (.getfield idx, 3)) (hp : pc + 3 = pc') (k : GG x g z0 nL n1 n2 Q σ pc' lv (.int (kOS.getD i 0) :: st)) : GG x g z0 nL n1 n2 Q σ pc lv (.ref (g.2.2.1 i) :: st) := g_gfo hC (((hK.at hC).1.1 i hi).2.2 _ (List.mem_cons_of_mem _ List.mem_cons_self)) rfl hw hd hp k
theorem g_gOr {i idx pc' : Nat} (hC : Cx x own cc nL ret h g z0) (hK : GK g z0 KA) (hi : i < 16) (hw : WIn (.fieldLink own idx "java/lang/Enum" "ordinal" "I")) (hd : decode cc pc = .ok (.getfield idx, 3)) (hp : pc + 3 = pc') (k : GG x g z0 nL n1 n2 Q σ pc' lv (.int (kOr.getD i 0) :: st)) : GG x g z0 nL n1 n2 Q σ pc lv (.ref (g.2.2.1 i) :: st) := g_gfo hC (((hK.at hC).1.1 i hi).2.2 _ List.mem_cons_self) rfl hw hd hp k
theorem g_gVa {i idx pc' : Nat} (hC : Cx x own cc nL ret h g z0) (hK : GK g z0 KA) (hi : i < 22) (hw : WIn (.fieldLink own idx "java/lang/String" "value" "[B")) (hd : decode cc pc = .ok (.getfield idx, 3)) (hp : pc + 3 = pc') (k : GG x g z0 nL n1 n2 Q σ pc' lv (.ref (KA.2.1 i) :: st)) : GG x g z0 nL n1 n2 Q σ pc lv (.ref (KA.1 i) :: st) := g_gfo hC (((hK.at hC).2.1.1 i hi).2.2.1) rfl hw hd hp k
theorem g_gCo {i idx pc' : Nat} (hC : Cx x own cc nL ret h g z0) (hK : GK g z0 KA) (hi : i < 22) (hw : WIn (.fieldLink own idx "java/lang/String" "coder" "B")) (hd : decode cc pc = .ok (.getfield idx, 3)) (hp : pc + 3 = pc') (k : GG x g z0 nL n1 n2 Q σ pc' lv (.int (nI 0) :: st)) : GG x g z0 nL n1 n2 Q σ pc lv (.ref (KA.1 i) :: st) := g_gfo hC (((hK.at hC).2.1.1 i hi).2.1) rfl hw hd hp k
theorem e_acmp_eq {a b pc' tgt : Nat} {off : Int} (hC : Cx x own cc nL ret h g z0) (hK : GK g z0 KA) (ha : a < 16) (hb : b < 16) (hd : decode cc pc = .ok (.if_acmp .eq off, 3)) (ht : (pc : Int) + off = (tgt : Int)) (hp : pc + 3 = pc') (kt : a = b → GG x g z0 nL n1 n2 Q σ tgt lv st) (kf : ¬ a = b → GG x g z0 nL n1 n2 Q σ pc' lv st) : GG x g z0 nL n1 n2 Q σ pc lv (.ref (g.2.2.1 b) :: .ref (g.2.2.1 a) :: st) := fun H locs ls hP hS hl => lv_acmp_eq (rx := some (g.2.2.1 a)) (ry := some (g.2.2.1 b)) hC.1 hC.2.1 hd ht (fun e => kt (hK.inj hC ha hb (Option.some.inj e)) H locs ls hP hS hl) (fun e => hp ▸ kf (fun q => e (by rw [q])) H locs ls hP hS hl)
theorem e_acmp_ne {a b pc' tgt : Nat} {off : Int} (hC : Cx x own cc nL ret h g z0) (hK : GK g z0 KA) (ha : a < 16) (hb : b < 16) (hd : decode cc pc = .ok (.if_acmp .ne off, 3)) (ht : (pc : Int) + off = (tgt : Int)) (hp : pc + 3 = pc') (kt : ¬ a = b → GG x g z0 nL n1 n2 Q σ tgt lv st) (kf : a = b → GG x g z0 nL n1 n2 Q σ pc' lv st) : GG x g z0 nL n1 n2 Q σ pc lv (.ref (g.2.2.1 b) :: .ref (g.2.2.1 a) :: st) := fun H locs ls hP hS hl => lv_acmp_ne (rx := some (g.2.2.1 a)) (ry := some (g.2.2.1 b)) hC.1 hC.2.1 hd ht (fun e => kt (fun q => e (by rw [q])) H locs ls hP hS hl) (fun e => hp ▸ kf (hK.inj hC ha hb (Option.some.inj e)) H locs ls hP hS hl)
theorem e_ifnn {a pc' tgt : Nat} {off : Int} (hC : Cx x own cc nL ret h g z0) (hd : decode cc pc = .ok (.ifnonnull off, 3)) (ht : (pc : Int) + off = (tgt : Int)) (k : GG x g z0 nL n1 n2 Q σ tgt lv st) : GG x g z0 nL n1 n2 Q σ pc lv (.ref a :: st) := fun H locs ls hP hS hl => lv_ifnonnull hC.1 hC.2.1 hd ht (k H locs ls hP hS hl)
theorem e_ldK {i k0 pc' : Nat} (hC : Cx x own cc nL ret h g z0) (hi : i < 901) (hk : σ.2.1 4 i = some k0) (hd : decode cc pc = .ok (.aaload, 1)) (hp : pc + 1 = pc') (k : GG x g z0 nL n1 n2 Q σ pc' lv (.ref (g.2.2.1 k0) :: st)) : GG x g z0 nL n1 n2 Q σ pc lv (.int (nI i) :: .ref (g.2.1 4) :: st) := fun H locs ls hP hS hl =>
  va_aldq hC.1 hC.2.1 hC.2.2.2.2.2.2.2.1.1 hP 4 4 (by rw [wl_get g σ (by decide), ct_4]) rfl (vp_in_nI hi (by decide)) hd (by rw [nI_clamp (by omega), hk]; exact hp ▸ k H locs ls hP hS hl)
theorem e_any (hC : Cx x own cc nL ret h g z0) (hK : GK g z0 KA) {i : Nat} (hi : i < 16) {H : Heap} {locs : List Loc} (hS : va_S (fun q => z0 ≤ q) x.2.2.2.2.1.heap H locs) : va_Any "ForkWatch$Kind" x.2.2.2.2.1 H (g.2.2.1 i) := by
  obtain ⟨cell, h1, h2, h3⟩ := va_recvE (hK.at hC).1 hi hS
  obtain ⟨kC, hkC, -⟩ := Vm.findClass_spec h3
  refine ⟨cell, h1, h2, ⟨kC, hkC⟩, fun comp hc => ?_⟩
  cases h3.symm.trans hc
  exact va_asg _ _
theorem e_stK {i k0 pc' : Nat} (hC : Cx x own cc nL ret h g z0) (hK : GK g z0 KA) (hi : i < 901) (hk : k0 < 16) (hd : decode cc pc = .ok (.aastore, 1)) (hp : pc + 1 = pc') (k : GG x g z0 nL n1 n2 Q (uq σ 4 i (some k0)) pc' lv st) : GG x g z0 nL n1 n2 Q σ pc lv (.ref (g.2.2.1 k0) :: .int (nI i) :: .ref (g.2.1 4) :: st) := fun H locs ls hP hS hl =>
  va_astqM hC.1 hC.2.1 hC.2.2.2.2.2.2.2.1.1 hP (wl_D hC.2.2.2.2.2.2.2.1 σ) hS 4 4 (by rw [wl_get g σ (by decide), ct_4]) rfl (e_any hC hK hk hS) (vp_in_nI hi (by decide)) hd (fun H1 locs1 hP1 hD1 hS1 => hp ▸ k H1 locs1 ls (by
    have e : (.inl (g.2.2.2.1 4, 901, qA (va_up (fun j => (σ.2.1 4 j).map g.2.2.1) i (some (g.2.2.1 k0)))) : va_E) = ct g (uq σ 4 i (some k0)) 4 := by
      rw [ct_4]
      have e2 : va_up (fun j => (σ.2.1 4 j).map g.2.2.1) i (some (g.2.2.1 k0)) = fun j => ((uq σ 4 i (some k0)).2.1 4 j).map g.2.2.1 := by
        funext j
        rw [uq_row]
        unfold va_up
        by_cases q : j = i
        · simp [q]
        · simp [q]
      rw [e2]
    rw [nI_clamp (by omega), e, wl_set g σ _ (by decide) (fun j hj => ct_uq g σ 4 i (some k0) hj)] at hP1
    exact hP1) hS1 hl)
theorem e_ret {post : Option Nat → St → Prop} {i : Nat} {C : String} (hC : Cx x own cc nL (some (.object C)) h g z0) (hd : decode cc pc = .ok (.areturn, 1)) (hpost : post (some i) σ) : GG x g z0 nL 0 0 (Qe x g z0 post) σ pc lv [.ref (g.2.2.1 i)] := fun H locs ls hP hS hl =>
  W.aret hC.1 hC.2.1 hC.2.2.2.2.2.1 (Or.inl ⟨C, rfl⟩) (Or.inr ⟨_, rfl⟩) (fun t ht hW => ⟨⟨some i, σ, rfl, hpost, by show va_P _ _ _ t.heap; rw [ht]; exact hP⟩, hS.F ht⟩) hS.2.2 hd hC.2.2.2.2.1
end KROW
