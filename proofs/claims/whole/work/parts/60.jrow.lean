theorem wM_X8_83 : WIn (.methodLink RX8 83 yJ0_length_8abf5) := win_at 542 (by decide +kernel) (by decide +kernel)
theorem wM_J0_335 : WIn (.methodLink RJ0 335 yJ0_coder_7d493) := win_at 546 (by decide +kernel) (by decide +kernel)
theorem wF_J0_38 : WIn (.fieldLink RJ0 38 "java/lang/String" "COMPACT_STRINGS" "Z") := win_at 550 (by decide +kernel) (by decide +kernel)
theorem wM_X8_89 : WIn (.methodLink RX8 89 yJ0_charAt_5068e) := win_at 552 (by decide +kernel) (by decide +kernel)
theorem wM_J0_492 : WIn (.methodLink RJ0 492 yJ0_isLatin1_aae02) := win_at 556 (by decide +kernel) (by decide +kernel)
theorem wM_J0_495 : WIn (.methodLink RJ0 495 yJ1_charAt_3b067) := win_at 560 (by decide +kernel) (by decide +kernel)
theorem wM_J1_9 : WIn (.methodLink RJ1 9 yJ0_checkIndex_df160) := win_at 563 (by decide +kernel) (by decide +kernel)
theorem wF_J0_1053 : WIn (.fieldLink RJ0 1053 "jdk/internal/util/Preconditions" "SIOOBE_FORMATTER" "Ljava/util/function/BiFunction;") := win_at 566 (by decide +kernel) (by decide +kernel)
theorem wM_J0_1059 : WIn (.methodLink RJ0 1059 yJ3_checkIndex_8e157) := win_at 568 (by decide +kernel) (by decide +kernel)
theorem wM_X5_143 : WIn (.methodLink RX5 143 yJ0_length_8abf5) := win_at 679 (by decide +kernel) (by decide +kernel)
theorem wM_X5_149 : WIn (.methodLink RX5 149 yJ0_charAt_5068e) := win_at 680 (by decide +kernel) (by decide +kernel)
theorem wF_J0_9 : WIn (.fieldLink RJ0 9 "java/lang/String" "value" "[B") := win_at 1713 (by decide +kernel) (by decide +kernel)
theorem wF_J0_15 : WIn (.fieldLink RJ0 15 "java/lang/String" "coder" "B") := win_at 1714 (by decide +kernel) (by decide +kernel)
theorem wF_Jx29ce0_7 : WIn (.fieldLink RJx29ce0 7 "java/lang/Enum" "ordinal" "I") := win_at 1717 (by decide +kernel) (by decide +kernel)
theorem k_J0_length_8abf5 : CalV yJ0_length_8abf5 cJ0_length_8abf5 1 (some .int) 0 := ⟨win_at 543 (by decide +kernel) (by decide +kernel), win_at 544 (by decide +kernel) (by decide +kernel), win_at 75 (by decide +kernel) (by decide +kernel), win_at 545 (by decide +kernel) (by decide +kernel), ⟨by decide, by decide, by decide +kernel⟩, by decide⟩
theorem k_J0_charAt_5068e : CalV yJ0_charAt_5068e cJ0_charAt_5068e 2 (some .char) 1 := ⟨win_at 553 (by decide +kernel) (by decide +kernel), win_at 554 (by decide +kernel) (by decide +kernel), win_at 75 (by decide +kernel) (by decide +kernel), win_at 555 (by decide +kernel) (by decide +kernel), ⟨by decide, by decide, by decide +kernel⟩, by decide⟩
theorem k_J0_coder_7d493 : CalV yJ0_coder_7d493 cJ0_coder_7d493 1 (some .byte) 0 := ⟨win_at 547 (by decide +kernel) (by decide +kernel), win_at 548 (by decide +kernel) (by decide +kernel), win_at 75 (by decide +kernel) (by decide +kernel), win_at 549 (by decide +kernel) (by decide +kernel), ⟨by decide, by decide, by decide +kernel⟩, by decide⟩
theorem k_J0_isLatin1_aae02 : CalV yJ0_isLatin1_aae02 cJ0_isLatin1_aae02 1 (some .boolean) 0 := ⟨win_at 557 (by decide +kernel) (by decide +kernel), win_at 558 (by decide +kernel) (by decide +kernel), win_at 75 (by decide +kernel) (by decide +kernel), win_at 559 (by decide +kernel) (by decide +kernel), ⟨by decide, by decide, by decide +kernel⟩, by decide⟩
theorem k_J0_checkIndex_df160 : CalS yJ0_checkIndex_df160 cJ0_checkIndex_df160 2 none 2 := ⟨win_at 564 (by decide +kernel) (by decide +kernel), win_at 75 (by decide +kernel) (by decide +kernel), win_at 565 (by decide +kernel) (by decide +kernel), ⟨by decide, by decide, by decide +kernel⟩, by decide⟩
theorem k_J1_charAt_3b067 : CalS yJ1_charAt_3b067 cJ1_charAt_3b067 2 (some .char) 2 := ⟨win_at 561 (by decide +kernel) (by decide +kernel), win_at 76 (by decide +kernel) (by decide +kernel), win_at 562 (by decide +kernel) (by decide +kernel), ⟨by decide, by decide, by decide +kernel⟩, by decide⟩
theorem k_J3_checkIndex_8e157 : CalS yJ3_checkIndex_8e157 cJ3_checkIndex_8e157 3 (some .int) 3 := ⟨win_at 569 (by decide +kernel) (by decide +kernel), win_at 77 (by decide +kernel) (by decide +kernel), win_at 570 (by decide +kernel) (by decide +kernel), ⟨by decide, by decide, by decide +kernel⟩, by decide⟩
theorem w_ord_s : WIn (.selects RX3 ⟨RX3, "ordinal", "()I"⟩ yJx29ce0_ordinal_8abf5) := win_at 702 (by decide +kernel) (by decide +kernel)
theorem w_ord_i : WIn (.instanceMethod yJx29ce0_ordinal_8abf5) := win_at 703 (by decide +kernel) (by decide +kernel)
theorem w_ord_c : WIn (.code yJx29ce0_ordinal_8abf5 cJx29ce0_ordinal_8abf5 1 (some .int)) := win_at 704 (by decide +kernel) (by decide +kernel)
theorem w_ord_n : WIn (.initialized RJx29ce0) := win_at 62 (by decide +kernel) (by decide +kernel)
theorem w_ord_m : WIn (.sameMethod RX3 RJx29ce0 "ordinal" "()I") := win_at 700 (by decide +kernel) (by decide +kernel)
theorem wM_X9_116 : WIn (.methodLink RX9 116 ⟨RX3, "ordinal", "()I"⟩) := win_at 699 (by decide +kernel) (by decide +kernel)
section JROW
variable {x : Ctx} {g : Lay} {z0 nL n1 n2 h : Nat} {Q : State → Prop} {σ S : St} {pc : Nat} {lv lv' : List (Nat × Value)} {st st0 : List Value} {own : String} {cc : ByteArray} {ret : Option FieldType} {KA : KAd}
variable {y : MethodName} {cc' : ByteArray} {nL' h' idx n : Nat} {ret' : Option FieldType} {As : List Value}
theorem f_Ki {pc' i : Nat} {R : Int32} (hC : Cx x own cc nL ret h g z0) (hK : GK g z0 KA) (hi : i < 22) (hM : CTi x.2.1 y cc' nL' ret' h' g z0 (.ref (KA.1 i) :: As) σ (FI R S)) (hk : CalV y cc' nL' ret' n) (hy : y.cls = "java/lang/String") (hw : WIn (.methodLink own idx y)) (hh : h' < h) (hn : As.length = n) (hst : st0 = As.reverse ++ .ref (KA.1 i) :: st) (hr : (st.map fun v => v.category).sum ≤ 8) (hd : decode cc pc = .ok (.invokevirtual idx, 3)) (hp : pc + 3 = pc') (hc1 : n1 ≤ x.2.2.2.1.cells) (hc2 : n2 ≤ x.2.2.2.1.slots) (kk : GG x g z0 nL n1 n2 Q S pc' lv (.int R :: st)) : GG x g z0 nL n1 n2 Q σ pc lv st0 := hst ▸ fun H locs ls hP hS hl => va_calli (va_runV (Ts := []) ⟨hC.1, hC.2.1, hC.2.2.1, hC.2.2.2.1, fun w hw => absurd hw List.not_mem_nil⟩ hM (cbV hC hk hw hh) ⟨blindW, hy ▸ vk_recv (hK.at hC).2.1 hi hS, fun U hU hW => ⟨rfl, preW hC hP hS U hU hW⟩⟩ rfl hn hl.1 rfl (by show 2 * 0 + _ ≤ 8; omega) hd ⟨hc1, hc2⟩) hS (fun q _ hq => hq) (fun q hq => hq) (fun r σ' t H1 locs1 ht hvm hw' hB hz1 hk1 hS1 => by obtain ⟨e1, e2⟩ := hw'; subst e1; subst e2; exact hp ▸ kk H1 locs1 ls (ht ▸ hB) hS1 hl)
theorem cbU (hC : Cx x RX9 cc nL ret h g z0) (hh : h' < h) : va_CU x.2.2.2.1 x.2.2.2.2.1 x.2.2.2.2.2.2.1 RX9 RX3 RJx29ce0 116 ⟨RX3, "ordinal", "()I"⟩ yJx29ce0_ordinal_8abf5 cJx29ce0_ordinal_8abf5 1 (some .int) [.code yJx29ce0_ordinal_8abf5 cJx29ce0_ordinal_8abf5 1 (some .int)] (rmH h') 0 0 0 := by
  obtain ⟨hr1, hr2⟩ := hC.2.2.2.2.2.2.1
  refine ⟨⟨rfl, rfl, ?_, ?_, ?_, List.mem_cons_self⟩, wWIn hC w_ord_c, wWIn hC w_ord_n, ⟨by decide, by decide⟩, ?_, wWIn hC wM_X9_116, wWIn hC w_ord_m, va_Decl.of (wWIn hC w_ord_i) (wWIn hC w_ord_c), wWIn hC w_ord_s, wWIn hC w_ord_i⟩
  · show h' + 1 ≤ x.2.2.2.1.frames
    exact Nat.le_trans hh hr1
  · show 8 + (1 + 11) + 40 * h' ≤ x.2.2.2.1.locals
    have : 40 * h ≤ x.2.2.2.1.locals := hr2
    omega
  · intro w hw a' U hW
    rw [List.mem_singleton.mp hw]
    exact word_at hW (good_of_word w_ord_c.2) (wWIn hC w_ord_c)
  · intro sig hs
    have h2 : (parseMethodDescriptor "()I").map (fun d => d.parameters.length) = some 0 := by decide +kernel
    rw [show parseMethodDescriptor "()I" = some sig from hs] at h2
    exact (Option.some.inj h2).symm
theorem f_Oi {pc' i : Nat} {R : Int32} (hC : Cx x RX9 cc nL ret h g z0) (hK : GK g z0 KA) (hi : i < 16) (hM : CTi x.2.1 yJx29ce0_ordinal_8abf5 cJx29ce0_ordinal_8abf5 1 (some .int) h' g z0 [.ref (g.2.2.1 i)] σ (FI R S)) (hh : h' < h) (hr : (st.map fun v => v.category).sum ≤ 8) (hd : decode cc pc = .ok (.invokevirtual 116, 3)) (hp : pc + 3 = pc') (hc1 : n1 ≤ x.2.2.2.1.cells) (hc2 : n2 ≤ x.2.2.2.1.slots) (kk : GG x g z0 nL n1 n2 Q S pc' lv (.int R :: st)) : GG x g z0 nL n1 n2 Q σ pc lv (.ref (g.2.2.1 i) :: st) := fun H locs ls hP hS hl => va_calli (va_runU (Ts := []) (As := []) ⟨hC.1, hC.2.1, hC.2.2.1, hC.2.2.2.1, fun w hw => absurd hw List.not_mem_nil⟩ hM (cbU hC hh) ⟨blindW, va_recvE (hK.at hC).1 hi hS, fun U hU hW => ⟨rfl, preW hC hP hS U hU hW⟩⟩ rfl rfl hl.1 rfl (by show 2 * 0 + _ ≤ 8; omega) hd ⟨hc1, hc2⟩) hS (fun q _ hq => hq) (fun q hq => hq) (fun r σ' t H1 locs1 ht hvm hw' hB hz1 hk1 hS1 => by obtain ⟨e1, e2⟩ := hw'; subst e1; subst e2; exact hp ▸ kk H1 locs1 ls (ht ▸ hB) hS1 hl)
theorem g_i2c {pc' : Nat} {a : Int32} (hC : Cx x own cc nL ret h g z0) (hd : decode cc pc = .ok (.i2c, 1)) (hp : pc + 1 = pc') (k : GG x g z0 nL n1 n2 Q σ pc' lv (.int ((a.toUInt32 % 65536).toInt32) :: st)) : GG x g z0 nL n1 n2 Q σ pc lv (.int a :: st) := fun H locs ls hP hS hl => lv_i2c hC.1 hC.2.1 hd rfl (hp ▸ k H locs ls hP hS hl)
theorem uq_same (σ : St) (k j : Nat) (v : Option Nat) : (uq σ k j v).2.1 k j = v := by simp [uq, u2]
theorem uq_idx (σ : St) (k a : Nat) {j b : Nat} (v : Option Nat) (h : b ≠ j) : (uq σ k j v).2.1 a b = σ.2.1 a b := by simp [uq, u2, h]
theorem uq_cell (σ : St) {k a : Nat} (j b : Nat) (v : Option Nat) (h : a ≠ k) : (uq σ k j v).2.1 a b = σ.2.1 a b := by simp [uq, u2, h]
theorem uq_c (σ : St) (k j : Nat) (v : Option Nat) (a b : Nat) : (uq σ k j v).1 a b = σ.1 a b := rfl
theorem uq_1 (σ : St) (k j : Nat) (v : Option Nat) : (uq σ k j v).1 = σ.1 := rfl
theorem uv_q (σ : St) (k j : Nat) (v : Int32) : (uv σ k j v).2.1 = σ.2.1 := rfl
theorem rd_uq (σ : St) (k j : Nat) (v : Option Nat) (a b : Nat) : rd (uq σ k j v) a b = rd σ a b := rfl
end JROW
