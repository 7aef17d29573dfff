theorem uv_ap (σ : St) (k j : Nat) (v : Int32) (a b : Nat) : (uv σ k j v).1 a b = if a = k ∧ b = j then v else σ.1 a b := by
  by_cases h1 : a = k
  · subst h1
    by_cases h2 : b = j
    · subst h2; rw [uv_same]; simp
    · rw [uv_idx _ _ _ _ h2]; simp [h2]
  · rw [uv_cell _ _ _ _ h1]; simp [h1]
theorem ur_ap (σ : St) (k : Nat) (f : Nat → Int32) (a b : Nat) : (ur σ k f).1 a b = if a = k then f b else σ.1 a b := by
  by_cases h : a = k
  · subst h; simp [ur]
  · simp [ur, h]
def vb (x : Int32) (m : Nat) : Prop := x = nI x.toNatClampNeg ∧ x.toNatClampNeg ≤ m
theorem vb_nI {n m : Nat} (h : n ≤ m) (hm : m < 2 ^ 31) : vb (nI n) m := by
  have e : (nI n).toNatClampNeg = n := nI_clamp (by omega)
  exact ⟨by rw [e], by rw [e]; exact h⟩
theorem vb_le {x : Int32} {m n : Nat} (h : vb x m) (hm : m ≤ n) : vb x n := ⟨h.1, Nat.le_trans h.2 hm⟩
theorem nb_vb {σ : St} {k j m : Nat} : nb σ k j m ↔ vb (σ.1 k j) m := Iff.rfl
/-- MI out of the numbers that it speaks of -/
theorem MI_of {σ σ' : St} (h : MI σ) (h15 : ∀ j, j = 1 ∨ j = 2 ∨ j = 3 ∨ j = 4 ∨ j = 5 ∨ j = 26 → σ'.1 15 j = σ.1 15 j) (h21 : vb (σ'.1 15 21) 40) (h22 : vb (σ'.1 15 22) 60) (h16 : ∀ b, b < 8 → vb (σ'.1 16 b) 200) (h23 : ∀ c, c < 6 → vb (σ'.1 23 c) 7) (h24 : ∀ c, c < 6 → vb (σ'.1 24 c) 200) (h29 : ∀ k, k < 40 → vb (σ'.1 29 (4 * k + 1)) 200) (h18 : ∀ i, i < 1600 → σ'.1 18 i = -1 ∨ vb (σ'.1 18 i) 5) (h28 : ∀ c, c < 6 → σ'.1 28 c = nI 0 ∨ σ'.1 28 c = nI 1) : MI σ' := by
  obtain ⟨⟨a1, a2, a3, a4, a5⟩, ⟨b1, b2, b3⟩, -, -, -, -, z, -⟩ := h
  have cg : ∀ {j m : Nat}, σ'.1 15 j = σ.1 15 j → nb σ 15 j m → nb σ' 15 j m := fun e q => nb_vb.mpr (e ▸ nb_vb.mp q)
  refine ⟨⟨cg (h15 1 (by simp)) a1, cg (h15 2 (by simp)) a2, cg (h15 3 (by simp)) a3, cg (h15 4 (by simp)) a4, cg (h15 5 (by simp)) a5⟩, ⟨h21, h22, cg (h15 26 (by simp)) b3⟩, h16, fun c hc => ⟨h23 c hc, h24 c hc⟩, h29, h18, ?_, h28⟩
  unfold rd
  rw [h15 1 (by simp), h15 3 (by simp)]
  exact z
theorem MI.v21 {σ : St} (h : MI σ) : vb (σ.1 15 21) 40 := h.2.1.1
theorem MI.v22 {σ : St} (h : MI σ) : vb (σ.1 15 22) 60 := h.2.1.2.1
theorem MI.v16 {σ : St} (h : MI σ) : ∀ b, b < 8 → vb (σ.1 16 b) 200 := h.2.2.1
theorem MI.v23 {σ : St} (h : MI σ) : ∀ c, c < 6 → vb (σ.1 23 c) 7 := fun c hc => (h.2.2.2.1 c hc).1
theorem MI.v24 {σ : St} (h : MI σ) : ∀ c, c < 6 → vb (σ.1 24 c) 200 := fun c hc => (h.2.2.2.1 c hc).2
theorem MI.v29 {σ : St} (h : MI σ) : ∀ k, k < 40 → vb (σ.1 29 (4 * k + 1)) 200 := h.2.2.2.2.1
theorem MI.v28 {σ : St} (h : MI σ) : ∀ c, c < 6 → σ.1 28 c = nI 0 ∨ σ.1 28 c = nI 1 := h.2.2.2.2.2.2.2
theorem MI.v18 {σ : St} (h : MI σ) : ∀ i, i < 1600 → σ.1 18 i = -1 ∨ vb (σ.1 18 i) 5 := h.2.2.2.2.2.1
/-- a cell of the reference that MI doesn't speak of -/
theorem MI_uv {σ : St} (h : MI σ) {k j : Nat} (v : Int32) (hk : (k ≠ 15 ∧ k ≠ 16 ∧ k ≠ 18 ∧ k ≠ 23 ∧ k ≠ 24 ∧ k ≠ 29 ∧ k ≠ 28) ∨ (k = 15 ∧ (j = 0 ∨ j = 23 ∨ j = 24 ∨ 27 ≤ j))) : MI (uv σ k j v) := by
  have e : ∀ a b, ((a = 15 ∧ (b = 1 ∨ b = 2 ∨ b = 3 ∨ b = 4 ∨ b = 5 ∨ b = 26 ∨ b = 21 ∨ b = 22)) ∨ a = 16 ∨ a = 18 ∨ a = 23 ∨ a = 24 ∨ a = 29 ∨ a = 28) → (uv σ k j v).1 a b = σ.1 a b := by
    intro a b hab
    rw [uv_ap, if_neg (by omega)]
  refine MI_of h (fun j hj => e 15 j (by omega)) ?_ ?_ ?_ ?_ ?_ ?_ ?_ ?_
  · rw [e 15 21 (by omega)]; exact h.v21
  · rw [e 15 22 (by omega)]; exact h.v22
  · intro b hb; rw [e 16 b (by omega)]; exact h.v16 b hb
  · intro b hb; rw [e 23 b (by omega)]; exact h.v23 b hb
  · intro b hb; rw [e 24 b (by omega)]; exact h.v24 b hb
  · intro b hb; rw [e 29 _ (by omega)]; exact h.v29 b hb
  · intro b hb; rw [e 18 b (by omega)]; exact h.v18 b hb
  · intro b hb; rw [e 28 b (by omega)]; exact h.v28 b hb
theorem MI_uv23 {σ : St} (h : MI σ) {c n : Nat} (hn : n < 8) : MI (uv σ 23 c (nI n)) := by
  have e : ∀ a b, a ≠ 23 → (uv σ 23 c (nI n)).1 a b = σ.1 a b := fun a b hab => uv_cell _ _ _ _ hab
  refine MI_of h (fun j hj => e 15 j (by omega)) ?_ ?_ ?_ ?_ ?_ ?_ ?_ ?_
  · rw [e 15 21 (by omega)]; exact h.v21
  · rw [e 15 22 (by omega)]; exact h.v22
  · intro b hb; rw [e 16 b (by omega)]; exact h.v16 b hb
  · intro b hb; rw [uv_ap]; split
    · exact vb_nI (by omega) (by decide)
    · exact h.v23 b hb
  · intro b hb; rw [e 24 b (by omega)]; exact h.v24 b hb
  · intro b hb; rw [e 29 _ (by omega)]; exact h.v29 b hb
  · intro b hb; rw [e 18 b (by omega)]; exact h.v18 b hb
  · intro b hb; rw [e 28 b (by omega)]; exact h.v28 b hb
theorem MI_uv16 {σ : St} (h : MI σ) {c n : Nat} (hn : n ≤ 200) : MI (uv σ 16 c (nI n)) := by
  have e : ∀ a b, a ≠ 16 → (uv σ 16 c (nI n)).1 a b = σ.1 a b := fun a b hab => uv_cell _ _ _ _ hab
  refine MI_of h (fun j hj => e 15 j (by omega)) ?_ ?_ ?_ ?_ ?_ ?_ ?_ ?_
  · rw [e 15 21 (by omega)]; exact h.v21
  · rw [e 15 22 (by omega)]; exact h.v22
  · intro b hb; rw [uv_ap]; split
    · exact vb_nI (by omega) (by decide)
    · exact h.v16 b hb
  · intro b hb; rw [e 23 b (by omega)]; exact h.v23 b hb
  · intro b hb; rw [e 24 b (by omega)]; exact h.v24 b hb
  · intro b hb; rw [e 29 _ (by omega)]; exact h.v29 b hb
  · intro b hb; rw [e 18 b (by omega)]; exact h.v18 b hb
  · intro b hb; rw [e 28 b (by omega)]; exact h.v28 b hb
theorem MI_uv18 {σ : St} (h : MI σ) {c : Nat} {v : Int32} (hv : v = -1 ∨ vb v 5) : MI (uv σ 18 c v) := by
  have e : ∀ a b, a ≠ 18 → (uv σ 18 c v).1 a b = σ.1 a b := fun a b hab => uv_cell _ _ _ _ hab
  refine MI_of h (fun j hj => e 15 j (by omega)) ?_ ?_ ?_ ?_ ?_ ?_ ?_ ?_
  · rw [e 15 21 (by omega)]; exact h.v21
  · rw [e 15 22 (by omega)]; exact h.v22
  · intro b hb; rw [e 16 b (by omega)]; exact h.v16 b hb
  · intro b hb; rw [e 23 b (by omega)]; exact h.v23 b hb
  · intro b hb; rw [e 24 b (by omega)]; exact h.v24 b hb
  · intro b hb; rw [e 29 _ (by omega)]; exact h.v29 b hb
  · intro b hb; rw [uv_ap]; split
    · exact hv
    · exact h.v18 b hb
  · intro b hb; rw [e 28 b (by omega)]; exact h.v28 b hb
theorem MI_uv28 {σ : St} (h : MI σ) {c n : Nat} (hn : n < 2) : MI (uv σ 28 c (nI n)) := by
  have e : ∀ a b, a ≠ 28 → (uv σ 28 c (nI n)).1 a b = σ.1 a b := fun a b hab => uv_cell _ _ _ _ hab
  refine MI_of h (fun j hj => e 15 j (by omega)) ?_ ?_ ?_ ?_ ?_ ?_ ?_ ?_
  · rw [e 15 21 (by omega)]; exact h.v21
  · rw [e 15 22 (by omega)]; exact h.v22
  · intro b hb; rw [e 16 b (by omega)]; exact h.v16 b hb
  · intro b hb; rw [e 23 b (by omega)]; exact h.v23 b hb
  · intro b hb; rw [e 24 b (by omega)]; exact h.v24 b hb
  · intro b hb; rw [e 29 _ (by omega)]; exact h.v29 b hb
  · intro b hb; rw [e 18 b (by omega)]; exact h.v18 b hb
  · intro b hb; rw [uv_ap]; split
    · rcases (show n = 0 ∨ n = 1 by omega) with rfl | rfl
      · exact Or.inl rfl
      · exact Or.inr rfl
    · exact h.v28 b hb
theorem MI_mapp {σ : St} (h : MI σ) {b : Nat} (kd au bl va li : Int32) (hL : rd σ 16 b ≤ 199) (hau : au = -1 ∨ vb au 5) : MI (mapp σ b kd au bl va li) := by
  unfold mapp mapp6
  refine MI_uv (MI_uv (MI_uv (MI_uv (MI_uv18 (MI_uv (MI_uv16 h (by omega)) _ ?_) hau) _ ?_) _ ?_) _ ?_) _ ?_ <;> simp
theorem MI_mtk {σ : St} (h : MI σ) {c b : Nat} (hb : b < 8) : MI (mtk σ c b) := by
  have hL := h.len hb
  have e : ∀ a j, a ≠ 24 → a ≠ 26 → a ≠ 27 → (mtk σ c b).1 a j = σ.1 a j := by
    intro a j h1 h2 h3
    unfold mtk
    rw [ur_cell _ _ _ h3, ur_cell _ _ _ h2, uv_cell _ _ _ _ h1]
  refine MI_of h (fun j hj => e 15 j (by omega) (by omega) (by omega)) ?_ ?_ ?_ ?_ ?_ ?_ ?_ ?_
  · rw [e 15 21 (by omega) (by omega) (by omega)]; exact h.v21
  · rw [e 15 22 (by omega) (by omega) (by omega)]; exact h.v22
  · intro b hb; rw [e 16 b (by omega) (by omega) (by omega)]; exact h.v16 b hb
  · intro b hb; rw [e 23 b (by omega) (by omega) (by omega)]; exact h.v23 b hb
  · intro a ha
    unfold mtk
    rw [ur_cell _ _ _ (by omega), ur_cell _ _ _ (by omega), uv_ap]
    split
    · exact vb_nI hL.2 (by decide)
    · exact h.v24 a ha
  · intro b hb; rw [e 29 _ (by omega) (by omega) (by omega)]; exact h.v29 b hb
  · intro b hb; rw [e 18 b (by omega) (by omega) (by omega)]; exact h.v18 b hb
  · intro b hb; rw [e 28 b (by omega) (by omega) (by omega)]; exact h.v28 b hb
theorem mtk_o (σ : St) (c b : Nat) {a : Nat} (j : Nat) (h : a ≠ 24 ∧ a ≠ 26 ∧ a ≠ 27) : (mtk σ c b).1 a j = σ.1 a j := by
  unfold mtk
  rw [ur_cell _ _ _ h.2.2, ur_cell _ _ _ h.2.1, uv_cell _ _ _ _ h.1]
theorem mapp_o (σ : St) (b : Nat) (kd au bl va li : Int32) {a : Nat} (j : Nat) (h : a < 16 ∨ 22 < a) : (mapp σ b kd au bl va li).1 a j = σ.1 a j := by
  unfold mapp mapp6
  rw [uv_cell _ _ _ _ (by omega), uv_cell _ _ _ _ (by omega), uv_cell _ _ _ _ (by omega), uv_cell _ _ _ _ (by omega), uv_cell _ _ _ _ (by omega), uv_cell _ _ _ _ (by omega), uv_cell _ _ _ _ (by omega)]
theorem mapp_len (σ : St) (b : Nat) (kd au bl va li : Int32) (j : Nat) : (mapp σ b kd au bl va li).1 16 j = if j = b then nI (rd σ 16 b + 1) else σ.1 16 j := by
  unfold mapp mapp6
  rw [uv_cell _ _ _ _ (by omega), uv_cell _ _ _ _ (by omega), uv_cell _ _ _ _ (by omega), uv_cell _ _ _ _ (by omega), uv_cell _ _ _ _ (by omega), uv_cell _ _ _ _ (by omega), uv_ap]
  simp
theorem mb0_o (σ : St) {a : Nat} (j : Nat) (h : a ≠ 30 ∧ (a = 15 → j ≠ 22)) : (mb0 σ).1 a j = σ.1 a j := by
  unfold mb0
  split
  · rw [uv_ap, if_neg (by omega), ur_cell _ _ _ h.1]
  · rfl
theorem mblm_o (σ : St) (w c o n f s : Int32) {a : Nat} (j : Nat) (h : a ≠ 30 ∧ (a = 15 → j ≠ 22)) : (mblm σ w c o n f s).1 a j = σ.1 a j := by
  unfold mblm
  rw [uv_ap, if_neg (by omega), uv_cell _ _ _ _ h.1, uv_cell _ _ _ _ h.1, uv_cell _ _ _ _ h.1, uv_cell _ _ _ _ h.1, uv_cell _ _ _ _ h.1, uv_cell _ _ _ _ h.1, mb0_o σ j h]
theorem MI_mblm {σ : St} (h : MI σ) (w c o n f s : Int32) : MI (mblm σ w c o n f s) := by
  have hb := h.blms.2
  have e := fun (a j : Nat) (q : a ≠ 30 ∧ (a = 15 → j ≠ 22)) => mblm_o σ w c o n f s j q
  refine MI_of h (fun j hj => e 15 j (by omega)) ?_ ?_ ?_ ?_ ?_ ?_ ?_ ?_
  · rw [e 15 21 (by omega)]; exact h.v21
  · unfold mblm
    rw [uv_same]
    exact vb_nI (by unfold mbn; split <;> omega) (by decide)
  · intro b hb; rw [e 16 b (by omega)]; exact h.v16 b hb
  · intro b hb; rw [e 23 b (by omega)]; exact h.v23 b hb
  · intro b hb; rw [e 24 b (by omega)]; exact h.v24 b hb
  · intro b hb; rw [e 29 _ (by omega)]; exact h.v29 b hb
  · intro b hb; rw [e 18 b (by omega)]; exact h.v18 b hb
  · intro b hb; rw [e 28 b (by omega)]; exact h.v28 b hb
theorem mp0_o (σ : St) {a : Nat} (j : Nat) (h : a ≠ 29 ∧ (a = 15 → j ≠ 21)) : (mp0 σ).1 a j = σ.1 a j := by
  unfold mp0
  split
  · rw [uv_ap, if_neg (by omega), ur_cell _ _ _ h.1]
  · rfl
theorem mpst_o (σ : St) (c : Nat) {a : Nat} (j : Nat) (h : a ≠ 29 ∧ (a = 15 → j ≠ 21 ∧ j ≠ 23)) : (mpst σ c).1 a j = σ.1 a j := by
  unfold mpst
  rw [uv_ap, if_neg (by omega), uv_cell _ _ _ _ h.1, uv_cell _ _ _ _ h.1, uv_cell _ _ _ _ h.1, uv_cell _ _ _ _ h.1, uv_ap, if_neg (by omega), mp0_o σ j ⟨h.1, fun q => (h.2 q).1⟩]
theorem MI_mpst {σ : St} (h : MI σ) {c : Nat} (hc : c < 6) : MI (mpst σ c) := by
  have hb := h.posts.2
  have hp := h.pos hc
  have e := fun (a j : Nat) (q : a ≠ 29 ∧ (a = 15 → j ≠ 21 ∧ j ≠ 23)) => mpst_o σ c j q
  refine MI_of h (fun j hj => e 15 j (by omega)) ?_ ?_ ?_ ?_ ?_ ?_ ?_ ?_
  · unfold mpst
    rw [uv_same]
    exact vb_nI (by unfold mpn; split <;> omega) (by decide)
  · rw [e 15 22 (by omega)]; exact h.v22
  · intro b hb; rw [e 16 b (by omega)]; exact h.v16 b hb
  · intro b hb; rw [e 23 b (by omega)]; exact h.v23 b hb
  · intro b hb; rw [e 24 b (by omega)]; exact h.v24 b hb
  · intro k hk
    unfold mpst
    rw [uv_cell _ _ _ _ (by omega), uv_ap, if_neg (by omega), uv_ap, if_neg (by omega), uv_ap]
    split
    · exact vb_nI hp.2 (by decide)
    · rw [uv_ap, if_neg (by omega), uv_cell _ _ _ _ (by omega)]
      unfold mp0
      split
      · rw [uv_cell _ _ _ _ (by omega), ur_ap, if_pos rfl]
        unfold shf
        split
        · rw [show 4 * k + 1 + 4 = 4 * (k + 1) + 1 by omega]
          exact h.v29 (k + 1) (by omega)
        · exact h.v29 k hk
      · exact h.v29 k hk
  · intro b hb; rw [e 18 b (by omega)]; exact h.v18 b hb
  · intro b hb; rw [e 28 b (by omega)]; exact h.v28 b hb
section TSW
variable {x : Ctx} {g : Lay} {z0 nL n1 n2 h : Nat} {Q : State → Prop} {σ : St} {pc : Nat} {lv lv' : List (Nat × Value)} {st : List Value} {own : String} {cc : ByteArray} {ret : Option FieldType}
theorem n_tswIn {a j tgt len : Nat} {dflt lo hi off : Int} {offs : Array Int} (hC : Cx x own cc nL ret h g z0) (hd : decode cc pc = .ok (.tableswitch dflt lo hi offs, len)) (he : a = j) (hj : j < 2 ^ 31) (h1 : ¬ (j : Int) < lo) (h2 : ¬ hi < (j : Int)) (ho : offs[((j : Int) - lo).toNat]? = some off) (ht : (pc : Int) + off = (tgt : Int)) (k : GG x g z0 nL n1 n2 Q σ tgt lv st) : GG x g z0 nL n1 n2 Q σ pc lv (.int (nI a) :: st) := fun H locs ls hP hS hl => by
  subst he
  have e := nI_toInt hj
  exact lv_tableIn hC.1 hC.2.1 hd (by rw [e]; exact h1) (by rw [e]; exact h2) (by rw [e]; exact ho) ht (k H locs ls hP hS hl)
theorem n_tswOut {a tgt len : Nat} {dflt lo hi : Int} {offs : Array Int} (hC : Cx x own cc nL ret h g z0) (hd : decode cc pc = .ok (.tableswitch dflt lo hi offs, len)) (ha : a < 2 ^ 31) (h1 : (a : Int) < lo ∨ hi < (a : Int)) (ht : (pc : Int) + dflt = (tgt : Int)) (k : GG x g z0 nL n1 n2 Q σ tgt lv st) : GG x g z0 nL n1 n2 Q σ pc lv (.int (nI a) :: st) := fun H locs ls hP hS hl => by
  have e := nI_toInt ha
  exact lv_tableOut hC.1 hC.2.1 hd (by rw [e]; exact h1) ht (k H locs ls hP hS hl)
theorem g_tswOut {a : Int32} {tgt len : Nat} {dflt lo hi : Int} {offs : Array Int} (hC : Cx x own cc nL ret h g z0) (hd : decode cc pc = .ok (.tableswitch dflt lo hi offs, len)) (h1 : a.toInt < lo ∨ hi < a.toInt) (ht : (pc : Int) + dflt = (tgt : Int)) (k : GG x g z0 nL n1 n2 Q σ tgt lv st) : GG x g z0 nL n1 n2 Q σ pc lv (.int a :: st) := fun H locs ls hP hS hl => lv_tableOut hC.1 hC.2.1 hd h1 ht (k H locs ls hP hS hl)
end TSW
/-- what the reference writes down when it has found case w -/
def msus (σ : St) (c w : Nat) : St := uv (if w = 1 then mblm σ (nI 1) (nI c) (-1) (nI (rd σ 15 24)) (σ.1 27 (201 * c + rd σ 15 24)) (mh σ (rd σ 23 c) (rd σ 16 (rd σ 23 c))) else if w = 2 then mblm σ (nI 2) (nI c) (-1) (nI (rd σ 15 24)) (σ.1 27 (201 * c + rd σ 15 24)) (mh σ (rd σ 23 c) (rd σ 15 24)) else if w = 3 then mblm σ (nI 3) (nI c) (-1) (nI (rd σ 15 24)) (mcomp σ (rd σ 23 c) (rd σ 15 24)) (mh σ (rd σ 23 c) (rd σ 15 24)) else mblm σ (nI 2) (nI c) (σ.1 29 (4 * rd σ 15 24)) (nI (rd σ 29 (4 * rd σ 15 24 + 1))) (mh σ (rd σ 23 c) (rd σ 29 (4 * rd σ 15 24 + 1))) (σ.1 29 (4 * rd σ 15 24 + 2))) 28 c (nI 1)
theorem MI_msus {σ : St} (h : MI σ) (c w : Nat) : MI (msus σ c w) := by
  unfold msus
  refine MI_uv28 ?_ (by omega)
  split
  · exact MI_mblm h _ _ _ _ _ _
  · split
    · exact MI_mblm h _ _ _ _ _ _
    · split
      · exact MI_mblm h _ _ _ _ _ _
      · exact MI_mblm h _ _ _ _ _ _
def mokP (σ : St) (c : Nat) : Prop := σ.1 28 c = nI 0 ∧ mfc σ c = 0 ∧ rd σ 16 (rd σ 23 c) ≠ 200
/-- the state of the reference behind an operation that is done: entry, history, count; then, every so often, a post -/
noncomputable def mo2 (σ : St) (c : Nat) (kd w v : Int32) : St := mtk (mapp (mo1 σ c) (rd σ 23 c) kd (nI c) w v (nI 0)) c (rd σ 23 c)
noncomputable def mo3 (σ : St) (c : Nat) (kd w v : Int32) : St := uv (mo2 σ c kd w v) 25 c (σ.1 25 c + nI 1)
noncomputable def moS (σ : St) (c : Nat) (kd w v : Int32) : St :=
  cI (σ.1 28 c = nI 0) (cI (mfc σ c = 0) (cI (rd σ 16 (rd σ 23 c) = 200) (mo1 σ c) (cI ((σ.1 25 c + nI 1) - (σ.1 25 c + nI 1) / σ.1 15 3 * σ.1 15 3 = 0) (mpst (mo3 σ c kd w v) c) (mo3 σ c kd w v))) (msus (mo1 σ c) c (mfc σ c))) σ
theorem atF_le {len p M : Nat} {df bad wit : Nat → Prop} (hp : p ≤ M) (hl : len ≤ M) (hw : ∀ k, wit k → k ≤ M) : atF len p df bad wit ≤ M := by
  unfold atF
  by_cases h1 : len < p
  · rw [cI_t h1]; exact hp
  rw [cI_f h1]
  by_cases h2 : df p
  · rw [cI_t h2]
    have := (lst_ok ⟨p, h2⟩).2
    rcases Nat.lt_or_ge p (lst df) with q | q
    · exact absurd h2 (this p q)
    · omega
  rw [cI_f h2]
  by_cases h3 : ∃ n, p < n ∧ n ≤ len ∧ bad n
  · rw [cI_t h3]
    have := (lst_ok h3).1
    omega
  rw [cI_f h3]
  by_cases h4 : ∃ k, wit k
  · rw [cI_t h4]
    exact hw _ (lst_ok h4).1
  rw [cI_f h4]; exact hp
theorem caseF_le {len p : Nat} {df bad wit : Nat → Prop} : caseF len p df bad wit ≤ 4 := by
  unfold caseF
  by_cases h1 : len < p
  · rw [cI_t h1]; omega
  rw [cI_f h1]
  by_cases h2 : df p
  · rw [cI_t h2]; omega
  rw [cI_f h2]
  by_cases h3 : ∃ n, p < n ∧ n ≤ len ∧ bad n
  · rw [cI_t h3]; omega
  rw [cI_f h3]
  by_cases h4 : ∃ k, wit k
  · rw [cI_t h4]; omega
  rw [cI_f h4]; omega
theorem caseF_at3 {len p : Nat} {df bad wit : Nat → Prop} (h : caseF len p df bad wit = 3) : p < atF len p df bad wit ∧ atF len p df bad wit ≤ len := by
  unfold caseF at h
  unfold atF
  by_cases h1 : len < p
  · rw [cI_t h1] at h; omega
  rw [cI_f h1] at h ⊢
  by_cases h2 : df p
  · rw [cI_t h2] at h; omega
  rw [cI_f h2] at h ⊢
  by_cases h3 : ∃ n, p < n ∧ n ≤ len ∧ bad n
  · rw [cI_t h3]
    have := (lst_ok h3).1
    omega
  rw [cI_f h3] at h
  by_cases h4 : ∃ k, wit k
  · rw [cI_t h4] at h; omega
  rw [cI_f h4] at h; omega
theorem caseF_at4 {len p : Nat} {df bad wit : Nat → Prop} (h : caseF len p df bad wit = 4) : wit (atF len p df bad wit) := by
  unfold caseF at h
  unfold atF
  by_cases h1 : len < p
  · rw [cI_t h1] at h; omega
  rw [cI_f h1] at h ⊢
  by_cases h2 : df p
  · rw [cI_t h2] at h; omega
  rw [cI_f h2] at h ⊢
  by_cases h3 : ∃ n, p < n ∧ n ≤ len ∧ bad n
  · rw [cI_t h3] at h; omega
  rw [cI_f h3] at h ⊢
  by_cases h4 : ∃ k, wit k
  · rw [cI_t h4]; exact (lst_ok h4).1
  rw [cI_f h4] at h; omega
theorem nb_cg {σ σ' : St} {k j m m' : Nat} (e : σ'.1 k j = σ.1 k j) (h : nb σ k j m) (hm : rd σ k j ≤ m') : nb σ' k j m' := ⟨by unfold rd; rw [e]; exact h.1, by unfold rd; rw [e]; exact hm⟩
theorem mfa_le {σ : St} (hM : MI σ) {c : Nat} (hc : c < 6) : mfa σ c ≤ 200 := by
  have h1 := (hM.see hc).2
  exact atF_le (hM.pos hc).2 (hM.len (b := rd σ 23 c) (by omega)).2 (fun k hk => by have := hk.1; have := hM.posts.2; omega)
theorem mo1_f {σ : St} (hM : MI σ) {c : Nat} (hc : c < 6) : nb (mo1 σ c) 15 24 200 ∧ rd (mo1 σ c) 15 24 = mfa σ c := nb_of (uv_same _ _ _ _) (mfa_le hM hc) (by decide)
theorem MI_mo1 {σ : St} (hM : MI σ) (c : Nat) : MI (mo1 σ c) := MI_uv hM _ (by omega)
theorem mo1_3 {σ : St} (hM : MI σ) {c : Nat} (hc : c < 6) (h : mfc σ c = 3) : 1 ≤ rd (mo1 σ c) 15 24 := by
  rw [(mo1_f hM hc).2]
  have := (caseF_at3 h).1
  exact Nat.lt_of_le_of_lt (Nat.zero_le _) this
theorem mo1_4 {σ : St} (hM : MI σ) {c : Nat} (hc : c < 6) (h : mfc σ c = 4) : rd (mo1 σ c) 15 24 < 40 := by
  rw [(mo1_f hM hc).2]
  have h1 : mwit σ (rd σ 23 c) (mfa σ c) := caseF_at4 h
  have := h1.1
  have := hM.posts.2
  omega
theorem mfc_le {σ : St} {c : Nat} : mfc σ c ≤ 4 := caseF_le
theorem z_nar {v : Int32} (h : v = nI 0 ∨ v = nI 1) : narrow .boolean (.int v) = .int v := by
  rcases h with rfl | rfl <;> rfl
