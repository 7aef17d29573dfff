/-! what lies below the new cells stays -/
def XX (z0 : Nat) (ad : Nat → Nat) (KA : KAd) : State → Heap → Prop := fun U H => KX z0 ad KA U H ∧ ThX z0 U H ∧ NW U ∧ NW2 U ∧ NW3 U
theorem XX_ok (z0 : Nat) (ad : Nat → Nat) (KA : KAd) : XOk z0 (XX z0 ad KA) := by
  refine ⟨fun s U H hW h => ?_, fun U H H1 h hq => ?_⟩
  · have hv := hW.alike
    obtain ⟨⟨h1, h2, h3, h4, ⟨h5, h5b⟩, ⟨h6, h6b⟩, h7, ⟨r, h8⟩, h9⟩, ⟨⟨d1, d2, d3⟩, hc, q1, q2, hs⟩, ⟨m1, m2, m3⟩, ⟨k1, k2, k3, a1, a2, a3, a4⟩, c1, c2, c3⟩ := h
    exact ⟨⟨va_En.moved hv h1, vk_S.moved hv h2, va_Ef.moved hv h3, va_Ef.moved hv h4, ⟨va_Z.moved hv h5, va_T.moved hv h5b⟩, ⟨va_Z.moved hv h6, va_T.moved hv h6b⟩, va_Z.moved hv h7, ⟨r, va_Z.moved hv h8⟩, va_Nw.warmF hW h9⟩, ⟨⟨va_Nw.warmD hW d1, va_Nw.warmD hW d2, va_Nw.warmD hW d3⟩, fun E hE => va_Nw.warmC hW (hc E hE), vx_Zq.moved hv q1, vx_Zq.moved hv q2, fun q hq => (hs q hq).elim fun sa r => ⟨sa, vk_R.warm hW r⟩⟩, ⟨va_Nw.warmM hW m1, va_Nw.warmM hW m2, va_Nw.warmM hW m3⟩, ⟨va_Nw.warmM hW k1, va_Nw.warmM hW k2, va_Nw.warmM hW k3, va_AO.moved hv a1, va_AO.moved hv a2, va_AO.moved hv a3, va_AO.moved hv a4⟩, va_Nc.moved hv c1, va_Nc.moved hv c2, va_Nc.moved hv c3⟩
  · obtain ⟨⟨h1, h2, h3, h4, ⟨h5, h5b⟩, ⟨h6, h6b⟩, h7, ⟨r, h8⟩, h9⟩, ⟨d, hc, q1, q2, hs⟩, m, k, c⟩ := h
    exact ⟨⟨va_En.kept h1 hq, vk_S.kept h2 hq, va_Ef.kept h3 hq, va_Ef.kept h4 hq, ⟨va_Z.kept h5 hq, va_T.kept h5b hq⟩, ⟨va_Z.kept h6 hq, va_T.kept h6b hq⟩, va_Z.kept h7 hq, ⟨r, va_Z.kept h8 hq⟩, h9⟩, ⟨d, hc, vx_Zq.kept q1 hq, vx_Zq.kept q2 hq, hs⟩, m, k, c⟩
section XXS
variable {D : va_G} {z0 : Nat} {ad : Nat → Nat} {ac : Nat → ClassId} {KA : KAd}
theorem XX_T : GT (gz D z0 ad ac (XX z0 ad KA)) z0 := fun _ _ h => h.2.1
theorem XX_K : GK (gz D z0 ad ac (XX z0 ad KA)) z0 KA := fun _ _ h => h.1
theorem XX_G : GX (gz D z0 ad ac (XX z0 ad KA)) := fun _ _ h => h.2.2.1
theorem XX_2 : GX2 (gz D z0 ad ac (XX z0 ad KA)) := fun _ _ h => h.2.2.2.1
theorem XX_3 : GX3 (gz D z0 ad ac (XX z0 ad KA)) := fun _ _ h => h.2.2.2.2
theorem XX_W {U : State} (hK : va_K D vwCl (tyG (gz D z0 ad ac (XX z0 ad KA))) U) (hT : WT U) : WK (gz D z0 ad ac (XX z0 ad KA)) z0 U := by
  refine ⟨hK, fun i j hi hj h => ofs_inj hi hj ?_, fun k _ => Nat.le_add_right _ _, hT, XX_ok z0 ad KA⟩
  have h2 : z0 + ofs i = z0 + ofs j := h
  omega
end XXS
