/-! the turns of the law that feed, load and run -/
section LAW3
variable {x : Ctx} {g : Lay} {z0 n1 n2 : Nat} {Q : State → Prop} {σ c' S2 : St} {rt : Option FieldType} {b L j : Nat} {xs : Nat → Int32} {w : Option String} {val : Int64} {K R : Int32}
theorem cl_N (hI : Inv σ σ) (fa : ∀ a b, 15 ≤ a ∧ a ≤ 33 → c'.1 a b = σ.1 a b) : Inv σ (cI (w = none) (ul c' 33 0 val) c') := hI.mg (fun a b h1 h2 => by rw [cl_1]; exact fa a b (by omega))
theorem cl_W (hv : Inv c' S2) (fr : ∀ a b, a < 15 ∨ 32 < a → S2.1 a b = (cI (w = none) (ul c' 33 0 val) c').1 a b) (hl : LL (cI (w = none) (ul c' 33 0 val) c') S2) (hK : K = 0 → w = none) (hth : S2.1 15 0 = K) (hr : w = none → val = R.toInt64) : CZ S2 K R := by
  refine ⟨hv.cg (fun a b q => by rw [fr a b (by omega), cl_1]), hth, fun z => ?_⟩
  rw [cl_val (c' := c') (val := val) (hK z) (congrFun hl 0), hr (hK z)]
theorem qf_c {Rc Rm th : Int32} (h : (w = none ∧ Rc = Rm ∧ th = nI 0) ∨ (w = some exI ∧ th = nI 1)) : (∀ E, w = some E → E = exI) ∧ th = kof1 w ∧ (w = none → Rc.toInt64 = Rm.toInt64) := by
  rcases h with ⟨rfl, e, t⟩ | ⟨rfl, t⟩
  · exact ⟨fun E z => (nsN z).elim, t, fun _ => by rw [e]⟩
  · exact ⟨fun E z => (Option.some.inj z).symm, t, fun z => (nsS z).elim⟩
theorem cfS_a (σ : St) (a b c d e : Int32) {k : Nat} (i : Nat) (h : 15 ≤ k ∧ k ≤ 33) : (cfS σ a b c d e).1 k i = σ.1 k i := by
  refine cI_a2 (Q := fun z : St => z.1 k i = σ.1 k i) (fun _ => ?_) fun _ => rfl
  unfold cfd
  rw [cpu_o _ _ _ (by omega), cpu_o _ _ _ (by omega), cpu_o _ _ _ (by omega), cpu_o _ _ _ (by omega), cpu_o _ _ _ (by omega)]
theorem mfd_fr (m : St) (a b c d e : Int32) : (∀ k i, k < 15 ∨ 32 < k → (mfd m a b c d e).2.1 k i = m.1 k i) ∧ LL m (mfd m a b c d e).2 := by
  unfold mfd
  refine cI_a2 (Q := fun z : Int32 × St => (∀ k i, k < 15 ∨ 32 < k → z.2.1 k i = m.1 k i) ∧ LL m z.2) (fun _ => ⟨fun k i q => ?_, rfl⟩) fun _ => ⟨fun k i q => (uv_cell _ _ _ _ (by omega)).trans (uv_cell _ _ _ _ (by omega)), rfl⟩
  show (mput (mput (mput (mput (mput (m0 m) a) b) c) d) e).1 k i = m.1 k i
  rw [mput_o _ _ _ (by omega), mput_o _ _ _ (by omega), mput_o _ _ _ (by omega), mput_o _ _ _ (by omega), mput_o _ _ _ (by omega), uv_cell _ _ _ _ (by omega)]
theorem lc_0 {KA : KAd} (hE : EN x g z0 b L xs KA rt) (hj : j + 6 ≤ L) (hI : Inv σ σ) (hc1 : n1 + 3 ≤ x.2.2.2.1.cells) (hc2 : n2 + 18 ≤ x.2.2.2.1.slots) (kk : ∀ σ', Inv σ' σ' → GG x g z0 7 (n1 + 3) (n2 + 18) Q σ' 2388 (LV0 g b j) []) : GG x g z0 7 n1 n2 Q σ 216 (LV0 g b j) [] := by
  obtain ⟨hC, hF, hNT, hT, hK, hG, hG3⟩ := hE
  have hA := cl_N (w := wFd σ) (val := ((cfd σ (xs (j + 1)) (xs (j + 2)) (xs (j + 3)) (xs (j + 4)) (xs (j + 5))).1 0 2).toInt64) hI (fun k i y => cfS_a σ (xs (j + 1)) (xs (j + 2)) (xs (j + 3)) (xs (j + 4)) (xs (j + 5)) i y)
  have z := iv_fd hA (xs (j + 1)) (xs (j + 2)) (xs (j + 3)) (xs (j + 4)) (xs (j + 5))
  have o := qf_c z.2
  refine g_aload_n (pc' := 217) (j := 3) hC dL_law_216 rfl rfl rfl ?_
  refine a_arg (k := 1) (j0 := 4) (j4 := 0) (pc' := 223) hC hF (by omega) rfl rfl rfl dL_law_217 dL_law_218 dL_law_220 dL_law_221 dL_law_222 rfl ?_
  refine a_arg (k := 2) (j0 := 4) (j4 := 0) (pc' := 229) hC hF (by omega) rfl rfl rfl dL_law_223 dL_law_224 dL_law_226 dL_law_227 dL_law_228 rfl ?_
  refine a_arg (k := 3) (j0 := 4) (j4 := 0) (pc' := 235) hC hF (by omega) rfl rfl rfl dL_law_229 dL_law_230 dL_law_232 dL_law_233 dL_law_234 rfl ?_
  refine a_arg (k := 4) (j0 := 4) (j4 := 0) (pc' := 241) hC hF (by omega) rfl rfl rfl dL_law_235 dL_law_236 dL_law_238 dL_law_239 dL_law_240 rfl ?_
  refine a_arg (k := 5) (j0 := 4) (j4 := 0) (pc' := 247) hC hF (by omega) rfl rfl rfl dL_law_241 dL_law_242 dL_law_244 dL_law_245 dL_law_246 rfl ?_
  refine g_aload_n (pc' := 248) (j := 1) hC dL_law_247 rfl rfl rfl ?_
  refine l_call (pc' := 254) hC (h_feed x.2.1 g z0 σ (xs (j + 1)) (xs (j + 2)) (xs (j + 3)) (xs (j + 4)) (xs (j + 5)) (hNT) (hT) (hI.fed.1) (hG3) (o.1)) kh_feed wM_L_114 rfl rfl dL_law_248 dL_law_251 dL_law_253 rfl (by omega) (by omega) ?_
  refine a_arg (k := 1) (j0 := 5) (j4 := 1) (pc' := 260) hC hF (by omega) rfl rfl rfl dL_law_254 dL_law_255 dL_law_257 dL_law_258 dL_law_259 rfl ?_
  refine a_arg (k := 2) (j0 := 5) (j4 := 1) (pc' := 266) hC hF (by omega) rfl rfl rfl dL_law_260 dL_law_261 dL_law_263 dL_law_264 dL_law_265 rfl ?_
  refine a_arg (k := 3) (j0 := 5) (j4 := 1) (pc' := 272) hC hF (by omega) rfl rfl rfl dL_law_266 dL_law_267 dL_law_269 dL_law_270 dL_law_271 rfl ?_
  refine a_arg (k := 4) (j0 := 5) (j4 := 1) (pc' := 278) hC hF (by omega) rfl rfl rfl dL_law_272 dL_law_273 dL_law_275 dL_law_276 dL_law_277 rfl ?_
  refine a_arg (k := 5) (j0 := 5) (j4 := 1) (pc' := 284) hC hF (by omega) rfl rfl rfl dL_law_278 dL_law_279 dL_law_281 dL_law_282 dL_law_283 rfl ?_
  exact l_mod (pc' := 287) hC (m_feed x.2.1 g z0 _ (xs (j + 1)) (xs (j + 2)) (xs (j + 3)) (xs (j + 4)) (xs (j + 5)) (hA.1.2.1.1)) k_X10_feed wM_L_119 (by decide) (ct_15 g _) rfl rfl rfl rfl dL_law_284 rfl ⟨dL_law_287, dL_law_289, dL_law_290, dL_law_293, dL_law_295, dL_law_300, dL_law_302, dL_law_305, dL_law_306, dL_law_307, dL_law_308, dL_law_310, dL_law_311, dL_law_312, ⟨_, dL_law_317, by decide⟩⟩ (by omega) (by omega) hc1 hc2 (cl_W z.1 (mfd_fr _ _ _ _ _ _).1 (mfd_fr _ _ _ _ _ _).2 (kof1_0 _) o.2.1 o.2.2) kk
theorem lc_1 {KA : KAd} (hE : EN x g z0 b L xs KA rt) (hj : j + 6 ≤ L) (hI : Inv σ σ) (hc1 : n1 + 3 ≤ x.2.2.2.1.cells) (hc2 : n2 + 18 ≤ x.2.2.2.1.slots) (kk : ∀ σ', Inv σ' σ' → GG x g z0 7 (n1 + 3) (n2 + 18) Q σ' 2388 (LV0 g b j) []) : GG x g z0 7 n1 n2 Q σ 320 (LV0 g b j) [] := by
  obtain ⟨hC, hF, hNT, hT, hK, hG, hG3⟩ := hE
  have hA := cl_N (w := wLo σ (xs (j + 1))) (val := (((csv (cpv (uv σ 0 2 (nI 0)) (cn (xs (j + 1)))) ((cpv (uv σ 0 2 (nI 0)) (cn (xs (j + 1)))).1 1 4) ((cpv (uv σ 0 2 (nI 0)) (cn (xs (j + 1)))).1 1 5) ((cpv (uv σ 0 2 (nI 0)) (cn (xs (j + 1)))).1 1 6)).1 8 4).toInt64)) hI (fun k i y => clS_a σ (xs (j + 1)) i y)
  have z := iv_ld hA (xs (j + 1))
  have o := ql_c z.2
  refine g_aload_n (pc' := 321) (j := 3) hC dL_law_320 rfl rfl rfl ?_
  refine a_arg (k := 1) (j0 := 4) (j4 := 0) (pc' := 327) hC hF (by omega) rfl rfl rfl dL_law_321 dL_law_322 dL_law_324 dL_law_325 dL_law_326 rfl ?_
  refine g_aload_n (pc' := 328) (j := 1) hC dL_law_327 rfl rfl rfl ?_
  refine l_call (pc' := 334) hC (h_load x.2.1 g z0 σ (xs (j + 1)) (hNT) (hT) (hK) (hI.fed.1) (hG3) (o.1)) kh_load wM_L_124 rfl rfl dL_law_328 dL_law_331 dL_law_333 rfl (by omega) (by omega) ?_
  refine a_arg (k := 1) (j0 := 5) (j4 := 1) (pc' := 340) hC hF (by omega) rfl rfl rfl dL_law_334 dL_law_335 dL_law_337 dL_law_338 dL_law_339 rfl ?_
  exact l_mod (pc' := 343) hC (m_load x.2.1 g z0 _ (xs (j + 1)) (hA.1.2.1.1) (hA.2.2.2.2.2)) k_X10_load wM_L_127 (by decide) (ct_15 g _) rfl rfl rfl rfl dL_law_340 rfl ⟨dL_law_343, dL_law_345, dL_law_346, dL_law_349, dL_law_351, dL_law_356, dL_law_358, dL_law_361, dL_law_362, dL_law_363, dL_law_364, dL_law_366, dL_law_367, dL_law_368, ⟨_, dL_law_373, by decide⟩⟩ (by omega) (by omega) hc1 hc2 (cl_W z.1 (mld_fr _ _).1 (mld_fr _ _).2 (kof2_0 _ _) o.2.1 o.2.2) kk
theorem lc_2 {KA : KAd} (hE : EN x g z0 b L xs KA rt) (hj : j + 6 ≤ L) (hI : Inv σ σ) (hc1 : n1 + 3 ≤ x.2.2.2.1.cells) (hc2 : n2 + 18 ≤ x.2.2.2.1.slots) (kk : ∀ σ', Inv σ' σ' → GG x g z0 7 (n1 + 3) (n2 + 18) Q σ' 2388 (LV0 g b j) []) : GG x g z0 7 n1 n2 Q σ 376 (LV0 g b j) [] := by
  obtain ⟨hC, hF, hNT, hT, hK, hG, hG3⟩ := hE
  have y := iv_ru hI (xs (j + 1))
  have hA := cl_N (w := wRu σ (xs (j + 1))) (val := ((nI ((cRn (crP σ (xs (j + 1))) (rd (crP σ (xs (j + 1))) 1 3)).1)).toInt64)) hI y.2.2.2.2
  have z := iv_ru hA (xs (j + 1))
  have o := ql_c z.2.1
  refine g_aload_n (pc' := 377) (j := 3) hC dL_law_376 rfl rfl rfl ?_
  refine a_arg (k := 1) (j0 := 4) (j4 := 0) (pc' := 383) hC hF (by omega) rfl rfl rfl dL_law_377 dL_law_378 dL_law_380 dL_law_381 dL_law_382 rfl ?_
  refine g_aload_n (pc' := 384) (j := 1) hC dL_law_383 rfl rfl rfl ?_
  refine l_call (pc' := 390) hC (h_run x.2.1 g z0 σ (xs (j + 1)) (hNT) (hT) (hK) (hG) (hI.fed.1) (hI.1.ci.1) (y.2.2.1) (hG3) (o.1)) kh_run wM_L_128 rfl rfl dL_law_384 dL_law_387 dL_law_389 rfl (by omega) (by omega) ?_
  refine a_arg (k := 1) (j0 := 5) (j4 := 1) (pc' := 396) hC hF (by omega) rfl rfl rfl dL_law_390 dL_law_391 dL_law_393 dL_law_394 dL_law_395 rfl ?_
  exact l_mod (pc' := 399) hC (m_run x.2.1 g z0 _ (xs (j + 1)) (hA.1.2.1) (hA.2.2.2.2.2)) k_X10_run wM_L_130 (by decide) (ct_15 g _) rfl rfl rfl rfl dL_law_396 rfl ⟨dL_law_399, dL_law_401, dL_law_402, dL_law_405, dL_law_407, dL_law_412, dL_law_414, dL_law_417, dL_law_418, dL_law_419, dL_law_420, dL_law_422, dL_law_423, dL_law_424, ⟨_, dL_law_429, by decide⟩⟩ (by omega) (by omega) hc1 hc2 (cl_W z.1 z.2.2.2.1.1 z.2.2.2.1.2 (kof2_0 _ _) o.2.1 o.2.2) kk
end LAW3
