theorem law_0 (L : Nat) (xs : Nat → Int32) (hLL : L ≤ 384) (i : Int) (i0 : 0 ≤ i) (i1 : i + 6 ≤ L) (M σ τ : rl_S) (c : IC M σ) (cm : IM M τ) (hw : WF M) (K : ∀ (M1 σ1 τ1 : rl_S), IC M1 σ1 → IM M1 τ1 → WF M1 → Lr L xs 1336 i [] σ1 τ1) : Lr L xs 200 i [] σ τ := by
  have b1 := tb (xs (i + 1).toNat)
  generalize hz1 : (xs (i + 1).toNat).toInt = z1 at b1
  have b2 := tb (xs (i + 2).toNat)
  generalize hz2 : (xs (i + 2).toNat).toInt = z2 at b2
  refine lr_aload dL_law_200 rfl ?_
  refine lr_aload dL_law_201 rfl ?_
  refine lr_iload dL_law_202 rfl ?_
  refine lr_iconst dL_law_203 ?_
  refine lr_iadd dL_law_204 ?_
  refine lr_sld dL_law_205 (by omega) (by omega) hLL ?_
  rw [hz1]
  refine lr_aload dL_law_206 rfl ?_
  refine lr_iload dL_law_207 rfl ?_
  refine lr_iconst dL_law_208 ?_
  refine lr_iadd dL_law_209 ?_
  refine lr_sld dL_law_210 (by omega) (by omega) hLL ?_
  rw [hz2]
  have hc : Ct cW mX8_type (.ref 0 :: ([z1, z2] : List Int).map (fun z => Value.int (iI z))) σ (qI (fun z σ' => z = (s_type M z1 z2).1 ∧ IC (s_type M z1 z2).2 σ')) := Ct.mono (c_type M σ c hw z1 z2 b1 b2) (fun r σ1 h => h)
  refine lr_cI hc lmL_13 dL_law_211 rfl ⟨_, _, rfl⟩ (by decide) (by decide) rfl rfl (Nat.le_of_ble_eq_true rfl) (fun r1 σ1 h1 => ?_)
  obtain ⟨rfl, c1⟩ := h1
  refine lr_aload dL_law_214 rfl ?_
  refine lr_aload dL_law_215 rfl ?_
  refine lr_iload dL_law_216 rfl ?_
  refine lr_iconst dL_law_217 ?_
  refine lr_iadd dL_law_218 ?_
  refine lr_sld dL_law_219 (by omega) (by omega) hLL ?_
  rw [hz1]
  refine lr_aload dL_law_220 rfl ?_
  refine lr_iload dL_law_221 rfl ?_
  refine lr_iconst dL_law_222 ?_
  refine lr_iadd dL_law_223 ?_
  refine lr_sld dL_law_224 (by omega) (by omega) hLL ?_
  rw [hz2]
  have hm : Ct mW mX9_type (.ref 0 :: ([z1, z2] : List Int).map (fun z => Value.int (iI z))) τ (qI (fun z σ' => z = (s_type M z1 z2).1 ∧ IM (s_type M z1 z2).2 σ')) := m_type M τ cm hw z1 z2 b1 b2
  refine lr_mI hm lmL_17 dL_law_225 rfl ⟨_, _, rfl⟩ (by decide) (by decide) rfl rfl (Nat.le_of_ble_eq_true rfl) (fun r2 τ1 h2 => ?_)
  obtain ⟨rfl, cm1⟩ := h2
  refine lr_eq 1336 dL_law_228 rfl ?_
  exact K _ _ _ c1 cm1 (wf_type hw z1 z2)
theorem law_1 (L : Nat) (xs : Nat → Int32) (hLL : L ≤ 384) (i : Int) (i0 : 0 ≤ i) (i1 : i + 6 ≤ L) (M σ τ : rl_S) (c : IC M σ) (cm : IM M τ) (hw : WF M) (K : ∀ (M1 σ1 τ1 : rl_S), IC M1 σ1 → IM M1 τ1 → WF M1 → Lr L xs 1336 i [] σ1 τ1) : Lr L xs 233 i [] σ τ := by
  have b1 := tb (xs (i + 1).toNat)
  generalize hz1 : (xs (i + 1).toNat).toInt = z1 at b1
  refine lr_aload dL_law_233 rfl ?_
  refine lr_aload dL_law_234 rfl ?_
  refine lr_iload dL_law_235 rfl ?_
  refine lr_iconst dL_law_236 ?_
  refine lr_iadd dL_law_237 ?_
  refine lr_sld dL_law_238 (by omega) (by omega) hLL ?_
  rw [hz1]
  have hc : Ct cW mX8_wipe (.ref 0 :: ([z1] : List Int).map (fun z => Value.int (iI z))) σ (qI (fun z σ' => z = (s_wipe M z1).1 ∧ IC (s_wipe M z1).2 σ')) := Ct.mono (c_wipe M σ c hw z1 b1) (fun r σ1 h => h)
  refine lr_cI hc lmL_18 dL_law_239 rfl ⟨_, _, rfl⟩ (by decide) (by decide) rfl rfl (Nat.le_of_ble_eq_true rfl) (fun r1 σ1 h1 => ?_)
  obtain ⟨rfl, c1⟩ := h1
  refine lr_aload dL_law_242 rfl ?_
  refine lr_aload dL_law_243 rfl ?_
  refine lr_iload dL_law_244 rfl ?_
  refine lr_iconst dL_law_245 ?_
  refine lr_iadd dL_law_246 ?_
  refine lr_sld dL_law_247 (by omega) (by omega) hLL ?_
  rw [hz1]
  have hm : Ct mW mX9_wipe (.ref 0 :: ([z1] : List Int).map (fun z => Value.int (iI z))) τ (qI (fun z σ' => z = (s_wipe M z1).1 ∧ IM (s_wipe M z1).2 σ')) := m_wipe M τ cm hw z1 b1
  refine lr_mI hm lmL_22 dL_law_248 rfl ⟨_, _, rfl⟩ (by decide) (by decide) rfl rfl (Nat.le_of_ble_eq_true rfl) (fun r2 τ1 h2 => ?_)
  obtain ⟨rfl, cm1⟩ := h2
  refine lr_eq 1336 dL_law_251 rfl ?_
  exact K _ _ _ c1 cm1 (wf_wipe hw z1)
theorem law_2 (L : Nat) (xs : Nat → Int32) (hLL : L ≤ 384) (i : Int) (i0 : 0 ≤ i) (i1 : i + 6 ≤ L) (M σ τ : rl_S) (c : IC M σ) (cm : IM M τ) (hw : WF M) (K : ∀ (M1 σ1 τ1 : rl_S), IC M1 σ1 → IM M1 τ1 → WF M1 → Lr L xs 1336 i [] σ1 τ1) : Lr L xs 256 i [] σ τ := by
  have b1 := tb (xs (i + 1).toNat)
  generalize hz1 : (xs (i + 1).toNat).toInt = z1 at b1
  refine lr_aload dL_law_256 rfl ?_
  refine lr_aload dL_law_257 rfl ?_
  refine lr_iload dL_law_258 rfl ?_
  refine lr_iconst dL_law_259 ?_
  refine lr_iadd dL_law_260 ?_
  refine lr_sld dL_law_261 (by omega) (by omega) hLL ?_
  rw [hz1]
  have hc : Ct cW mX8_undo (.ref 0 :: ([z1] : List Int).map (fun z => Value.int (iI z))) σ (qI (fun z σ' => z = (s_undo M z1).1 ∧ IC (s_undo M z1).2 σ')) := Ct.mono (c_undo M σ c hw z1 b1) (fun r σ1 h => h)
  refine lr_cI hc lmL_23 dL_law_262 rfl ⟨_, _, rfl⟩ (by decide) (by decide) rfl rfl (Nat.le_of_ble_eq_true rfl) (fun r1 σ1 h1 => ?_)
  obtain ⟨rfl, c1⟩ := h1
  refine lr_aload dL_law_265 rfl ?_
  refine lr_aload dL_law_266 rfl ?_
  refine lr_iload dL_law_267 rfl ?_
  refine lr_iconst dL_law_268 ?_
  refine lr_iadd dL_law_269 ?_
  refine lr_sld dL_law_270 (by omega) (by omega) hLL ?_
  rw [hz1]
  have hm : Ct mW mX9_undo (.ref 0 :: ([z1] : List Int).map (fun z => Value.int (iI z))) τ (qI (fun z σ' => z = (s_undo M z1).1 ∧ IM (s_undo M z1).2 σ')) := m_undo M τ cm hw z1 b1
  refine lr_mI hm lmL_26 dL_law_271 rfl ⟨_, _, rfl⟩ (by decide) (by decide) rfl rfl (Nat.le_of_ble_eq_true rfl) (fun r2 τ1 h2 => ?_)
  obtain ⟨rfl, cm1⟩ := h2
  refine lr_eq 1336 dL_law_274 rfl ?_
  exact K _ _ _ c1 cm1 (wf_undo hw z1)
theorem law_3 (L : Nat) (xs : Nat → Int32) (hLL : L ≤ 384) (i : Int) (i0 : 0 ≤ i) (i1 : i + 6 ≤ L) (M σ τ : rl_S) (c : IC M σ) (cm : IM M τ) (hw : WF M) (K : ∀ (M1 σ1 τ1 : rl_S), IC M1 σ1 → IM M1 τ1 → WF M1 → Lr L xs 1336 i [] σ1 τ1) : Lr L xs 279 i [] σ τ := by
  have b1 := tb (xs (i + 1).toNat)
  generalize hz1 : (xs (i + 1).toNat).toInt = z1 at b1
  refine lr_aload dL_law_279 rfl ?_
  refine lr_aload dL_law_280 rfl ?_
  refine lr_iload dL_law_281 rfl ?_
  refine lr_iconst dL_law_282 ?_
  refine lr_iadd dL_law_283 ?_
  refine lr_sld dL_law_284 (by omega) (by omega) hLL ?_
  rw [hz1]
  have hc : Ct cW mX8_fault (.ref 0 :: ([z1] : List Int).map (fun z => Value.int (iI z))) σ (qI (fun z σ' => z = q_fault M z1 ∧ IC M σ')) := Ct.mono (c_fault M σ c hw z1 b1) (fun r σ1 ⟨h1, h2⟩ => ⟨_, h1, rfl, by rw [h2]; exact c⟩)
  refine lr_cI hc lmL_27 dL_law_285 rfl ⟨_, _, rfl⟩ (by decide) (by decide) rfl rfl (Nat.le_of_ble_eq_true rfl) (fun r1 σ1 h1 => ?_)
  obtain ⟨rfl, c1⟩ := h1
  refine lr_aload dL_law_288 rfl ?_
  refine lr_aload dL_law_289 rfl ?_
  refine lr_iload dL_law_290 rfl ?_
  refine lr_iconst dL_law_291 ?_
  refine lr_iadd dL_law_292 ?_
  refine lr_sld dL_law_293 (by omega) (by omega) hLL ?_
  rw [hz1]
  have hm : Ct mW mX9_fault (.ref 0 :: ([z1] : List Int).map (fun z => Value.int (iI z))) τ (qI (fun z σ' => z = q_fault M z1 ∧ IM M σ')) := m_fault M τ cm hw z1 b1
  refine lr_mI hm lmL_30 dL_law_294 rfl ⟨_, _, rfl⟩ (by decide) (by decide) rfl rfl (Nat.le_of_ble_eq_true rfl) (fun r2 τ1 h2 => ?_)
  obtain ⟨rfl, cm1⟩ := h2
  refine lr_eq 1336 dL_law_297 rfl ?_
  exact K _ _ _ c1 cm1 (hw)
theorem law_4 (L : Nat) (xs : Nat → Int32) (hLL : L ≤ 384) (i : Int) (i0 : 0 ≤ i) (i1 : i + 6 ≤ L) (M σ τ : rl_S) (c : IC M σ) (cm : IM M τ) (hw : WF M) (K : ∀ (M1 σ1 τ1 : rl_S), IC M1 σ1 → IM M1 τ1 → WF M1 → Lr L xs 1336 i [] σ1 τ1) : Lr L xs 302 i [] σ τ := by
  have b1 := tb (xs (i + 1).toNat)
  generalize hz1 : (xs (i + 1).toNat).toInt = z1 at b1
  have b2 := tb (xs (i + 2).toNat)
  generalize hz2 : (xs (i + 2).toNat).toInt = z2 at b2
  refine lr_aload dL_law_302 rfl ?_
  refine lr_aload dL_law_303 rfl ?_
  refine lr_iload dL_law_304 rfl ?_
  refine lr_iconst dL_law_305 ?_
  refine lr_iadd dL_law_306 ?_
  refine lr_sld dL_law_307 (by omega) (by omega) hLL ?_
  rw [hz1]
  refine lr_aload dL_law_308 rfl ?_
  refine lr_iload dL_law_309 rfl ?_
  refine lr_iconst dL_law_310 ?_
  refine lr_iadd dL_law_311 ?_
  refine lr_sld dL_law_312 (by omega) (by omega) hLL ?_
  rw [hz2]
  have hc : Ct cW mX8_swell (.ref 0 :: ([z1, z2] : List Int).map (fun z => Value.int (iI z))) σ (qI (fun z σ' => z = q_swell M z1 z2 ∧ IC M σ')) := Ct.mono (c_swell M σ c hw z1 z2 b1 b2) (fun r σ1 ⟨h1, h2⟩ => ⟨_, h1, rfl, by rw [h2]; exact c⟩)
  refine lr_cI hc lmL_31 dL_law_313 rfl ⟨_, _, rfl⟩ (by decide) (by decide) rfl rfl (Nat.le_of_ble_eq_true rfl) (fun r1 σ1 h1 => ?_)
  obtain ⟨rfl, c1⟩ := h1
  refine lr_aload dL_law_316 rfl ?_
  refine lr_aload dL_law_317 rfl ?_
  refine lr_iload dL_law_318 rfl ?_
  refine lr_iconst dL_law_319 ?_
  refine lr_iadd dL_law_320 ?_
  refine lr_sld dL_law_321 (by omega) (by omega) hLL ?_
  rw [hz1]
  refine lr_aload dL_law_322 rfl ?_
  refine lr_iload dL_law_323 rfl ?_
  refine lr_iconst dL_law_324 ?_
  refine lr_iadd dL_law_325 ?_
  refine lr_sld dL_law_326 (by omega) (by omega) hLL ?_
  rw [hz2]
  have hm : Ct mW mX9_swell (.ref 0 :: ([z1, z2] : List Int).map (fun z => Value.int (iI z))) τ (qI (fun z σ' => z = q_swell M z1 z2 ∧ IM M σ')) := m_swell M τ cm hw z1 z2 b1 b2
  refine lr_mI hm lmL_34 dL_law_327 rfl ⟨_, _, rfl⟩ (by decide) (by decide) rfl rfl (Nat.le_of_ble_eq_true rfl) (fun r2 τ1 h2 => ?_)
  obtain ⟨rfl, cm1⟩ := h2
  refine lr_eq 1336 dL_law_330 rfl ?_
  exact K _ _ _ c1 cm1 (hw)
theorem law_5 (L : Nat) (xs : Nat → Int32) (hLL : L ≤ 384) (i : Int) (i0 : 0 ≤ i) (i1 : i + 6 ≤ L) (M σ τ : rl_S) (c : IC M σ) (cm : IM M τ) (hw : WF M) (K : ∀ (M1 σ1 τ1 : rl_S), IC M1 σ1 → IM M1 τ1 → WF M1 → Lr L xs 1336 i [] σ1 τ1) : Lr L xs 335 i [] σ τ := by
  have b1 := tb (xs (i + 1).toNat)
  generalize hz1 : (xs (i + 1).toNat).toInt = z1 at b1
  refine lr_aload dL_law_335 rfl ?_
  refine lr_aload dL_law_336 rfl ?_
  refine lr_iload dL_law_337 rfl ?_
  refine lr_iconst dL_law_338 ?_
  refine lr_iadd dL_law_339 ?_
  refine lr_sld dL_law_340 (by omega) (by omega) hLL ?_
  rw [hz1]
  have hc : Ct cW mX8_roll (.ref 0 :: ([z1] : List Int).map (fun z => Value.int (iI z))) σ (qI (fun z σ' => z = q_roll M z1 ∧ IC M σ')) := Ct.mono (c_roll M σ c hw z1 b1) (fun r σ1 ⟨h1, h2⟩ => ⟨_, h1, rfl, by rw [h2]; exact c⟩)
  refine lr_cI hc lmL_35 dL_law_341 rfl ⟨_, _, rfl⟩ (by decide) (by decide) rfl rfl (Nat.le_of_ble_eq_true rfl) (fun r1 σ1 h1 => ?_)
  obtain ⟨rfl, c1⟩ := h1
  refine lr_aload dL_law_344 rfl ?_
  refine lr_aload dL_law_345 rfl ?_
  refine lr_iload dL_law_346 rfl ?_
  refine lr_iconst dL_law_347 ?_
  refine lr_iadd dL_law_348 ?_
  refine lr_sld dL_law_349 (by omega) (by omega) hLL ?_
  rw [hz1]
  have hm : Ct mW mX9_roll (.ref 0 :: ([z1] : List Int).map (fun z => Value.int (iI z))) τ (qI (fun z σ' => z = q_roll M z1 ∧ IM M σ')) := m_roll M τ cm hw z1 b1
  refine lr_mI hm lmL_38 dL_law_350 rfl ⟨_, _, rfl⟩ (by decide) (by decide) rfl rfl (Nat.le_of_ble_eq_true rfl) (fun r2 τ1 h2 => ?_)
  obtain ⟨rfl, cm1⟩ := h2
  refine lr_eq 1336 dL_law_353 rfl ?_
  exact K _ _ _ c1 cm1 (hw)
theorem law_6 (L : Nat) (xs : Nat → Int32) (hLL : L ≤ 384) (i : Int) (i0 : 0 ≤ i) (i1 : i + 6 ≤ L) (M σ τ : rl_S) (c : IC M σ) (cm : IM M τ) (hw : WF M) (K : ∀ (M1 σ1 τ1 : rl_S), IC M1 σ1 → IM M1 τ1 → WF M1 → Lr L xs 1336 i [] σ1 τ1) : Lr L xs 358 i [] σ τ := by
  have b1 := tb (xs (i + 1).toNat)
  generalize hz1 : (xs (i + 1).toNat).toInt = z1 at b1
  have b2 := tb (xs (i + 2).toNat)
  generalize hz2 : (xs (i + 2).toNat).toInt = z2 at b2
  refine lr_aload dL_law_358 rfl ?_
  refine lr_aload dL_law_359 rfl ?_
  refine lr_iload dL_law_360 rfl ?_
  refine lr_iconst dL_law_361 ?_
  refine lr_iadd dL_law_362 ?_
  refine lr_sld dL_law_363 (by omega) (by omega) hLL ?_
  rw [hz1]
  refine lr_aload dL_law_364 rfl ?_
  refine lr_iload dL_law_365 rfl ?_
  refine lr_iconst dL_law_366 ?_
  refine lr_iadd dL_law_367 ?_
  refine lr_sld dL_law_368 (by omega) (by omega) hLL ?_
  rw [hz2]
  have hc : Ct cW mX8_begins (.ref 0 :: ([z1, z2] : List Int).map (fun z => Value.int (iI z))) σ (qI (fun z σ' => z = (s_begins M z1 z2).1 ∧ IC (s_begins M z1 z2).2 σ')) := Ct.mono (c_begins M σ c hw z1 z2 b1 b2) (fun r σ1 h => h)
  refine lr_cI hc lmL_39 dL_law_369 rfl ⟨_, _, rfl⟩ (by decide) (by decide) rfl rfl (Nat.le_of_ble_eq_true rfl) (fun r1 σ1 h1 => ?_)
  obtain ⟨rfl, c1⟩ := h1
  refine lr_aload dL_law_372 rfl ?_
  refine lr_aload dL_law_373 rfl ?_
  refine lr_iload dL_law_374 rfl ?_
  refine lr_iconst dL_law_375 ?_
  refine lr_iadd dL_law_376 ?_
  refine lr_sld dL_law_377 (by omega) (by omega) hLL ?_
  rw [hz1]
  refine lr_aload dL_law_378 rfl ?_
  refine lr_iload dL_law_379 rfl ?_
  refine lr_iconst dL_law_380 ?_
  refine lr_iadd dL_law_381 ?_
  refine lr_sld dL_law_382 (by omega) (by omega) hLL ?_
  rw [hz2]
  have hm : Ct mW mX9_begins (.ref 0 :: ([z1, z2] : List Int).map (fun z => Value.int (iI z))) τ (qI (fun z σ' => z = (s_begins M z1 z2).1 ∧ IM (s_begins M z1 z2).2 σ')) := m_begins M τ cm hw z1 z2 b1 b2
  refine lr_mI hm lmL_42 dL_law_383 rfl ⟨_, _, rfl⟩ (by decide) (by decide) rfl rfl (Nat.le_of_ble_eq_true rfl) (fun r2 τ1 h2 => ?_)
  obtain ⟨rfl, cm1⟩ := h2
  refine lr_eq 1336 dL_law_386 rfl ?_
  exact K _ _ _ c1 cm1 (wf_begins hw z1 z2)
theorem law_7 (L : Nat) (xs : Nat → Int32) (hLL : L ≤ 384) (i : Int) (i0 : 0 ≤ i) (i1 : i + 6 ≤ L) (M σ τ : rl_S) (c : IC M σ) (cm : IM M τ) (hw : WF M) (K : ∀ (M1 σ1 τ1 : rl_S), IC M1 σ1 → IM M1 τ1 → WF M1 → Lr L xs 1336 i [] σ1 τ1) : Lr L xs 391 i [] σ τ := by
  have b1 := tb (xs (i + 1).toNat)
  generalize hz1 : (xs (i + 1).toNat).toInt = z1 at b1
  have b2 := tb (xs (i + 2).toNat)
  generalize hz2 : (xs (i + 2).toNat).toInt = z2 at b2
  refine lr_aload dL_law_391 rfl ?_
  refine lr_aload dL_law_392 rfl ?_
  refine lr_iload dL_law_393 rfl ?_
  refine lr_iconst dL_law_394 ?_
  refine lr_iadd dL_law_395 ?_
  refine lr_sld dL_law_396 (by omega) (by omega) hLL ?_
  rw [hz1]
  refine lr_aload dL_law_397 rfl ?_
  refine lr_iload dL_law_398 rfl ?_
  refine lr_iconst dL_law_399 ?_
  refine lr_iadd dL_law_400 ?_
  refine lr_sld dL_law_401 (by omega) (by omega) hLL ?_
  rw [hz2]
  have hc : Ct cW mX8_lee (.ref 0 :: ([z1, z2] : List Int).map (fun z => Value.int (iI z))) σ (qI (fun z σ' => z = (s_lee M z1 z2).1 ∧ IC (s_lee M z1 z2).2 σ')) := Ct.mono (c_lee M σ c hw z1 z2 b1 b2) (fun r σ1 h => h)
  refine lr_cI hc lmL_43 dL_law_402 rfl ⟨_, _, rfl⟩ (by decide) (by decide) rfl rfl (Nat.le_of_ble_eq_true rfl) (fun r1 σ1 h1 => ?_)
  obtain ⟨rfl, c1⟩ := h1
  refine lr_aload dL_law_405 rfl ?_
  refine lr_aload dL_law_406 rfl ?_
  refine lr_iload dL_law_407 rfl ?_
  refine lr_iconst dL_law_408 ?_
  refine lr_iadd dL_law_409 ?_
  refine lr_sld dL_law_410 (by omega) (by omega) hLL ?_
  rw [hz1]
  refine lr_aload dL_law_411 rfl ?_
  refine lr_iload dL_law_412 rfl ?_
  refine lr_iconst dL_law_413 ?_
  refine lr_iadd dL_law_414 ?_
  refine lr_sld dL_law_415 (by omega) (by omega) hLL ?_
  rw [hz2]
  have hm : Ct mW mX9_lee (.ref 0 :: ([z1, z2] : List Int).map (fun z => Value.int (iI z))) τ (qI (fun z σ' => z = (s_lee M z1 z2).1 ∧ IM (s_lee M z1 z2).2 σ')) := m_lee M τ cm hw z1 z2 b1 b2
  refine lr_mI hm lmL_46 dL_law_416 rfl ⟨_, _, rfl⟩ (by decide) (by decide) rfl rfl (Nat.le_of_ble_eq_true rfl) (fun r2 τ1 h2 => ?_)
  obtain ⟨rfl, cm1⟩ := h2
  refine lr_eq 1336 dL_law_419 rfl ?_
  exact K _ _ _ c1 cm1 (wf_lee hw z1 z2)
theorem law_8 (L : Nat) (xs : Nat → Int32) (hLL : L ≤ 384) (i : Int) (i0 : 0 ≤ i) (i1 : i + 6 ≤ L) (M σ τ : rl_S) (c : IC M σ) (cm : IM M τ) (hw : WF M) (K : ∀ (M1 σ1 τ1 : rl_S), IC M1 σ1 → IM M1 τ1 → WF M1 → Lr L xs 1336 i [] σ1 τ1) : Lr L xs 424 i [] σ τ := by
  have b1 := tb (xs (i + 1).toNat)
  generalize hz1 : (xs (i + 1).toNat).toInt = z1 at b1
  have b2 := tb (xs (i + 2).toNat)
  generalize hz2 : (xs (i + 2).toNat).toInt = z2 at b2
  refine lr_aload dL_law_424 rfl ?_
  refine lr_aload dL_law_425 rfl ?_
  refine lr_iload dL_law_426 rfl ?_
  refine lr_iconst dL_law_427 ?_
  refine lr_iadd dL_law_428 ?_
  refine lr_sld dL_law_429 (by omega) (by omega) hLL ?_
  rw [hz1]
  refine lr_aload dL_law_430 rfl ?_
  refine lr_iload dL_law_431 rfl ?_
  refine lr_iconst dL_law_432 ?_
  refine lr_iadd dL_law_433 ?_
  refine lr_sld dL_law_434 (by omega) (by omega) hLL ?_
  rw [hz2]
  have hc : Ct cW mX8_set (.ref 0 :: ([z1, z2] : List Int).map (fun z => Value.int (iI z))) σ (qI (fun z σ' => z = (s_set M z1 z2).1 ∧ IC (s_set M z1 z2).2 σ')) := Ct.mono (c_set M σ c hw z1 z2 b1 b2) (fun r σ1 h => h)
  refine lr_cI hc lmL_47 dL_law_435 rfl ⟨_, _, rfl⟩ (by decide) (by decide) rfl rfl (Nat.le_of_ble_eq_true rfl) (fun r1 σ1 h1 => ?_)
  obtain ⟨rfl, c1⟩ := h1
  refine lr_aload dL_law_438 rfl ?_
  refine lr_aload dL_law_439 rfl ?_
  refine lr_iload dL_law_440 rfl ?_
  refine lr_iconst dL_law_441 ?_
  refine lr_iadd dL_law_442 ?_
  refine lr_sld dL_law_443 (by omega) (by omega) hLL ?_
  rw [hz1]
  refine lr_aload dL_law_444 rfl ?_
  refine lr_iload dL_law_445 rfl ?_
  refine lr_iconst dL_law_446 ?_
  refine lr_iadd dL_law_447 ?_
  refine lr_sld dL_law_448 (by omega) (by omega) hLL ?_
  rw [hz2]
  have hm : Ct mW mX9_set (.ref 0 :: ([z1, z2] : List Int).map (fun z => Value.int (iI z))) τ (qI (fun z σ' => z = (s_set M z1 z2).1 ∧ IM (s_set M z1 z2).2 σ')) := m_set M τ cm hw z1 z2 b1 b2
  refine lr_mI hm lmL_50 dL_law_449 rfl ⟨_, _, rfl⟩ (by decide) (by decide) rfl rfl (Nat.le_of_ble_eq_true rfl) (fun r2 τ1 h2 => ?_)
  obtain ⟨rfl, cm1⟩ := h2
  refine lr_eq 1336 dL_law_452 rfl ?_
  exact K _ _ _ c1 cm1 (wf_sset hw z1 z2)
theorem law_9 (L : Nat) (xs : Nat → Int32) (hLL : L ≤ 384) (i : Int) (i0 : 0 ≤ i) (i1 : i + 6 ≤ L) (M σ τ : rl_S) (c : IC M σ) (cm : IM M τ) (hw : WF M) (K : ∀ (M1 σ1 τ1 : rl_S), IC M1 σ1 → IM M1 τ1 → WF M1 → Lr L xs 1336 i [] σ1 τ1) : Lr L xs 457 i [] σ τ := by
  have b1 := tb (xs (i + 1).toNat)
  generalize hz1 : (xs (i + 1).toNat).toInt = z1 at b1
  refine lr_aload dL_law_457 rfl ?_
  refine lr_aload dL_law_458 rfl ?_
  refine lr_iload dL_law_459 rfl ?_
  refine lr_iconst dL_law_460 ?_
  refine lr_iadd dL_law_461 ?_
  refine lr_sld dL_law_462 (by omega) (by omega) hLL ?_
  rw [hz1]
  have hc : Ct cW mX8_high (.ref 0 :: ([z1] : List Int).map (fun z => Value.int (iI z))) σ (qI (fun z σ' => z = q_high M z1 ∧ IC M σ')) := Ct.mono (c_high M σ c hw z1 b1) (fun r σ1 ⟨h1, h2⟩ => ⟨_, h1, rfl, by rw [h2]; exact c⟩)
  refine lr_cI hc lmL_51 dL_law_463 rfl ⟨_, _, rfl⟩ (by decide) (by decide) rfl rfl (Nat.le_of_ble_eq_true rfl) (fun r1 σ1 h1 => ?_)
  obtain ⟨rfl, c1⟩ := h1
  refine lr_aload dL_law_466 rfl ?_
  refine lr_aload dL_law_467 rfl ?_
  refine lr_iload dL_law_468 rfl ?_
  refine lr_iconst dL_law_469 ?_
  refine lr_iadd dL_law_470 ?_
  refine lr_sld dL_law_471 (by omega) (by omega) hLL ?_
  rw [hz1]
  have hm : Ct mW mX9_high (.ref 0 :: ([z1] : List Int).map (fun z => Value.int (iI z))) τ (qI (fun z σ' => z = q_high M z1 ∧ IM M σ')) := m_high M τ cm hw z1 b1
  refine lr_mI hm lmL_54 dL_law_472 rfl ⟨_, _, rfl⟩ (by decide) (by decide) rfl rfl (Nat.le_of_ble_eq_true rfl) (fun r2 τ1 h2 => ?_)
  obtain ⟨rfl, cm1⟩ := h2
  refine lr_eq 1336 dL_law_475 rfl ?_
  exact K _ _ _ c1 cm1 (hw)
theorem law_10 (L : Nat) (xs : Nat → Int32) (hLL : L ≤ 384) (i : Int) (i0 : 0 ≤ i) (i1 : i + 6 ≤ L) (M σ τ : rl_S) (c : IC M σ) (cm : IM M τ) (hw : WF M) (K : ∀ (M1 σ1 τ1 : rl_S), IC M1 σ1 → IM M1 τ1 → WF M1 → Lr L xs 1336 i [] σ1 τ1) : Lr L xs 480 i [] σ τ := by
  have b1 := tb (xs (i + 1).toNat)
  generalize hz1 : (xs (i + 1).toNat).toInt = z1 at b1
  refine lr_aload dL_law_480 rfl ?_
  refine lr_aload dL_law_481 rfl ?_
  refine lr_iload dL_law_482 rfl ?_
  refine lr_iconst dL_law_483 ?_
  refine lr_iadd dL_law_484 ?_
  refine lr_sld dL_law_485 (by omega) (by omega) hLL ?_
  rw [hz1]
  have hc : Ct cW mX8_does (.ref 0 :: ([z1] : List Int).map (fun z => Value.int (iI z))) σ (qI (fun z σ' => z = q_does M z1 ∧ IC M σ')) := Ct.mono (c_does M σ c hw z1 b1) (fun r σ1 ⟨h1, h2⟩ => ⟨_, h1, rfl, by rw [h2]; exact c⟩)
  refine lr_cI hc lmL_55 dL_law_486 rfl ⟨_, _, rfl⟩ (by decide) (by decide) rfl rfl (Nat.le_of_ble_eq_true rfl) (fun r1 σ1 h1 => ?_)
  obtain ⟨rfl, c1⟩ := h1
  refine lr_aload dL_law_489 rfl ?_
  refine lr_aload dL_law_490 rfl ?_
  refine lr_iload dL_law_491 rfl ?_
  refine lr_iconst dL_law_492 ?_
  refine lr_iadd dL_law_493 ?_
  refine lr_sld dL_law_494 (by omega) (by omega) hLL ?_
  rw [hz1]
  have hm : Ct mW mX9_does (.ref 0 :: ([z1] : List Int).map (fun z => Value.int (iI z))) τ (qI (fun z σ' => z = q_does M z1 ∧ IM M σ')) := m_does M τ cm hw z1 b1
  refine lr_mI hm lmL_58 dL_law_495 rfl ⟨_, _, rfl⟩ (by decide) (by decide) rfl rfl (Nat.le_of_ble_eq_true rfl) (fun r2 τ1 h2 => ?_)
  obtain ⟨rfl, cm1⟩ := h2
  refine lr_eq 1336 dL_law_498 rfl ?_
  exact K _ _ _ c1 cm1 (hw)
theorem law_11 (L : Nat) (xs : Nat → Int32) (hLL : L ≤ 384) (i : Int) (i0 : 0 ≤ i) (i1 : i + 6 ≤ L) (M σ τ : rl_S) (c : IC M σ) (cm : IM M τ) (hw : WF M) (K : ∀ (M1 σ1 τ1 : rl_S), IC M1 σ1 → IM M1 τ1 → WF M1 → Lr L xs 1336 i [] σ1 τ1) : Lr L xs 503 i [] σ τ := by
  have b1 := tb (xs (i + 1).toNat)
  generalize hz1 : (xs (i + 1).toNat).toInt = z1 at b1
  refine lr_aload dL_law_503 rfl ?_
  refine lr_aload dL_law_504 rfl ?_
  refine lr_iload dL_law_505 rfl ?_
  refine lr_iconst dL_law_506 ?_
  refine lr_iadd dL_law_507 ?_
  refine lr_sld dL_law_508 (by omega) (by omega) hLL ?_
  rw [hz1]
  have hc : Ct cW mX8_leans (.ref 0 :: ([z1] : List Int).map (fun z => Value.int (iI z))) σ (qI (fun z σ' => z = q_leans M z1 ∧ IC M σ')) := Ct.mono (c_leans M σ c hw z1 b1) (fun r σ1 ⟨h1, h2⟩ => ⟨_, h1, rfl, by rw [h2]; exact c⟩)
  refine lr_cI hc lmL_59 dL_law_509 rfl ⟨_, _, rfl⟩ (by decide) (by decide) rfl rfl (Nat.le_of_ble_eq_true rfl) (fun r1 σ1 h1 => ?_)
  obtain ⟨rfl, c1⟩ := h1
  refine lr_aload dL_law_512 rfl ?_
  refine lr_aload dL_law_513 rfl ?_
  refine lr_iload dL_law_514 rfl ?_
  refine lr_iconst dL_law_515 ?_
  refine lr_iadd dL_law_516 ?_
  refine lr_sld dL_law_517 (by omega) (by omega) hLL ?_
  rw [hz1]
  have hm : Ct mW mX9_leans (.ref 0 :: ([z1] : List Int).map (fun z => Value.int (iI z))) τ (qI (fun z σ' => z = q_leans M z1 ∧ IM M σ')) := m_leans M τ cm hw z1 b1
  refine lr_mI hm lmL_62 dL_law_518 rfl ⟨_, _, rfl⟩ (by decide) (by decide) rfl rfl (Nat.le_of_ble_eq_true rfl) (fun r2 τ1 h2 => ?_)
  obtain ⟨rfl, cm1⟩ := h2
  refine lr_eq 1336 dL_law_521 rfl ?_
  exact K _ _ _ c1 cm1 (hw)
theorem law_12 (L : Nat) (xs : Nat → Int32) (hLL : L ≤ 384) (i : Int) (i0 : 0 ≤ i) (i1 : i + 6 ≤ L) (M σ τ : rl_S) (c : IC M σ) (cm : IM M τ) (hw : WF M) (K : ∀ (M1 σ1 τ1 : rl_S), IC M1 σ1 → IM M1 τ1 → WF M1 → Lr L xs 1336 i [] σ1 τ1) : Lr L xs 526 i [] σ τ := by
  have b1 := tb (xs (i + 1).toNat)
  generalize hz1 : (xs (i + 1).toNat).toInt = z1 at b1
  have b2 := tb (xs (i + 2).toNat)
  generalize hz2 : (xs (i + 2).toNat).toInt = z2 at b2
  refine lr_aload dL_law_526 rfl ?_
  refine lr_aload dL_law_527 rfl ?_
  refine lr_iload dL_law_528 rfl ?_
  refine lr_iconst dL_law_529 ?_
  refine lr_iadd dL_law_530 ?_
  refine lr_sld dL_law_531 (by omega) (by omega) hLL ?_
  rw [hz1]
  refine lr_aload dL_law_532 rfl ?_
  refine lr_iload dL_law_533 rfl ?_
  refine lr_iconst dL_law_534 ?_
  refine lr_iadd dL_law_535 ?_
  refine lr_sld dL_law_536 (by omega) (by omega) hLL ?_
  rw [hz2]
  have hc : Ct cW mX8_crest (.ref 0 :: ([z1, z2] : List Int).map (fun z => Value.int (iI z))) σ (qI (fun z σ' => z = q_crest M z1 z2 ∧ IC M σ')) := Ct.mono (c_crest M σ c hw z1 z2 b1 b2) (fun r σ1 ⟨h1, h2⟩ => ⟨_, h1, rfl, by rw [h2]; exact c⟩)
  refine lr_cI hc lmL_63 dL_law_537 rfl ⟨_, _, rfl⟩ (by decide) (by decide) rfl rfl (Nat.le_of_ble_eq_true rfl) (fun r1 σ1 h1 => ?_)
  obtain ⟨rfl, c1⟩ := h1
  refine lr_aload dL_law_540 rfl ?_
  refine lr_aload dL_law_541 rfl ?_
  refine lr_iload dL_law_542 rfl ?_
  refine lr_iconst dL_law_543 ?_
  refine lr_iadd dL_law_544 ?_
  refine lr_sld dL_law_545 (by omega) (by omega) hLL ?_
  rw [hz1]
  refine lr_aload dL_law_546 rfl ?_
  refine lr_iload dL_law_547 rfl ?_
  refine lr_iconst dL_law_548 ?_
  refine lr_iadd dL_law_549 ?_
  refine lr_sld dL_law_550 (by omega) (by omega) hLL ?_
  rw [hz2]
  have hm : Ct mW mX9_crest (.ref 0 :: ([z1, z2] : List Int).map (fun z => Value.int (iI z))) τ (qI (fun z σ' => z = q_crest M z1 z2 ∧ IM M σ')) := m_crest M τ cm hw z1 z2 b1 b2
  refine lr_mI hm lmL_66 dL_law_551 rfl ⟨_, _, rfl⟩ (by decide) (by decide) rfl rfl (Nat.le_of_ble_eq_true rfl) (fun r2 τ1 h2 => ?_)
  obtain ⟨rfl, cm1⟩ := h2
  refine lr_eq 1336 dL_law_554 rfl ?_
  exact K _ _ _ c1 cm1 (hw)
theorem law_13 (L : Nat) (xs : Nat → Int32) (hLL : L ≤ 384) (i : Int) (i0 : 0 ≤ i) (i1 : i + 6 ≤ L) (M σ τ : rl_S) (c : IC M σ) (cm : IM M τ) (hw : WF M) (K : ∀ (M1 σ1 τ1 : rl_S), IC M1 σ1 → IM M1 τ1 → WF M1 → Lr L xs 1336 i [] σ1 τ1) : Lr L xs 559 i [] σ τ := by
  have b1 := tb (xs (i + 1).toNat)
  generalize hz1 : (xs (i + 1).toNat).toInt = z1 at b1
  refine lr_aload dL_law_559 rfl ?_
  refine lr_aload dL_law_560 rfl ?_
  refine lr_iload dL_law_561 rfl ?_
  refine lr_iconst dL_law_562 ?_
  refine lr_iadd dL_law_563 ?_
  refine lr_sld dL_law_564 (by omega) (by omega) hLL ?_
  rw [hz1]
  have hc : Ct cW mX8_seventh (.ref 0 :: ([z1] : List Int).map (fun z => Value.int (iI z))) σ (qI (fun z σ' => z = q_seventh M z1 ∧ IC M σ')) := Ct.mono (c_seventh M σ c hw z1 b1) (fun r σ1 ⟨h1, h2⟩ => ⟨_, h1, rfl, by rw [h2]; exact c⟩)
  refine lr_cI hc lmL_67 dL_law_565 rfl ⟨_, _, rfl⟩ (by decide) (by decide) rfl rfl (Nat.le_of_ble_eq_true rfl) (fun r1 σ1 h1 => ?_)
  obtain ⟨rfl, c1⟩ := h1
  refine lr_aload dL_law_568 rfl ?_
  refine lr_aload dL_law_569 rfl ?_
  refine lr_iload dL_law_570 rfl ?_
  refine lr_iconst dL_law_571 ?_
  refine lr_iadd dL_law_572 ?_
  refine lr_sld dL_law_573 (by omega) (by omega) hLL ?_
  rw [hz1]
  have hm : Ct mW mX9_seventh (.ref 0 :: ([z1] : List Int).map (fun z => Value.int (iI z))) τ (qI (fun z σ' => z = q_seventh M z1 ∧ IM M σ')) := m_seventh M τ cm hw z1 b1
  refine lr_mI hm lmL_70 dL_law_574 rfl ⟨_, _, rfl⟩ (by decide) (by decide) rfl rfl (Nat.le_of_ble_eq_true rfl) (fun r2 τ1 h2 => ?_)
  obtain ⟨rfl, cm1⟩ := h2
  refine lr_eq 1336 dL_law_577 rfl ?_
  exact K _ _ _ c1 cm1 (hw)
theorem law_14 (L : Nat) (xs : Nat → Int32) (hLL : L ≤ 384) (i : Int) (i0 : 0 ≤ i) (i1 : i + 6 ≤ L) (M σ τ : rl_S) (c : IC M σ) (cm : IM M τ) (hw : WF M) (K : ∀ (M1 σ1 τ1 : rl_S), IC M1 σ1 → IM M1 τ1 → WF M1 → Lr L xs 1336 i [] σ1 τ1) : Lr L xs 582 i [] σ τ := by
  have b1 := tb (xs (i + 1).toNat)
  generalize hz1 : (xs (i + 1).toNat).toInt = z1 at b1
  have b2 := tb (xs (i + 2).toNat)
  generalize hz2 : (xs (i + 2).toNat).toInt = z2 at b2
  have b3 := tb (xs (i + 3).toNat)
  generalize hz3 : (xs (i + 3).toNat).toInt = z3 at b3
  refine lr_aload dL_law_582 rfl ?_
  refine lr_aload dL_law_583 rfl ?_
  refine lr_iload dL_law_584 rfl ?_
  refine lr_iconst dL_law_585 ?_
  refine lr_iadd dL_law_586 ?_
  refine lr_sld dL_law_587 (by omega) (by omega) hLL ?_
  rw [hz1]
  refine lr_aload dL_law_588 rfl ?_
  refine lr_iload dL_law_589 rfl ?_
  refine lr_iconst dL_law_590 ?_
  refine lr_iadd dL_law_591 ?_
  refine lr_sld dL_law_592 (by omega) (by omega) hLL ?_
  rw [hz2]
  refine lr_aload dL_law_593 rfl ?_
  refine lr_iload dL_law_594 rfl ?_
  refine lr_iconst dL_law_595 ?_
  refine lr_iadd dL_law_596 ?_
  refine lr_sld dL_law_597 (by omega) (by omega) hLL ?_
  rw [hz3]
  have hc : Ct cW mX8_lull (.ref 0 :: ([z1, z2, z3] : List Int).map (fun z => Value.int (iI z))) σ (qI (fun z σ' => z = q_lull M z1 z2 z3 ∧ IC M σ')) := Ct.mono (c_lull M σ c hw z1 z2 z3 b1 b2 b3) (fun r σ1 ⟨z, h1, h2, h3⟩ => ⟨z, h1, h2, by rw [h3]; exact c⟩)
  refine lr_cI hc lmL_71 dL_law_598 rfl ⟨_, _, rfl⟩ (by decide) (by decide) rfl rfl (Nat.le_of_ble_eq_true rfl) (fun r1 σ1 h1 => ?_)
  obtain ⟨rfl, c1⟩ := h1
  refine lr_aload dL_law_601 rfl ?_
  refine lr_aload dL_law_602 rfl ?_
  refine lr_iload dL_law_603 rfl ?_
  refine lr_iconst dL_law_604 ?_
  refine lr_iadd dL_law_605 ?_
  refine lr_sld dL_law_606 (by omega) (by omega) hLL ?_
  rw [hz1]
  refine lr_aload dL_law_607 rfl ?_
  refine lr_iload dL_law_608 rfl ?_
  refine lr_iconst dL_law_609 ?_
  refine lr_iadd dL_law_610 ?_
  refine lr_sld dL_law_611 (by omega) (by omega) hLL ?_
  rw [hz2]
  refine lr_aload dL_law_612 rfl ?_
  refine lr_iload dL_law_613 rfl ?_
  refine lr_iconst dL_law_614 ?_
  refine lr_iadd dL_law_615 ?_
  refine lr_sld dL_law_616 (by omega) (by omega) hLL ?_
  rw [hz3]
  have hm : Ct mW mX9_lull (.ref 0 :: ([z1, z2, z3] : List Int).map (fun z => Value.int (iI z))) τ (qI (fun z σ' => z = q_lull M z1 z2 z3 ∧ IM M σ')) := m_lull M τ cm hw z1 z2 z3 b1 b2 b3
  refine lr_mI hm lmL_75 dL_law_617 rfl ⟨_, _, rfl⟩ (by decide) (by decide) rfl rfl (Nat.le_of_ble_eq_true rfl) (fun r2 τ1 h2 => ?_)
  obtain ⟨rfl, cm1⟩ := h2
  refine lr_eq 1336 dL_law_620 rfl ?_
  exact K _ _ _ c1 cm1 (hw)
theorem law_15 (L : Nat) (xs : Nat → Int32) (hLL : L ≤ 384) (i : Int) (i0 : 0 ≤ i) (i1 : i + 6 ≤ L) (M σ τ : rl_S) (c : IC M σ) (cm : IM M τ) (hw : WF M) (K : ∀ (M1 σ1 τ1 : rl_S), IC M1 σ1 → IM M1 τ1 → WF M1 → Lr L xs 1336 i [] σ1 τ1) : Lr L xs 625 i [] σ τ := by
  have b1 := tb (xs (i + 1).toNat)
  generalize hz1 : (xs (i + 1).toNat).toInt = z1 at b1
  refine lr_aload dL_law_625 rfl ?_
  refine lr_aload dL_law_626 rfl ?_
  refine lr_iload dL_law_627 rfl ?_
  refine lr_iconst dL_law_628 ?_
  refine lr_iadd dL_law_629 ?_
  refine lr_sld dL_law_630 (by omega) (by omega) hLL ?_
  rw [hz1]
  have hc : Ct cW mX8_step (.ref 0 :: ([z1] : List Int).map (fun z => Value.int (iI z))) σ (qI (fun z σ' => z = q_step M z1 ∧ IC M σ')) := Ct.mono (c_step M σ c hw z1 b1) (fun r σ1 ⟨h1, h2⟩ => ⟨_, h1, rfl, by rw [h2]; exact c⟩)
  refine lr_cI hc lmL_76 dL_law_631 rfl ⟨_, _, rfl⟩ (by decide) (by decide) rfl rfl (Nat.le_of_ble_eq_true rfl) (fun r1 σ1 h1 => ?_)
  obtain ⟨rfl, c1⟩ := h1
  refine lr_aload dL_law_634 rfl ?_
  refine lr_aload dL_law_635 rfl ?_
  refine lr_iload dL_law_636 rfl ?_
  refine lr_iconst dL_law_637 ?_
  refine lr_iadd dL_law_638 ?_
  refine lr_sld dL_law_639 (by omega) (by omega) hLL ?_
  rw [hz1]
  have hm : Ct mW mX9_step (.ref 0 :: ([z1] : List Int).map (fun z => Value.int (iI z))) τ (qI (fun z σ' => z = q_step M z1 ∧ IM M σ')) := m_step M τ cm hw z1 b1
  refine lr_mI hm lmL_79 dL_law_640 rfl ⟨_, _, rfl⟩ (by decide) (by decide) rfl rfl (Nat.le_of_ble_eq_true rfl) (fun r2 τ1 h2 => ?_)
  obtain ⟨rfl, cm1⟩ := h2
  refine lr_eq 1336 dL_law_643 rfl ?_
  exact K _ _ _ c1 cm1 (hw)
theorem law_16 (L : Nat) (xs : Nat → Int32) (hLL : L ≤ 384) (i : Int) (i0 : 0 ≤ i) (i1 : i + 6 ≤ L) (M σ τ : rl_S) (c : IC M σ) (cm : IM M τ) (hw : WF M) (K : ∀ (M1 σ1 τ1 : rl_S), IC M1 σ1 → IM M1 τ1 → WF M1 → Lr L xs 1336 i [] σ1 τ1) : Lr L xs 648 i [] σ τ := by
  have b1 := tb (xs (i + 1).toNat)
  generalize hz1 : (xs (i + 1).toNat).toInt = z1 at b1
  refine lr_aload dL_law_648 rfl ?_
  refine lr_aload dL_law_649 rfl ?_
  refine lr_iload dL_law_650 rfl ?_
  refine lr_iconst dL_law_651 ?_
  refine lr_iadd dL_law_652 ?_
  refine lr_sld dL_law_653 (by omega) (by omega) hLL ?_
  rw [hz1]
  have hc : Ct cW mX8_fall (.ref 0 :: ([z1] : List Int).map (fun z => Value.int (iI z))) σ (qI (fun z σ' => z = q_fall M z1 ∧ IC M σ')) := Ct.mono (c_fall M σ c hw z1 b1) (fun r σ1 ⟨h1, h2⟩ => ⟨_, h1, rfl, by rw [h2]; exact c⟩)
  refine lr_cI hc lmL_80 dL_law_654 rfl ⟨_, _, rfl⟩ (by decide) (by decide) rfl rfl (Nat.le_of_ble_eq_true rfl) (fun r1 σ1 h1 => ?_)
  obtain ⟨rfl, c1⟩ := h1
  refine lr_aload dL_law_657 rfl ?_
  refine lr_aload dL_law_658 rfl ?_
  refine lr_iload dL_law_659 rfl ?_
  refine lr_iconst dL_law_660 ?_
  refine lr_iadd dL_law_661 ?_
  refine lr_sld dL_law_662 (by omega) (by omega) hLL ?_
  rw [hz1]
  have hm : Ct mW mX9_fall (.ref 0 :: ([z1] : List Int).map (fun z => Value.int (iI z))) τ (qI (fun z σ' => z = q_fall M z1 ∧ IM M σ')) := m_fall M τ cm hw z1 b1
  refine lr_mI hm lmL_83 dL_law_663 rfl ⟨_, _, rfl⟩ (by decide) (by decide) rfl rfl (Nat.le_of_ble_eq_true rfl) (fun r2 τ1 h2 => ?_)
  obtain ⟨rfl, cm1⟩ := h2
  refine lr_eq 1336 dL_law_666 rfl ?_
  exact K _ _ _ c1 cm1 (hw)
theorem law_17 (L : Nat) (xs : Nat → Int32) (hLL : L ≤ 384) (i : Int) (i0 : 0 ≤ i) (i1 : i + 6 ≤ L) (M σ τ : rl_S) (c : IC M σ) (cm : IM M τ) (hw : WF M) (K : ∀ (M1 σ1 τ1 : rl_S), IC M1 σ1 → IM M1 τ1 → WF M1 → Lr L xs 1336 i [] σ1 τ1) : Lr L xs 671 i [] σ τ := by
  have b1 := tb (xs (i + 1).toNat)
  generalize hz1 : (xs (i + 1).toNat).toInt = z1 at b1
  refine lr_aload dL_law_671 rfl ?_
  refine lr_aload dL_law_672 rfl ?_
  refine lr_iload dL_law_673 rfl ?_
  refine lr_iconst dL_law_674 ?_
  refine lr_iadd dL_law_675 ?_
  refine lr_sld dL_law_676 (by omega) (by omega) hLL ?_
  rw [hz1]
  have hc : Ct cW mX8_climb (.ref 0 :: ([z1] : List Int).map (fun z => Value.int (iI z))) σ (qI (fun z σ' => z = q_climb M z1 ∧ IC M σ')) := Ct.mono (c_climb M σ c hw z1 b1) (fun r σ1 h => h)
  refine lr_cI hc lmL_84 dL_law_677 rfl ⟨_, _, rfl⟩ (by decide) (by decide) rfl rfl (Nat.le_of_ble_eq_true rfl) (fun r1 σ1 h1 => ?_)
  obtain ⟨rfl, c1⟩ := h1
  refine lr_aload dL_law_680 rfl ?_
  refine lr_aload dL_law_681 rfl ?_
  refine lr_iload dL_law_682 rfl ?_
  refine lr_iconst dL_law_683 ?_
  refine lr_iadd dL_law_684 ?_
  refine lr_sld dL_law_685 (by omega) (by omega) hLL ?_
  rw [hz1]
  have hm : Ct mW mX9_climb (.ref 0 :: ([z1] : List Int).map (fun z => Value.int (iI z))) τ (qI (fun z σ' => z = q_climb M z1 ∧ IM M σ')) := m_climb M τ cm hw z1 b1
  refine lr_mI hm lmL_87 dL_law_686 rfl ⟨_, _, rfl⟩ (by decide) (by decide) rfl rfl (Nat.le_of_ble_eq_true rfl) (fun r2 τ1 h2 => ?_)
  obtain ⟨rfl, cm1⟩ := h2
  refine lr_eq 1336 dL_law_689 rfl ?_
  exact K _ _ _ c1 cm1 (hw)
theorem law_18 (L : Nat) (xs : Nat → Int32) (hLL : L ≤ 384) (i : Int) (i0 : 0 ≤ i) (i1 : i + 6 ≤ L) (M σ τ : rl_S) (c : IC M σ) (cm : IM M τ) (hw : WF M) (K : ∀ (M1 σ1 τ1 : rl_S), IC M1 σ1 → IM M1 τ1 → WF M1 → Lr L xs 1336 i [] σ1 τ1) : Lr L xs 694 i [] σ τ := by
  have b1 := tb (xs (i + 1).toNat)
  generalize hz1 : (xs (i + 1).toNat).toInt = z1 at b1
  refine lr_aload dL_law_694 rfl ?_
  refine lr_aload dL_law_695 rfl ?_
  refine lr_iload dL_law_696 rfl ?_
  refine lr_iconst dL_law_697 ?_
  refine lr_iadd dL_law_698 ?_
  refine lr_sld dL_law_699 (by omega) (by omega) hLL ?_
  rw [hz1]
  have hc : Ct cW mX8_bangs (.ref 0 :: ([z1] : List Int).map (fun z => Value.int (iI z))) σ (qI (fun z σ' => z = q_bangs M z1 ∧ IC M σ')) := Ct.mono (c_bangs M σ c hw z1 b1) (fun r σ1 h => h)
  refine lr_cI hc lmL_88 dL_law_700 rfl ⟨_, _, rfl⟩ (by decide) (by decide) rfl rfl (Nat.le_of_ble_eq_true rfl) (fun r1 σ1 h1 => ?_)
  obtain ⟨rfl, c1⟩ := h1
  refine lr_aload dL_law_703 rfl ?_
  refine lr_aload dL_law_704 rfl ?_
  refine lr_iload dL_law_705 rfl ?_
  refine lr_iconst dL_law_706 ?_
  refine lr_iadd dL_law_707 ?_
  refine lr_sld dL_law_708 (by omega) (by omega) hLL ?_
  rw [hz1]
  have hm : Ct mW mX9_bangs (.ref 0 :: ([z1] : List Int).map (fun z => Value.int (iI z))) τ (qI (fun z σ' => z = q_bangs M z1 ∧ IM M σ')) := m_bangs M τ cm hw z1 b1
  refine lr_mI hm lmL_91 dL_law_709 rfl ⟨_, _, rfl⟩ (by decide) (by decide) rfl rfl (Nat.le_of_ble_eq_true rfl) (fun r2 τ1 h2 => ?_)
  obtain ⟨rfl, cm1⟩ := h2
  refine lr_eq 1336 dL_law_712 rfl ?_
  exact K _ _ _ c1 cm1 (hw)
theorem law_19 (L : Nat) (xs : Nat → Int32) (hLL : L ≤ 384) (i : Int) (i0 : 0 ≤ i) (i1 : i + 6 ≤ L) (M σ τ : rl_S) (c : IC M σ) (cm : IM M τ) (hw : WF M) (K : ∀ (M1 σ1 τ1 : rl_S), IC M1 σ1 → IM M1 τ1 → WF M1 → Lr L xs 1336 i [] σ1 τ1) : Lr L xs 717 i [] σ τ := by
  have b1 := tb (xs (i + 1).toNat)
  generalize hz1 : (xs (i + 1).toNat).toInt = z1 at b1
  have b2 := tb (xs (i + 2).toNat)
  generalize hz2 : (xs (i + 2).toNat).toInt = z2 at b2
  refine lr_aload dL_law_717 rfl ?_
  refine lr_aload dL_law_718 rfl ?_
  refine lr_iload dL_law_719 rfl ?_
  refine lr_iconst dL_law_720 ?_
  refine lr_iadd dL_law_721 ?_
  refine lr_sld dL_law_722 (by omega) (by omega) hLL ?_
  rw [hz1]
  refine lr_aload dL_law_723 rfl ?_
  refine lr_iload dL_law_724 rfl ?_
  refine lr_iconst dL_law_725 ?_
  refine lr_iadd dL_law_726 ?_
  refine lr_sld dL_law_727 (by omega) (by omega) hLL ?_
  rw [hz2]
  have hc : Ct cW mX8_safe (.ref 0 :: ([z1, z2] : List Int).map (fun z => Value.int (iI z))) σ (qL (fun z σ' => z = q_safe M z1 z2 ∧ IC M σ')) := Ct.mono (c_safe M σ c hw z1 b1 z2 b2) (fun r σ1 h => h)
  refine lr_cL hc lmL_92 dL_law_728 rfl ⟨_, _, rfl⟩ (by decide) (by decide) rfl rfl (Nat.le_of_ble_eq_true rfl) (fun r1 σ1 h1 => ?_)
  obtain ⟨rfl, c1⟩ := h1
  refine lr_aload dL_law_731 rfl ?_
  refine lr_aload dL_law_732 rfl ?_
  refine lr_iload dL_law_733 rfl ?_
  refine lr_iconst dL_law_734 ?_
  refine lr_iadd dL_law_735 ?_
  refine lr_sld dL_law_736 (by omega) (by omega) hLL ?_
  rw [hz1]
  refine lr_aload dL_law_737 rfl ?_
  refine lr_iload dL_law_738 rfl ?_
  refine lr_iconst dL_law_739 ?_
  refine lr_iadd dL_law_740 ?_
  refine lr_sld dL_law_741 (by omega) (by omega) hLL ?_
  rw [hz2]
  have hm : Ct mW mX9_safe (.ref 0 :: ([z1, z2] : List Int).map (fun z => Value.int (iI z))) τ (qL (fun z σ' => z = q_safe M z1 z2 ∧ IM M σ')) := m_safe M τ cm hw z1 z2 b1 b2
  refine lr_mL hm lmL_96 dL_law_742 rfl ⟨_, _, rfl⟩ (by decide) (by decide) rfl rfl (Nat.le_of_ble_eq_true rfl) (fun r2 τ1 h2 => ?_)
  obtain ⟨rfl, cm1⟩ := h2
  refine lr_leq 1336 dL_law_745 dL_law_746 rfl ?_
  exact K _ _ _ c1 cm1 (hw)
theorem law_20 (L : Nat) (xs : Nat → Int32) (hLL : L ≤ 384) (i : Int) (i0 : 0 ≤ i) (i1 : i + 6 ≤ L) (M σ τ : rl_S) (c : IC M σ) (cm : IM M τ) (hw : WF M) (K : ∀ (M1 σ1 τ1 : rl_S), IC M1 σ1 → IM M1 τ1 → WF M1 → Lr L xs 1336 i [] σ1 τ1) : Lr L xs 751 i [] σ τ := by
  have b1 := tb (xs (i + 1).toNat)
  generalize hz1 : (xs (i + 1).toNat).toInt = z1 at b1
  have b2 := tb (xs (i + 2).toNat)
  generalize hz2 : (xs (i + 2).toNat).toInt = z2 at b2
  refine lr_aload dL_law_751 rfl ?_
  refine lr_aload dL_law_752 rfl ?_
  refine lr_iload dL_law_753 rfl ?_
  refine lr_iconst dL_law_754 ?_
  refine lr_iadd dL_law_755 ?_
  refine lr_sld dL_law_756 (by omega) (by omega) hLL ?_
  rw [hz1]
  refine lr_aload dL_law_757 rfl ?_
  refine lr_iload dL_law_758 rfl ?_
  refine lr_iconst dL_law_759 ?_
  refine lr_iadd dL_law_760 ?_
  refine lr_sld dL_law_761 (by omega) (by omega) hLL ?_
  rw [hz2]
  have hc : Ct cW mX8_best (.ref 0 :: ([z1, z2] : List Int).map (fun z => Value.int (iI z))) σ (qI (fun z σ' => z = q_best M z1 z2 ∧ IC M σ')) := Ct.mono (c_best M σ c hw z1 z2 b1 b2) (fun r σ1 ⟨z, h1, h2, h3⟩ => ⟨z, h1, h2, ic_k c (fun k i g _ => h3 k i g)⟩)
  refine lr_cI hc lmL_97 dL_law_762 rfl ⟨_, _, rfl⟩ (by decide) (by decide) rfl rfl (Nat.le_of_ble_eq_true rfl) (fun r1 σ1 h1 => ?_)
  obtain ⟨rfl, c1⟩ := h1
  refine lr_aload dL_law_765 rfl ?_
  refine lr_aload dL_law_766 rfl ?_
  refine lr_iload dL_law_767 rfl ?_
  refine lr_iconst dL_law_768 ?_
  refine lr_iadd dL_law_769 ?_
  refine lr_sld dL_law_770 (by omega) (by omega) hLL ?_
  rw [hz1]
  refine lr_aload dL_law_771 rfl ?_
  refine lr_iload dL_law_772 rfl ?_
  refine lr_iconst dL_law_773 ?_
  refine lr_iadd dL_law_774 ?_
  refine lr_sld dL_law_775 (by omega) (by omega) hLL ?_
  rw [hz2]
  have hm : Ct mW mX9_best (.ref 0 :: ([z1, z2] : List Int).map (fun z => Value.int (iI z))) τ (qI (fun z σ' => z = q_best M z1 z2 ∧ IM M σ')) := m_best M τ cm hw z1 z2 b1 b2
  refine lr_mI hm lmL_100 dL_law_776 rfl ⟨_, _, rfl⟩ (by decide) (by decide) rfl rfl (Nat.le_of_ble_eq_true rfl) (fun r2 τ1 h2 => ?_)
  obtain ⟨rfl, cm1⟩ := h2
  refine lr_eq 1336 dL_law_779 rfl ?_
  exact K _ _ _ c1 cm1 (hw)
theorem law_21 (L : Nat) (xs : Nat → Int32) (hLL : L ≤ 384) (i : Int) (i0 : 0 ≤ i) (i1 : i + 6 ≤ L) (M σ τ : rl_S) (c : IC M σ) (cm : IM M τ) (hw : WF M) (K : ∀ (M1 σ1 τ1 : rl_S), IC M1 σ1 → IM M1 τ1 → WF M1 → Lr L xs 1336 i [] σ1 τ1) : Lr L xs 784 i [] σ τ := by
  have b1 := tb (xs (i + 1).toNat)
  generalize hz1 : (xs (i + 1).toNat).toInt = z1 at b1
  have b2 := tb (xs (i + 2).toNat)
  generalize hz2 : (xs (i + 2).toNat).toInt = z2 at b2
  refine lr_aload dL_law_784 rfl ?_
  refine lr_aload dL_law_785 rfl ?_
  refine lr_iload dL_law_786 rfl ?_
  refine lr_iconst dL_law_787 ?_
  refine lr_iadd dL_law_788 ?_
  refine lr_sld dL_law_789 (by omega) (by omega) hLL ?_
  rw [hz1]
  refine lr_aload dL_law_790 rfl ?_
  refine lr_iload dL_law_791 rfl ?_
  refine lr_iconst dL_law_792 ?_
  refine lr_iadd dL_law_793 ?_
  refine lr_sld dL_law_794 (by omega) (by omega) hLL ?_
  rw [hz2]
  have hc : Ct cW mX8_call (.ref 0 :: ([z1, z2] : List Int).map (fun z => Value.int (iI z))) σ (qI (fun z σ' => z = q_call M z1 z2 ∧ IC M σ')) := Ct.mono (c_call M σ c hw z1 z2 b1 b2) (fun r σ1 ⟨z, h1, h2, h3⟩ => ⟨z, h1, h2, ic_k c (fun k i g _ => h3 k i g)⟩)
  refine lr_cI hc lmL_101 dL_law_795 rfl ⟨_, _, rfl⟩ (by decide) (by decide) rfl rfl (Nat.le_of_ble_eq_true rfl) (fun r1 σ1 h1 => ?_)
  obtain ⟨rfl, c1⟩ := h1
  refine lr_aload dL_law_798 rfl ?_
  refine lr_aload dL_law_799 rfl ?_
  refine lr_iload dL_law_800 rfl ?_
  refine lr_iconst dL_law_801 ?_
  refine lr_iadd dL_law_802 ?_
  refine lr_sld dL_law_803 (by omega) (by omega) hLL ?_
  rw [hz1]
  refine lr_aload dL_law_804 rfl ?_
  refine lr_iload dL_law_805 rfl ?_
  refine lr_iconst dL_law_806 ?_
  refine lr_iadd dL_law_807 ?_
  refine lr_sld dL_law_808 (by omega) (by omega) hLL ?_
  rw [hz2]
  have hm : Ct mW mX9_call (.ref 0 :: ([z1, z2] : List Int).map (fun z => Value.int (iI z))) τ (qI (fun z σ' => z = q_call M z1 z2 ∧ IM M σ')) := m_call M τ cm hw z1 z2 b1 b2
  refine lr_mI hm lmL_104 dL_law_809 rfl ⟨_, _, rfl⟩ (by decide) (by decide) rfl rfl (Nat.le_of_ble_eq_true rfl) (fun r2 τ1 h2 => ?_)
  obtain ⟨rfl, cm1⟩ := h2
  refine lr_eq 1336 dL_law_812 rfl ?_
  exact K _ _ _ c1 cm1 (hw)
theorem law_22 (L : Nat) (xs : Nat → Int32) (hLL : L ≤ 384) (i : Int) (i0 : 0 ≤ i) (i1 : i + 6 ≤ L) (M σ τ : rl_S) (c : IC M σ) (cm : IM M τ) (hw : WF M) (K : ∀ (M1 σ1 τ1 : rl_S), IC M1 σ1 → IM M1 τ1 → WF M1 → Lr L xs 1336 i [] σ1 τ1) : Lr L xs 817 i [] σ τ := by
  have b1 := tb (xs (i + 1).toNat)
  generalize hz1 : (xs (i + 1).toNat).toInt = z1 at b1
  have b2 := tb (xs (i + 2).toNat)
  generalize hz2 : (xs (i + 2).toNat).toInt = z2 at b2
  have b3 := tb (xs (i + 3).toNat)
  generalize hz3 : (xs (i + 3).toNat).toInt = z3 at b3
  refine lr_aload dL_law_817 rfl ?_
  refine lr_aload dL_law_818 rfl ?_
  refine lr_iload dL_law_819 rfl ?_
  refine lr_iconst dL_law_820 ?_
  refine lr_iadd dL_law_821 ?_
  refine lr_sld dL_law_822 (by omega) (by omega) hLL ?_
  rw [hz1]
  refine lr_aload dL_law_823 rfl ?_
  refine lr_iload dL_law_824 rfl ?_
  refine lr_iconst dL_law_825 ?_
  refine lr_iadd dL_law_826 ?_
  refine lr_sld dL_law_827 (by omega) (by omega) hLL ?_
  rw [hz2]
  refine lr_aload dL_law_828 rfl ?_
  refine lr_iload dL_law_829 rfl ?_
  refine lr_iconst dL_law_830 ?_
  refine lr_iadd dL_law_831 ?_
  refine lr_sld dL_law_832 (by omega) (by omega) hLL ?_
  rw [hz3]
  have hc : Ct cW mX8_down (.ref 0 :: ([z1, z2, z3] : List Int).map (fun z => Value.int (iI z))) σ (qI (fun z σ' => z = q_down M z1 z2 z3 ∧ IC M σ')) := Ct.mono (c_down M σ c hw z1 z2 z3 b1 b2 b3) (fun r σ1 ⟨h1, h2⟩ => ⟨_, h1, rfl, by rw [h2]; exact c⟩)
  refine lr_cI hc lmL_105 dL_law_833 rfl ⟨_, _, rfl⟩ (by decide) (by decide) rfl rfl (Nat.le_of_ble_eq_true rfl) (fun r1 σ1 h1 => ?_)
  obtain ⟨rfl, c1⟩ := h1
  refine lr_aload dL_law_836 rfl ?_
  refine lr_aload dL_law_837 rfl ?_
  refine lr_iload dL_law_838 rfl ?_
  refine lr_iconst dL_law_839 ?_
  refine lr_iadd dL_law_840 ?_
  refine lr_sld dL_law_841 (by omega) (by omega) hLL ?_
  rw [hz1]
  refine lr_aload dL_law_842 rfl ?_
  refine lr_iload dL_law_843 rfl ?_
  refine lr_iconst dL_law_844 ?_
  refine lr_iadd dL_law_845 ?_
  refine lr_sld dL_law_846 (by omega) (by omega) hLL ?_
  rw [hz2]
  refine lr_aload dL_law_847 rfl ?_
  refine lr_iload dL_law_848 rfl ?_
  refine lr_iconst dL_law_849 ?_
  refine lr_iadd dL_law_850 ?_
  refine lr_sld dL_law_851 (by omega) (by omega) hLL ?_
  rw [hz3]
  have hm : Ct mW mX9_down (.ref 0 :: ([z1, z2, z3] : List Int).map (fun z => Value.int (iI z))) τ (qI (fun z σ' => z = q_down M z1 z2 z3 ∧ IM M σ')) := m_down M τ cm hw z1 z2 z3 b1 b2 b3
  refine lr_mI hm lmL_108 dL_law_852 rfl ⟨_, _, rfl⟩ (by decide) (by decide) rfl rfl (Nat.le_of_ble_eq_true rfl) (fun r2 τ1 h2 => ?_)
  obtain ⟨rfl, cm1⟩ := h2
  refine lr_eq 1336 dL_law_855 rfl ?_
  exact K _ _ _ c1 cm1 (hw)
theorem law_23 (L : Nat) (xs : Nat → Int32) (hLL : L ≤ 384) (i : Int) (i0 : 0 ≤ i) (i1 : i + 6 ≤ L) (M σ τ : rl_S) (c : IC M σ) (cm : IM M τ) (hw : WF M) (K : ∀ (M1 σ1 τ1 : rl_S), IC M1 σ1 → IM M1 τ1 → WF M1 → Lr L xs 1336 i [] σ1 τ1) : Lr L xs 860 i [] σ τ := by
  refine lr_aload dL_law_860 rfl ?_
  have hc : Ct cW mX8_saves (.ref 0 :: ([] : List Int).map (fun z => Value.int (iI z))) σ (qI (fun z σ' => z = q_saves M ∧ IC M σ')) := Ct.mono (c_saves M σ c hw) (fun r σ1 ⟨h1, h2⟩ => ⟨_, h1, rfl, by rw [h2]; exact c⟩)
  refine lr_cI hc lmL_109 dL_law_861 rfl ⟨_, _, rfl⟩ (by decide) (by decide) rfl rfl (Nat.le_of_ble_eq_true rfl) (fun r1 σ1 h1 => ?_)
  obtain ⟨rfl, c1⟩ := h1
  refine lr_aload dL_law_864 rfl ?_
  have hm : Ct mW mX9_saves (.ref 0 :: ([] : List Int).map (fun z => Value.int (iI z))) τ (qI (fun z σ' => z = q_saves M ∧ IM M σ')) := m_saves M τ cm hw
  refine lr_mI hm lmL_113 dL_law_865 rfl ⟨_, _, rfl⟩ (by decide) (by decide) rfl rfl (Nat.le_of_ble_eq_true rfl) (fun r2 τ1 h2 => ?_)
  obtain ⟨rfl, cm1⟩ := h2
  refine lr_eq 1336 dL_law_868 rfl ?_
  exact K _ _ _ c1 cm1 (hw)
theorem law_24 (L : Nat) (xs : Nat → Int32) (hLL : L ≤ 384) (i : Int) (i0 : 0 ≤ i) (i1 : i + 6 ≤ L) (M σ τ : rl_S) (c : IC M σ) (cm : IM M τ) (hw : WF M) (K : ∀ (M1 σ1 τ1 : rl_S), IC M1 σ1 → IM M1 τ1 → WF M1 → Lr L xs 1336 i [] σ1 τ1) : Lr L xs 873 i [] σ τ := by
  have b1 := tb (xs (i + 1).toNat)
  generalize hz1 : (xs (i + 1).toNat).toInt = z1 at b1
  have b2 := tb (xs (i + 2).toNat)
  generalize hz2 : (xs (i + 2).toNat).toInt = z2 at b2
  refine lr_aload dL_law_873 rfl ?_
  refine lr_aload dL_law_874 rfl ?_
  refine lr_iload dL_law_875 rfl ?_
  refine lr_iconst dL_law_876 ?_
  refine lr_iadd dL_law_877 ?_
  refine lr_sld dL_law_878 (by omega) (by omega) hLL ?_
  rw [hz1]
  refine lr_aload dL_law_879 rfl ?_
  refine lr_iload dL_law_880 rfl ?_
  refine lr_iconst dL_law_881 ?_
  refine lr_iadd dL_law_882 ?_
  refine lr_sld dL_law_883 (by omega) (by omega) hLL ?_
  rw [hz2]
  have hc : Ct cW mX8_ladder (.ref 0 :: ([z1, z2] : List Int).map (fun z => Value.int (iI z))) σ (qI (fun z σ' => z = q_ladder M z1 z2 ∧ IC M σ')) := Ct.mono (c_ladder M σ c hw z1 z2 b1 b2) (fun r σ1 ⟨h1, h2⟩ => ⟨_, h1, rfl, by rw [h2]; exact c⟩)
  refine lr_cI hc lmL_114 dL_law_884 rfl ⟨_, _, rfl⟩ (by decide) (by decide) rfl rfl (Nat.le_of_ble_eq_true rfl) (fun r1 σ1 h1 => ?_)
  obtain ⟨rfl, c1⟩ := h1
  refine lr_aload dL_law_887 rfl ?_
  refine lr_aload dL_law_888 rfl ?_
  refine lr_iload dL_law_889 rfl ?_
  refine lr_iconst dL_law_890 ?_
  refine lr_iadd dL_law_891 ?_
  refine lr_sld dL_law_892 (by omega) (by omega) hLL ?_
  rw [hz1]
  refine lr_aload dL_law_893 rfl ?_
  refine lr_iload dL_law_894 rfl ?_
  refine lr_iconst dL_law_895 ?_
  refine lr_iadd dL_law_896 ?_
  refine lr_sld dL_law_897 (by omega) (by omega) hLL ?_
  rw [hz2]
  have hm : Ct mW mX9_ladder (.ref 0 :: ([z1, z2] : List Int).map (fun z => Value.int (iI z))) τ (qI (fun z σ' => z = q_ladder M z1 z2 ∧ IM M σ')) := m_ladder M τ cm hw z1 z2 b1 b2
  refine lr_mI hm lmL_117 dL_law_898 rfl ⟨_, _, rfl⟩ (by decide) (by decide) rfl rfl (Nat.le_of_ble_eq_true rfl) (fun r2 τ1 h2 => ?_)
  obtain ⟨rfl, cm1⟩ := h2
  refine lr_eq 1336 dL_law_901 rfl ?_
  exact K _ _ _ c1 cm1 (hw)
theorem law_25 (L : Nat) (xs : Nat → Int32) (hLL : L ≤ 384) (i : Int) (i0 : 0 ≤ i) (i1 : i + 6 ≤ L) (M σ τ : rl_S) (c : IC M σ) (cm : IM M τ) (hw : WF M) (K : ∀ (M1 σ1 τ1 : rl_S), IC M1 σ1 → IM M1 τ1 → WF M1 → Lr L xs 1336 i [] σ1 τ1) : Lr L xs 906 i [] σ τ := by
  have b1 := tb (xs (i + 1).toNat)
  generalize hz1 : (xs (i + 1).toNat).toInt = z1 at b1
  have b2 := tb (xs (i + 2).toNat)
  generalize hz2 : (xs (i + 2).toNat).toInt = z2 at b2
  refine lr_aload dL_law_906 rfl ?_
  refine lr_aload dL_law_907 rfl ?_
  refine lr_iload dL_law_908 rfl ?_
  refine lr_iconst dL_law_909 ?_
  refine lr_iadd dL_law_910 ?_
  refine lr_sld dL_law_911 (by omega) (by omega) hLL ?_
  rw [hz1]
  refine lr_aload dL_law_912 rfl ?_
  refine lr_iload dL_law_913 rfl ?_
  refine lr_iconst dL_law_914 ?_
  refine lr_iadd dL_law_915 ?_
  refine lr_sld dL_law_916 (by omega) (by omega) hLL ?_
  rw [hz2]
  have hc : Ct cW mX8_seen (.ref 0 :: ([z1, z2] : List Int).map (fun z => Value.int (iI z))) σ (qI (fun z σ' => z = (s_seen M z1 z2).1 ∧ IC (s_seen M z1 z2).2 σ')) := Ct.mono (c_seen M σ c hw z1 z2 b1 b2) (fun r σ1 h => h)
  refine lr_cI hc lmL_118 dL_law_917 rfl ⟨_, _, rfl⟩ (by decide) (by decide) rfl rfl (Nat.le_of_ble_eq_true rfl) (fun r1 σ1 h1 => ?_)
  obtain ⟨rfl, c1⟩ := h1
  refine lr_aload dL_law_920 rfl ?_
  refine lr_aload dL_law_921 rfl ?_
  refine lr_iload dL_law_922 rfl ?_
  refine lr_iconst dL_law_923 ?_
  refine lr_iadd dL_law_924 ?_
  refine lr_sld dL_law_925 (by omega) (by omega) hLL ?_
  rw [hz1]
  refine lr_aload dL_law_926 rfl ?_
  refine lr_iload dL_law_927 rfl ?_
  refine lr_iconst dL_law_928 ?_
  refine lr_iadd dL_law_929 ?_
  refine lr_sld dL_law_930 (by omega) (by omega) hLL ?_
  rw [hz2]
  have hm : Ct mW mX9_seen (.ref 0 :: ([z1, z2] : List Int).map (fun z => Value.int (iI z))) τ (qI (fun z σ' => z = (s_seen M z1 z2).1 ∧ IM (s_seen M z1 z2).2 σ')) := m_seen M τ cm hw z1 z2 b1 b2
  refine lr_mI hm lmL_121 dL_law_931 rfl ⟨_, _, rfl⟩ (by decide) (by decide) rfl rfl (Nat.le_of_ble_eq_true rfl) (fun r2 τ1 h2 => ?_)
  obtain ⟨rfl, cm1⟩ := h2
  refine lr_eq 1336 dL_law_934 rfl ?_
  exact K _ _ _ c1 cm1 (wf_sseen hw z1 z2)
theorem law_26 (L : Nat) (xs : Nat → Int32) (hLL : L ≤ 384) (i : Int) (i0 : 0 ≤ i) (i1 : i + 6 ≤ L) (M σ τ : rl_S) (c : IC M σ) (cm : IM M τ) (hw : WF M) (K : ∀ (M1 σ1 τ1 : rl_S), IC M1 σ1 → IM M1 τ1 → WF M1 → Lr L xs 1336 i [] σ1 τ1) : Lr L xs 939 i [] σ τ := by
  refine lr_aload dL_law_939 rfl ?_
  have hc : Ct cW mX8_forget (.ref 0 :: ([] : List Int).map (fun z => Value.int (iI z))) σ (qI (fun z σ' => z = (s_forget M).1 ∧ IC (s_forget M).2 σ')) := Ct.mono (c_forget M σ c hw) (fun r σ1 h => h)
  refine lr_cI hc lmL_122 dL_law_940 rfl ⟨_, _, rfl⟩ (by decide) (by decide) rfl rfl (Nat.le_of_ble_eq_true rfl) (fun r1 σ1 h1 => ?_)
  obtain ⟨rfl, c1⟩ := h1
  refine lr_aload dL_law_943 rfl ?_
  have hm : Ct mW mX9_forget (.ref 0 :: ([] : List Int).map (fun z => Value.int (iI z))) τ (qI (fun z σ' => z = (s_forget M).1 ∧ IM (s_forget M).2 σ')) := m_forget M τ cm hw
  refine lr_mI hm lmL_125 dL_law_944 rfl ⟨_, _, rfl⟩ (by decide) (by decide) rfl rfl (Nat.le_of_ble_eq_true rfl) (fun r2 τ1 h2 => ?_)
  obtain ⟨rfl, cm1⟩ := h2
  refine lr_eq 1336 dL_law_947 rfl ?_
  exact K _ _ _ c1 cm1 (wf_forget hw)
theorem law_27 (L : Nat) (xs : Nat → Int32) (hLL : L ≤ 384) (i : Int) (i0 : 0 ≤ i) (i1 : i + 6 ≤ L) (M σ τ : rl_S) (c : IC M σ) (cm : IM M τ) (hw : WF M) (K : ∀ (M1 σ1 τ1 : rl_S), IC M1 σ1 → IM M1 τ1 → WF M1 → Lr L xs 1336 i [] σ1 τ1) : Lr L xs 952 i [] σ τ := by
  have b1 := tb (xs (i + 1).toNat)
  generalize hz1 : (xs (i + 1).toNat).toInt = z1 at b1
  refine lr_aload dL_law_952 rfl ?_
  refine lr_aload dL_law_953 rfl ?_
  refine lr_iload dL_law_954 rfl ?_
  refine lr_iconst dL_law_955 ?_
  refine lr_iadd dL_law_956 ?_
  refine lr_sld dL_law_957 (by omega) (by omega) hLL ?_
  rw [hz1]
  have hc : Ct cW mX8_read (.ref 0 :: ([z1] : List Int).map (fun z => Value.int (iI z))) σ (qI (fun z σ' => z = (s_read M z1).1 ∧ IC (s_read M z1).2 σ')) := Ct.mono (c_read M σ c hw z1 b1) (fun r σ1 h => h)
  refine lr_cI hc lmL_126 dL_law_958 rfl ⟨_, _, rfl⟩ (by decide) (by decide) rfl rfl (Nat.le_of_ble_eq_true rfl) (fun r1 σ1 h1 => ?_)
  obtain ⟨rfl, c1⟩ := h1
  refine lr_aload dL_law_961 rfl ?_
  refine lr_aload dL_law_962 rfl ?_
  refine lr_iload dL_law_963 rfl ?_
  refine lr_iconst dL_law_964 ?_
  refine lr_iadd dL_law_965 ?_
  refine lr_sld dL_law_966 (by omega) (by omega) hLL ?_
  rw [hz1]
  have hm : Ct mW mX9_read (.ref 0 :: ([z1] : List Int).map (fun z => Value.int (iI z))) τ (qI (fun z σ' => z = (s_read M z1).1 ∧ IM (s_read M z1).2 σ')) := m_read M τ cm hw z1 b1
  refine lr_mI hm lmL_129 dL_law_967 rfl ⟨_, _, rfl⟩ (by decide) (by decide) rfl rfl (Nat.le_of_ble_eq_true rfl) (fun r2 τ1 h2 => ?_)
  obtain ⟨rfl, cm1⟩ := h2
  refine lr_eq 1336 dL_law_970 rfl ?_
  exact K _ _ _ c1 cm1 (wf_read hw z1)
theorem law_28 (L : Nat) (xs : Nat → Int32) (hLL : L ≤ 384) (i : Int) (i0 : 0 ≤ i) (i1 : i + 6 ≤ L) (M σ τ : rl_S) (c : IC M σ) (cm : IM M τ) (hw : WF M) (K : ∀ (M1 σ1 τ1 : rl_S), IC M1 σ1 → IM M1 τ1 → WF M1 → Lr L xs 1336 i [] σ1 τ1) : Lr L xs 975 i [] σ τ := by
  have b1 := tb (xs (i + 1).toNat)
  generalize hz1 : (xs (i + 1).toNat).toInt = z1 at b1
  have b2 := tb (xs (i + 2).toNat)
  generalize hz2 : (xs (i + 2).toNat).toInt = z2 at b2
  refine lr_aload dL_law_975 rfl ?_
  refine lr_aload dL_law_976 rfl ?_
  refine lr_iload dL_law_977 rfl ?_
  refine lr_iconst dL_law_978 ?_
  refine lr_iadd dL_law_979 ?_
  refine lr_sld dL_law_980 (by omega) (by omega) hLL ?_
  rw [hz1]
  refine lr_aload dL_law_981 rfl ?_
  refine lr_iload dL_law_982 rfl ?_
  refine lr_iconst dL_law_983 ?_
  refine lr_iadd dL_law_984 ?_
  refine lr_sld dL_law_985 (by omega) (by omega) hLL ?_
  rw [hz2]
  have hc : Ct cW mX8_learn (.ref 0 :: ([z1, z2] : List Int).map (fun z => Value.int (iI z))) σ (qI (fun z σ' => z = q_learn M z1 z2 ∧ IC M σ')) := Ct.mono (c_learn M σ c hw z1 z2 b1 b2) (fun r σ1 ⟨h1, h2⟩ => ⟨_, h1, rfl, by rw [h2]; exact c⟩)
  refine lr_cI hc lmL_130 dL_law_986 rfl ⟨_, _, rfl⟩ (by decide) (by decide) rfl rfl (Nat.le_of_ble_eq_true rfl) (fun r1 σ1 h1 => ?_)
  obtain ⟨rfl, c1⟩ := h1
  refine lr_aload dL_law_989 rfl ?_
  refine lr_aload dL_law_990 rfl ?_
  refine lr_iload dL_law_991 rfl ?_
  refine lr_iconst dL_law_992 ?_
  refine lr_iadd dL_law_993 ?_
  refine lr_sld dL_law_994 (by omega) (by omega) hLL ?_
  rw [hz1]
  refine lr_aload dL_law_995 rfl ?_
  refine lr_iload dL_law_996 rfl ?_
  refine lr_iconst dL_law_997 ?_
  refine lr_iadd dL_law_998 ?_
  refine lr_sld dL_law_999 (by omega) (by omega) hLL ?_
  rw [hz2]
  have hm : Ct mW mX9_learn (.ref 0 :: ([z1, z2] : List Int).map (fun z => Value.int (iI z))) τ (qI (fun z σ' => z = q_learn M z1 z2 ∧ IM M σ')) := m_learn M τ cm hw z1 z2 b1 b2
  refine lr_mI hm lmL_133 dL_law_1000 rfl ⟨_, _, rfl⟩ (by decide) (by decide) rfl rfl (Nat.le_of_ble_eq_true rfl) (fun r2 τ1 h2 => ?_)
  obtain ⟨rfl, cm1⟩ := h2
  refine lr_eq 1336 dL_law_1003 rfl ?_
  exact K _ _ _ c1 cm1 (hw)
theorem law_29 (L : Nat) (xs : Nat → Int32) (hLL : L ≤ 384) (i : Int) (i0 : 0 ≤ i) (i1 : i + 6 ≤ L) (M σ τ : rl_S) (c : IC M σ) (cm : IM M τ) (hw : WF M) (K : ∀ (M1 σ1 τ1 : rl_S), IC M1 σ1 → IM M1 τ1 → WF M1 → Lr L xs 1336 i [] σ1 τ1) : Lr L xs 1008 i [] σ τ := by
  have b1 := tb (xs (i + 1).toNat)
  generalize hz1 : (xs (i + 1).toNat).toInt = z1 at b1
  have b2 := tb (xs (i + 2).toNat)
  generalize hz2 : (xs (i + 2).toNat).toInt = z2 at b2
  refine lr_aload dL_law_1008 rfl ?_
  refine lr_aload dL_law_1009 rfl ?_
  refine lr_iload dL_law_1010 rfl ?_
  refine lr_iconst dL_law_1011 ?_
  refine lr_iadd dL_law_1012 ?_
  refine lr_sld dL_law_1013 (by omega) (by omega) hLL ?_
  rw [hz1]
  refine lr_aload dL_law_1014 rfl ?_
  refine lr_iload dL_law_1015 rfl ?_
  refine lr_iconst dL_law_1016 ?_
  refine lr_iadd dL_law_1017 ?_
  refine lr_sld dL_law_1018 (by omega) (by omega) hLL ?_
  rw [hz2]
  have hc : Ct cW mX8_night (.ref 0 :: ([z1, z2] : List Int).map (fun z => Value.int (iI z))) σ (qI (fun z σ' => z = q_night M z1 z2 ∧ IC M σ')) := Ct.mono (c_night M σ c hw z1 z2 b2) (fun r σ1 ⟨z, h1, h2, h3⟩ => ⟨z, h1, h2, ic_k c (fun k i g1 g2 => h3 k i g1 g2)⟩)
  refine lr_cI hc lmL_134 dL_law_1019 rfl ⟨_, _, rfl⟩ (by decide) (by decide) rfl rfl (Nat.le_of_ble_eq_true rfl) (fun r1 σ1 h1 => ?_)
  obtain ⟨rfl, c1⟩ := h1
  refine lr_aload dL_law_1022 rfl ?_
  refine lr_aload dL_law_1023 rfl ?_
  refine lr_iload dL_law_1024 rfl ?_
  refine lr_iconst dL_law_1025 ?_
  refine lr_iadd dL_law_1026 ?_
  refine lr_sld dL_law_1027 (by omega) (by omega) hLL ?_
  rw [hz1]
  refine lr_aload dL_law_1028 rfl ?_
  refine lr_iload dL_law_1029 rfl ?_
  refine lr_iconst dL_law_1030 ?_
  refine lr_iadd dL_law_1031 ?_
  refine lr_sld dL_law_1032 (by omega) (by omega) hLL ?_
  rw [hz2]
  have hm : Ct mW mX9_night (.ref 0 :: ([z1, z2] : List Int).map (fun z => Value.int (iI z))) τ (qI (fun z σ' => z = q_night M z1 z2 ∧ IM M σ')) := m_night M τ cm hw z1 z2 b2
  refine lr_mI hm lmL_137 dL_law_1033 rfl ⟨_, _, rfl⟩ (by decide) (by decide) rfl rfl (Nat.le_of_ble_eq_true rfl) (fun r2 τ1 h2 => ?_)
  obtain ⟨rfl, cm1⟩ := h2
  refine lr_eq 1336 dL_law_1036 rfl ?_
  exact K _ _ _ c1 cm1 (hw)
theorem law_30 (L : Nat) (xs : Nat → Int32) (hLL : L ≤ 384) (i : Int) (i0 : 0 ≤ i) (i1 : i + 6 ≤ L) (M σ τ : rl_S) (c : IC M σ) (cm : IM M τ) (hw : WF M) (K : ∀ (M1 σ1 τ1 : rl_S), IC M1 σ1 → IM M1 τ1 → WF M1 → Lr L xs 1336 i [] σ1 τ1) : Lr L xs 1041 i [] σ τ := by
  have b1 := tb (xs (i + 1).toNat)
  generalize hz1 : (xs (i + 1).toNat).toInt = z1 at b1
  have b2 := tb (xs (i + 2).toNat)
  generalize hz2 : (xs (i + 2).toNat).toInt = z2 at b2
  have b3 := tb (xs (i + 3).toNat)
  generalize hz3 : (xs (i + 3).toNat).toInt = z3 at b3
  refine lr_aload dL_law_1041 rfl ?_
  refine lr_aload dL_law_1042 rfl ?_
  refine lr_iload dL_law_1043 rfl ?_
  refine lr_iconst dL_law_1044 ?_
  refine lr_iadd dL_law_1045 ?_
  refine lr_sld dL_law_1046 (by omega) (by omega) hLL ?_
  rw [hz1]
  refine lr_aload dL_law_1047 rfl ?_
  refine lr_iload dL_law_1048 rfl ?_
  refine lr_iconst dL_law_1049 ?_
  refine lr_iadd dL_law_1050 ?_
  refine lr_sld dL_law_1051 (by omega) (by omega) hLL ?_
  rw [hz2]
  refine lr_aload dL_law_1052 rfl ?_
  refine lr_iload dL_law_1053 rfl ?_
  refine lr_iconst dL_law_1054 ?_
  refine lr_iadd dL_law_1055 ?_
  refine lr_sld dL_law_1056 (by omega) (by omega) hLL ?_
  rw [hz3]
  have hc : Ct cW mX8_sheet (.ref 0 :: ([z1, z2, z3] : List Int).map (fun z => Value.int (iI z))) σ (qI (fun z σ' => z = (s_sheet M z1 z2 z3).1 ∧ IC (s_sheet M z1 z2 z3).2 σ')) := Ct.mono (c_sheet M σ c hw z1 z2 z3 b1 b3 b2) (fun r σ1 h => h)
  refine lr_cI hc lmL_138 dL_law_1057 rfl ⟨_, _, rfl⟩ (by decide) (by decide) rfl rfl (Nat.le_of_ble_eq_true rfl) (fun r1 σ1 h1 => ?_)
  obtain ⟨rfl, c1⟩ := h1
  refine lr_aload dL_law_1060 rfl ?_
  refine lr_aload dL_law_1061 rfl ?_
  refine lr_iload dL_law_1062 rfl ?_
  refine lr_iconst dL_law_1063 ?_
  refine lr_iadd dL_law_1064 ?_
  refine lr_sld dL_law_1065 (by omega) (by omega) hLL ?_
  rw [hz1]
  refine lr_aload dL_law_1066 rfl ?_
  refine lr_iload dL_law_1067 rfl ?_
  refine lr_iconst dL_law_1068 ?_
  refine lr_iadd dL_law_1069 ?_
  refine lr_sld dL_law_1070 (by omega) (by omega) hLL ?_
  rw [hz2]
  refine lr_aload dL_law_1071 rfl ?_
  refine lr_iload dL_law_1072 rfl ?_
  refine lr_iconst dL_law_1073 ?_
  refine lr_iadd dL_law_1074 ?_
  refine lr_sld dL_law_1075 (by omega) (by omega) hLL ?_
  rw [hz3]
  have hm : Ct mW mX9_sheet (.ref 0 :: ([z1, z2, z3] : List Int).map (fun z => Value.int (iI z))) τ (qI (fun z σ' => z = (s_sheet M z1 z2 z3).1 ∧ IM (s_sheet M z1 z2 z3).2 σ')) := m_sheet M τ cm hw z1 z2 z3 b1 b3 b2
  refine lr_mI hm lmL_141 dL_law_1076 rfl ⟨_, _, rfl⟩ (by decide) (by decide) rfl rfl (Nat.le_of_ble_eq_true rfl) (fun r2 τ1 h2 => ?_)
  obtain ⟨rfl, cm1⟩ := h2
  refine lr_eq 1336 dL_law_1079 rfl ?_
  exact K _ _ _ c1 cm1 (wf_sheet hw z1 z2 z3)
theorem law_31 (L : Nat) (xs : Nat → Int32) (hLL : L ≤ 384) (i : Int) (i0 : 0 ≤ i) (i1 : i + 6 ≤ L) (M σ τ : rl_S) (c : IC M σ) (cm : IM M τ) (hw : WF M) (K : ∀ (M1 σ1 τ1 : rl_S), IC M1 σ1 → IM M1 τ1 → WF M1 → Lr L xs 1336 i [] σ1 τ1) : Lr L xs 1084 i [] σ τ := by
  have b1 := tb (xs (i + 1).toNat)
  generalize hz1 : (xs (i + 1).toNat).toInt = z1 at b1
  refine lr_aload dL_law_1084 rfl ?_
  refine lr_aload dL_law_1085 rfl ?_
  refine lr_iload dL_law_1086 rfl ?_
  refine lr_iconst dL_law_1087 ?_
  refine lr_iadd dL_law_1088 ?_
  refine lr_sld dL_law_1089 (by omega) (by omega) hLL ?_
  rw [hz1]
  have hc : Ct cW mX8_lose (.ref 0 :: ([z1] : List Int).map (fun z => Value.int (iI z))) σ (qI (fun z σ' => z = (s_lose M z1).1 ∧ IC (s_lose M z1).2 σ')) := Ct.mono (c_lose M σ c hw z1 b1) (fun r σ1 h => h)
  refine lr_cI hc lmL_142 dL_law_1090 rfl ⟨_, _, rfl⟩ (by decide) (by decide) rfl rfl (Nat.le_of_ble_eq_true rfl) (fun r1 σ1 h1 => ?_)
  obtain ⟨rfl, c1⟩ := h1
  refine lr_aload dL_law_1093 rfl ?_
  refine lr_aload dL_law_1094 rfl ?_
  refine lr_iload dL_law_1095 rfl ?_
  refine lr_iconst dL_law_1096 ?_
  refine lr_iadd dL_law_1097 ?_
  refine lr_sld dL_law_1098 (by omega) (by omega) hLL ?_
  rw [hz1]
  have hm : Ct mW mX9_lose (.ref 0 :: ([z1] : List Int).map (fun z => Value.int (iI z))) τ (qI (fun z σ' => z = (s_lose M z1).1 ∧ IM (s_lose M z1).2 σ')) := m_lose M τ cm hw z1 b1
  refine lr_mI hm lmL_145 dL_law_1099 rfl ⟨_, _, rfl⟩ (by decide) (by decide) rfl rfl (Nat.le_of_ble_eq_true rfl) (fun r2 τ1 h2 => ?_)
  obtain ⟨rfl, cm1⟩ := h2
  refine lr_eq 1336 dL_law_1102 rfl ?_
  exact K _ _ _ c1 cm1 (wf_lose hw z1)
theorem law_32 (L : Nat) (xs : Nat → Int32) (hLL : L ≤ 384) (i : Int) (i0 : 0 ≤ i) (i1 : i + 6 ≤ L) (M σ τ : rl_S) (c : IC M σ) (cm : IM M τ) (hw : WF M) (K : ∀ (M1 σ1 τ1 : rl_S), IC M1 σ1 → IM M1 τ1 → WF M1 → Lr L xs 1336 i [] σ1 τ1) : Lr L xs 1107 i [] σ τ := by
  have b1 := tb (xs (i + 1).toNat)
  generalize hz1 : (xs (i + 1).toNat).toInt = z1 at b1
  have b2 := tb (xs (i + 2).toNat)
  generalize hz2 : (xs (i + 2).toNat).toInt = z2 at b2
  have b3 := tb (xs (i + 3).toNat)
  generalize hz3 : (xs (i + 3).toNat).toInt = z3 at b3
  have b4 := tb (xs (i + 4).toNat)
  generalize hz4 : (xs (i + 4).toNat).toInt = z4 at b4
  refine lr_aload dL_law_1107 rfl ?_
  refine lr_aload dL_law_1108 rfl ?_
  refine lr_iload dL_law_1109 rfl ?_
  refine lr_iconst dL_law_1110 ?_
  refine lr_iadd dL_law_1111 ?_
  refine lr_sld dL_law_1112 (by omega) (by omega) hLL ?_
  rw [hz1]
  refine lr_aload dL_law_1113 rfl ?_
  refine lr_iload dL_law_1114 rfl ?_
  refine lr_iconst dL_law_1115 ?_
  refine lr_iadd dL_law_1116 ?_
  refine lr_sld dL_law_1117 (by omega) (by omega) hLL ?_
  rw [hz2]
  refine lr_aload dL_law_1118 rfl ?_
  refine lr_iload dL_law_1119 rfl ?_
  refine lr_iconst dL_law_1120 ?_
  refine lr_iadd dL_law_1121 ?_
  refine lr_sld dL_law_1122 (by omega) (by omega) hLL ?_
  rw [hz3]
  refine lr_aload dL_law_1123 rfl ?_
  refine lr_iload dL_law_1124 rfl ?_
  refine lr_iconst dL_law_1125 ?_
  refine lr_iadd dL_law_1126 ?_
  refine lr_sld dL_law_1127 (by omega) (by omega) hLL ?_
  rw [hz4]
  have hc : Ct cW mX8_put (.ref 0 :: ([z1, z2, z3, z4] : List Int).map (fun z => Value.int (iI z))) σ (qI (fun z σ' => z = (s_put M z1 z2 z3 z4).1 ∧ IC (s_put M z1 z2 z3 z4).2 σ')) := Ct.mono (c_put M σ c hw z1 z2 z3 z4 b1 b3 b4 b2) (fun r σ1 h => h)
  refine lr_cI hc lmL_146 dL_law_1128 rfl ⟨_, _, rfl⟩ (by decide) (by decide) rfl rfl (Nat.le_of_ble_eq_true rfl) (fun r1 σ1 h1 => ?_)
  obtain ⟨rfl, c1⟩ := h1
  refine lr_aload dL_law_1131 rfl ?_
  refine lr_aload dL_law_1132 rfl ?_
  refine lr_iload dL_law_1133 rfl ?_
  refine lr_iconst dL_law_1134 ?_
  refine lr_iadd dL_law_1135 ?_
  refine lr_sld dL_law_1136 (by omega) (by omega) hLL ?_
  rw [hz1]
  refine lr_aload dL_law_1137 rfl ?_
  refine lr_iload dL_law_1138 rfl ?_
  refine lr_iconst dL_law_1139 ?_
  refine lr_iadd dL_law_1140 ?_
  refine lr_sld dL_law_1141 (by omega) (by omega) hLL ?_
  rw [hz2]
  refine lr_aload dL_law_1142 rfl ?_
  refine lr_iload dL_law_1143 rfl ?_
  refine lr_iconst dL_law_1144 ?_
  refine lr_iadd dL_law_1145 ?_
  refine lr_sld dL_law_1146 (by omega) (by omega) hLL ?_
  rw [hz3]
  refine lr_aload dL_law_1147 rfl ?_
  refine lr_iload dL_law_1148 rfl ?_
  refine lr_iconst dL_law_1149 ?_
  refine lr_iadd dL_law_1150 ?_
  refine lr_sld dL_law_1151 (by omega) (by omega) hLL ?_
  rw [hz4]
  have hm : Ct mW mX9_put (.ref 0 :: ([z1, z2, z3, z4] : List Int).map (fun z => Value.int (iI z))) τ (qI (fun z σ' => z = (s_put M z1 z2 z3 z4).1 ∧ IM (s_put M z1 z2 z3 z4).2 σ')) := m_put M τ cm hw z1 z2 z3 z4 b1 b3 b4 b2
  refine lr_mI hm lmL_150 dL_law_1152 rfl ⟨_, _, rfl⟩ (by decide) (by decide) rfl rfl (Nat.le_of_ble_eq_true rfl) (fun r2 τ1 h2 => ?_)
  obtain ⟨rfl, cm1⟩ := h2
  refine lr_eq 1336 dL_law_1155 rfl ?_
  exact K _ _ _ c1 cm1 (wf_put hw z1 z2 z3 z4 b4)
theorem law_33 (L : Nat) (xs : Nat → Int32) (hLL : L ≤ 384) (i : Int) (i0 : 0 ≤ i) (i1 : i + 6 ≤ L) (M σ τ : rl_S) (c : IC M σ) (cm : IM M τ) (hw : WF M) (K : ∀ (M1 σ1 τ1 : rl_S), IC M1 σ1 → IM M1 τ1 → WF M1 → Lr L xs 1336 i [] σ1 τ1) : Lr L xs 1160 i [] σ τ := by
  have b1 := tb (xs (i + 1).toNat)
  generalize hz1 : (xs (i + 1).toNat).toInt = z1 at b1
  have b2 := tb (xs (i + 2).toNat)
  generalize hz2 : (xs (i + 2).toNat).toInt = z2 at b2
  have b3 := tb (xs (i + 3).toNat)
  generalize hz3 : (xs (i + 3).toNat).toInt = z3 at b3
  refine lr_aload dL_law_1160 rfl ?_
  refine lr_aload dL_law_1161 rfl ?_
  refine lr_iload dL_law_1162 rfl ?_
  refine lr_iconst dL_law_1163 ?_
  refine lr_iadd dL_law_1164 ?_
  refine lr_sld dL_law_1165 (by omega) (by omega) hLL ?_
  rw [hz1]
  refine lr_aload dL_law_1166 rfl ?_
  refine lr_iload dL_law_1167 rfl ?_
  refine lr_iconst dL_law_1168 ?_
  refine lr_iadd dL_law_1169 ?_
  refine lr_sld dL_law_1170 (by omega) (by omega) hLL ?_
  rw [hz2]
  refine lr_aload dL_law_1171 rfl ?_
  refine lr_iload dL_law_1172 rfl ?_
  refine lr_iconst dL_law_1173 ?_
  refine lr_iadd dL_law_1174 ?_
  refine lr_sld dL_law_1175 (by omega) (by omega) hLL ?_
  rw [hz3]
  have hc : Ct cW mX8_get (.ref 0 :: ([z1, z2, z3] : List Int).map (fun z => Value.int (iI z))) σ (qI (fun z σ' => z = (s_get M z1 z2 z3).1 ∧ IC (s_get M z1 z2 z3).2 σ')) := Ct.mono (c_get M σ c hw z1 z2 z3 b1 b3 b2) (fun r σ1 h => h)
  refine lr_cI hc lmL_151 dL_law_1176 rfl ⟨_, _, rfl⟩ (by decide) (by decide) rfl rfl (Nat.le_of_ble_eq_true rfl) (fun r1 σ1 h1 => ?_)
  obtain ⟨rfl, c1⟩ := h1
  refine lr_aload dL_law_1179 rfl ?_
  refine lr_aload dL_law_1180 rfl ?_
  refine lr_iload dL_law_1181 rfl ?_
  refine lr_iconst dL_law_1182 ?_
  refine lr_iadd dL_law_1183 ?_
  refine lr_sld dL_law_1184 (by omega) (by omega) hLL ?_
  rw [hz1]
  refine lr_aload dL_law_1185 rfl ?_
  refine lr_iload dL_law_1186 rfl ?_
  refine lr_iconst dL_law_1187 ?_
  refine lr_iadd dL_law_1188 ?_
  refine lr_sld dL_law_1189 (by omega) (by omega) hLL ?_
  rw [hz2]
  refine lr_aload dL_law_1190 rfl ?_
  refine lr_iload dL_law_1191 rfl ?_
  refine lr_iconst dL_law_1192 ?_
  refine lr_iadd dL_law_1193 ?_
  refine lr_sld dL_law_1194 (by omega) (by omega) hLL ?_
  rw [hz3]
  have hm : Ct mW mX9_get (.ref 0 :: ([z1, z2, z3] : List Int).map (fun z => Value.int (iI z))) τ (qI (fun z σ' => z = (s_get M z1 z2 z3).1 ∧ IM (s_get M z1 z2 z3).2 σ')) := m_get M τ cm hw z1 z2 z3 b1 b3 b2
  refine lr_mI hm lmL_154 dL_law_1195 rfl ⟨_, _, rfl⟩ (by decide) (by decide) rfl rfl (Nat.le_of_ble_eq_true rfl) (fun r2 τ1 h2 => ?_)
  obtain ⟨rfl, cm1⟩ := h2
  refine lr_eq 1336 dL_law_1198 rfl ?_
  exact K _ _ _ c1 cm1 (wf_get hw z1 z2 z3)
theorem law_34 (L : Nat) (xs : Nat → Int32) (hLL : L ≤ 384) (i : Int) (i0 : 0 ≤ i) (i1 : i + 6 ≤ L) (M σ τ : rl_S) (c : IC M σ) (cm : IM M τ) (hw : WF M) (K : ∀ (M1 σ1 τ1 : rl_S), IC M1 σ1 → IM M1 τ1 → WF M1 → Lr L xs 1336 i [] σ1 τ1) : Lr L xs 1203 i [] σ τ := by
  have b1 := tb (xs (i + 1).toNat)
  generalize hz1 : (xs (i + 1).toNat).toInt = z1 at b1
  have b2 := tb (xs (i + 2).toNat)
  generalize hz2 : (xs (i + 2).toNat).toInt = z2 at b2
  have b3 := tb (xs (i + 3).toNat)
  generalize hz3 : (xs (i + 3).toNat).toInt = z3 at b3
  have b4 := tb (xs (i + 4).toNat)
  generalize hz4 : (xs (i + 4).toNat).toInt = z4 at b4
  have b5 := tb (xs (i + 5).toNat)
  generalize hz5 : (xs (i + 5).toNat).toInt = z5 at b5
  refine lr_aload dL_law_1203 rfl ?_
  refine lr_aload dL_law_1204 rfl ?_
  refine lr_iload dL_law_1205 rfl ?_
  refine lr_iconst dL_law_1206 ?_
  refine lr_iadd dL_law_1207 ?_
  refine lr_sld dL_law_1208 (by omega) (by omega) hLL ?_
  rw [hz1]
  refine lr_aload dL_law_1209 rfl ?_
  refine lr_iload dL_law_1210 rfl ?_
  refine lr_iconst dL_law_1211 ?_
  refine lr_iadd dL_law_1212 ?_
  refine lr_sld dL_law_1213 (by omega) (by omega) hLL ?_
  rw [hz2]
  refine lr_aload dL_law_1214 rfl ?_
  refine lr_iload dL_law_1215 rfl ?_
  refine lr_iconst dL_law_1216 ?_
  refine lr_iadd dL_law_1217 ?_
  refine lr_sld dL_law_1218 (by omega) (by omega) hLL ?_
  rw [hz3]
  refine lr_aload dL_law_1219 rfl ?_
  refine lr_iload dL_law_1220 rfl ?_
  refine lr_iconst dL_law_1221 ?_
  refine lr_iadd dL_law_1222 ?_
  refine lr_sld dL_law_1223 (by omega) (by omega) hLL ?_
  rw [hz4]
  refine lr_aload dL_law_1224 rfl ?_
  refine lr_iload dL_law_1225 rfl ?_
  refine lr_iconst dL_law_1226 ?_
  refine lr_iadd dL_law_1227 ?_
  refine lr_sld dL_law_1228 (by omega) (by omega) hLL ?_
  rw [hz5]
  have hc : Ct cW mX8_copy (.ref 0 :: ([z1, z2, z3, z4, z5] : List Int).map (fun z => Value.int (iI z))) σ (qI (fun z σ' => z = (s_copy M z1 z2 z3 z4 z5).1 ∧ IC (s_copy M z1 z2 z3 z4 z5).2 σ')) := Ct.mono (c_copy M σ c hw z1 z2 z3 z4 z5 b1 b2 b3 b4 b5) (fun r σ1 h => h)
  refine lr_cI hc lmL_155 dL_law_1229 rfl ⟨_, _, rfl⟩ (by decide) (by decide) rfl rfl (Nat.le_of_ble_eq_true rfl) (fun r1 σ1 h1 => ?_)
  obtain ⟨rfl, c1⟩ := h1
  refine lr_aload dL_law_1232 rfl ?_
  refine lr_aload dL_law_1233 rfl ?_
  refine lr_iload dL_law_1234 rfl ?_
  refine lr_iconst dL_law_1235 ?_
  refine lr_iadd dL_law_1236 ?_
  refine lr_sld dL_law_1237 (by omega) (by omega) hLL ?_
  rw [hz1]
  refine lr_aload dL_law_1238 rfl ?_
  refine lr_iload dL_law_1239 rfl ?_
  refine lr_iconst dL_law_1240 ?_
  refine lr_iadd dL_law_1241 ?_
  refine lr_sld dL_law_1242 (by omega) (by omega) hLL ?_
  rw [hz2]
  refine lr_aload dL_law_1243 rfl ?_
  refine lr_iload dL_law_1244 rfl ?_
  refine lr_iconst dL_law_1245 ?_
  refine lr_iadd dL_law_1246 ?_
  refine lr_sld dL_law_1247 (by omega) (by omega) hLL ?_
  rw [hz3]
  refine lr_aload dL_law_1248 rfl ?_
  refine lr_iload dL_law_1249 rfl ?_
  refine lr_iconst dL_law_1250 ?_
  refine lr_iadd dL_law_1251 ?_
  refine lr_sld dL_law_1252 (by omega) (by omega) hLL ?_
  rw [hz4]
  refine lr_aload dL_law_1253 rfl ?_
  refine lr_iload dL_law_1254 rfl ?_
  refine lr_iconst dL_law_1255 ?_
  refine lr_iadd dL_law_1256 ?_
  refine lr_sld dL_law_1257 (by omega) (by omega) hLL ?_
  rw [hz5]
  have hm : Ct mW mX9_copy (.ref 0 :: ([z1, z2, z3, z4, z5] : List Int).map (fun z => Value.int (iI z))) τ (qI (fun z σ' => z = (s_copy M z1 z2 z3 z4 z5).1 ∧ IM (s_copy M z1 z2 z3 z4 z5).2 σ')) := m_copy M τ cm hw z1 z2 z3 z4 z5 b1 b2 b3 b4 b5
  refine lr_mI hm lmL_159 dL_law_1258 rfl ⟨_, _, rfl⟩ (by decide) (by decide) rfl rfl (Nat.le_of_ble_eq_true rfl) (fun r2 τ1 h2 => ?_)
  obtain ⟨rfl, cm1⟩ := h2
  refine lr_eq 1336 dL_law_1261 rfl ?_
  exact K _ _ _ c1 cm1 (wf_copy hw z1 z2 z3 z4 z5)
theorem law_35 (L : Nat) (xs : Nat → Int32) (hLL : L ≤ 384) (i : Int) (i0 : 0 ≤ i) (i1 : i + 6 ≤ L) (M σ τ : rl_S) (c : IC M σ) (cm : IM M τ) (hw : WF M) (K : ∀ (M1 σ1 τ1 : rl_S), IC M1 σ1 → IM M1 τ1 → WF M1 → Lr L xs 1336 i [] σ1 τ1) : Lr L xs 1266 i [] σ τ := by
  have b1 := tb (xs (i + 1).toNat)
  generalize hz1 : (xs (i + 1).toNat).toInt = z1 at b1
  have b2 := tb (xs (i + 2).toNat)
  generalize hz2 : (xs (i + 2).toNat).toInt = z2 at b2
  refine lr_aload dL_law_1266 rfl ?_
  refine lr_aload dL_law_1267 rfl ?_
  refine lr_iload dL_law_1268 rfl ?_
  refine lr_iconst dL_law_1269 ?_
  refine lr_iadd dL_law_1270 ?_
  refine lr_sld dL_law_1271 (by omega) (by omega) hLL ?_
  rw [hz1]
  refine lr_aload dL_law_1272 rfl ?_
  refine lr_iload dL_law_1273 rfl ?_
  refine lr_iconst dL_law_1274 ?_
  refine lr_iadd dL_law_1275 ?_
  refine lr_sld dL_law_1276 (by omega) (by omega) hLL ?_
  rw [hz2]
  have hc : Ct cW mX8_write (.ref 0 :: ([z1, z2] : List Int).map (fun z => Value.int (iI z))) σ (qI (fun z σ' => z = (s_write M z1 z2).1 ∧ IC (s_write M z1 z2).2 σ')) := Ct.mono (c_write M σ c hw z1 z2 b1 b2) (fun r σ1 h => h)
  refine lr_cI hc lmL_160 dL_law_1277 rfl ⟨_, _, rfl⟩ (by decide) (by decide) rfl rfl (Nat.le_of_ble_eq_true rfl) (fun r1 σ1 h1 => ?_)
  obtain ⟨rfl, c1⟩ := h1
  refine lr_aload dL_law_1280 rfl ?_
  refine lr_aload dL_law_1281 rfl ?_
  refine lr_iload dL_law_1282 rfl ?_
  refine lr_iconst dL_law_1283 ?_
  refine lr_iadd dL_law_1284 ?_
  refine lr_sld dL_law_1285 (by omega) (by omega) hLL ?_
  rw [hz1]
  refine lr_aload dL_law_1286 rfl ?_
  refine lr_iload dL_law_1287 rfl ?_
  refine lr_iconst dL_law_1288 ?_
  refine lr_iadd dL_law_1289 ?_
  refine lr_sld dL_law_1290 (by omega) (by omega) hLL ?_
  rw [hz2]
  have hm : Ct mW mX9_write (.ref 0 :: ([z1, z2] : List Int).map (fun z => Value.int (iI z))) τ (qI (fun z σ' => z = (s_write M z1 z2).1 ∧ IM (s_write M z1 z2).2 σ')) := m_write M τ cm hw z1 z2 b1 b2
  refine lr_mI hm lmL_163 dL_law_1291 rfl ⟨_, _, rfl⟩ (by decide) (by decide) rfl rfl (Nat.le_of_ble_eq_true rfl) (fun r2 τ1 h2 => ?_)
  obtain ⟨rfl, cm1⟩ := h2
  refine lr_eq 1336 dL_law_1294 rfl ?_
  exact K _ _ _ c1 cm1 (wf_write hw z1 z2)
theorem law_36 (L : Nat) (xs : Nat → Int32) (hLL : L ≤ 384) (i : Int) (i0 : 0 ≤ i) (i1 : i + 6 ≤ L) (M σ τ : rl_S) (c : IC M σ) (cm : IM M τ) (hw : WF M) (K : ∀ (M1 σ1 τ1 : rl_S), IC M1 σ1 → IM M1 τ1 → WF M1 → Lr L xs 1336 i [] σ1 τ1) : Lr L xs 1299 i [] σ τ := by
  have b1 := tb (xs (i + 1).toNat)
  generalize hz1 : (xs (i + 1).toNat).toInt = z1 at b1
  refine lr_aload dL_law_1299 rfl ?_
  refine lr_aload dL_law_1300 rfl ?_
  refine lr_iload dL_law_1301 rfl ?_
  refine lr_iconst dL_law_1302 ?_
  refine lr_iadd dL_law_1303 ?_
  refine lr_sld dL_law_1304 (by omega) (by omega) hLL ?_
  rw [hz1]
  have hc : Ct cW mX8_count (.ref 0 :: ([z1] : List Int).map (fun z => Value.int (iI z))) σ (qI (fun z σ' => z = q_count M z1 ∧ IC M σ')) := Ct.mono (c_count M σ c hw z1 b1) (fun r σ1 ⟨h1, h2⟩ => ⟨_, h1, rfl, by rw [h2]; exact c⟩)
  refine lr_cI hc lmL_164 dL_law_1305 rfl ⟨_, _, rfl⟩ (by decide) (by decide) rfl rfl (Nat.le_of_ble_eq_true rfl) (fun r1 σ1 h1 => ?_)
  obtain ⟨rfl, c1⟩ := h1
  refine lr_aload dL_law_1308 rfl ?_
  refine lr_aload dL_law_1309 rfl ?_
  refine lr_iload dL_law_1310 rfl ?_
  refine lr_iconst dL_law_1311 ?_
  refine lr_iadd dL_law_1312 ?_
  refine lr_sld dL_law_1313 (by omega) (by omega) hLL ?_
  rw [hz1]
  have hm : Ct mW mX9_count (.ref 0 :: ([z1] : List Int).map (fun z => Value.int (iI z))) τ (qI (fun z σ' => z = q_count M z1 ∧ IM M σ')) := m_count M τ cm hw z1 b1
  refine lr_mI hm lmL_167 dL_law_1314 rfl ⟨_, _, rfl⟩ (by decide) (by decide) rfl rfl (Nat.le_of_ble_eq_true rfl) (fun r2 τ1 h2 => ?_)
  obtain ⟨rfl, cm1⟩ := h2
  refine lr_eq 1336 dL_law_1317 rfl ?_
  exact K _ _ _ c1 cm1 (hw)
theorem law_37 (L : Nat) (xs : Nat → Int32) (hLL : L ≤ 384) (i : Int) (i0 : 0 ≤ i) (i1 : i + 6 ≤ L) (M σ τ : rl_S) (c : IC M σ) (cm : IM M τ) (hw : WF M) (K : ∀ (M1 σ1 τ1 : rl_S), IC M1 σ1 → IM M1 τ1 → WF M1 → Lr L xs 1336 i [] σ1 τ1) : Lr L xs 1322 i [] σ τ := by
  refine lr_aload dL_law_1322 rfl ?_
  have hc : Ct cW mX8_digest (.ref 0 :: ([] : List Int).map (fun z => Value.int (iI z))) σ (qL (fun z σ' => z = q_digest M ∧ IC M σ')) := Ct.mono (c_digest M σ c hw) (fun r σ1 h => h)
  refine lr_cL hc lmL_168 dL_law_1323 rfl ⟨_, _, rfl⟩ (by decide) (by decide) rfl rfl (Nat.le_of_ble_eq_true rfl) (fun r1 σ1 h1 => ?_)
  obtain ⟨rfl, c1⟩ := h1
  refine lr_aload dL_law_1326 rfl ?_
  have hm : Ct mW mX9_digest (.ref 0 :: ([] : List Int).map (fun z => Value.int (iI z))) τ (qL (fun z σ' => z = q_digest M ∧ IM M σ')) := m_digest M τ cm hw
  refine lr_mL hm lmL_172 dL_law_1327 rfl ⟨_, _, rfl⟩ (by decide) (by decide) rfl rfl (Nat.le_of_ble_eq_true rfl) (fun r2 τ1 h2 => ?_)
  obtain ⟨rfl, cm1⟩ := h2
  refine lr_leq 1336 dL_law_1330 dL_law_1331 rfl ?_
  exact K _ _ _ c1 cm1 (hw)
theorem and63 (x : Int32) : 0 ≤ (x &&& 63).toInt ∧ (x &&& 63).toInt ≤ 63 := by
  have h : (x &&& 63).toInt = ((x.toBitVec &&& 63#32).toNat : Int) := by
    show (x.toBitVec &&& 63#32).toInt = _
    rw [BitVec.toInt_eq_toNat_of_lt]
    rw [BitVec.toNat_and]
    have := Nat.and_le_right (n := x.toBitVec.toNat) (m := (63#32).toNat)
    have e : (63#32).toNat = 63 := rfl
    omega
  rw [h, BitVec.toNat_and]
  have := Nat.and_le_right (n := x.toBitVec.toNat) (m := (63#32).toNat)
  have e : (63#32).toNat = 63 := rfl
  omega
set_option maxRecDepth 20000 in
theorem law_sw (L : Nat) (xs : Nat → Int32) (hLL : L ≤ 384) (i : Int) (i0 : 0 ≤ i) (i1 : i + 6 ≤ L) (M σ τ : rl_S) (c : IC M σ) (cm : IM M τ) (hw : WF M) (K : ∀ (M1 σ1 τ1 : rl_S), IC M1 σ1 → IM M1 τ1 → WF M1 → Lr L xs 1336 i [] σ1 τ1) : Lr L xs 27 i [] σ τ := by
  refine lr_aload dL_law_27 rfl ?_
  refine lr_iload dL_law_28 rfl ?_
  refine lr_sld dL_law_29 (by omega) (by omega) hLL ?_
  refine lr_bipush dL_law_30 (by decide) ?_
  refine lr_iand dL_law_32 ?_
  have h63 := and63 (iI (xs i.toNat).toInt)
  have e63 : (iI 63 : Int32) = 63 := by decide
  rw [e63]
  generalize (iI (xs i.toNat).toInt &&& 63 : Int32) = x at h63 ⊢
  have hx : (x.toInt = ((0 : Nat) : Int) ∨ x.toInt = ((1 : Nat) : Int) ∨ x.toInt = ((2 : Nat) : Int) ∨ x.toInt = ((3 : Nat) : Int) ∨ x.toInt = ((4 : Nat) : Int) ∨ x.toInt = ((5 : Nat) : Int) ∨ x.toInt = ((6 : Nat) : Int) ∨ x.toInt = ((7 : Nat) : Int) ∨ x.toInt = ((8 : Nat) : Int) ∨ x.toInt = ((9 : Nat) : Int) ∨ x.toInt = ((10 : Nat) : Int) ∨ x.toInt = ((11 : Nat) : Int) ∨ x.toInt = ((12 : Nat) : Int) ∨ x.toInt = ((13 : Nat) : Int) ∨ x.toInt = ((14 : Nat) : Int) ∨ x.toInt = ((15 : Nat) : Int) ∨ x.toInt = ((16 : Nat) : Int) ∨ x.toInt = ((17 : Nat) : Int) ∨ x.toInt = ((18 : Nat) : Int) ∨ x.toInt = ((19 : Nat) : Int) ∨ x.toInt = ((20 : Nat) : Int) ∨ x.toInt = ((21 : Nat) : Int) ∨ x.toInt = ((22 : Nat) : Int) ∨ x.toInt = ((23 : Nat) : Int) ∨ x.toInt = ((24 : Nat) : Int) ∨ x.toInt = ((25 : Nat) : Int) ∨ x.toInt = ((26 : Nat) : Int) ∨ x.toInt = ((27 : Nat) : Int) ∨ x.toInt = ((28 : Nat) : Int) ∨ x.toInt = ((29 : Nat) : Int) ∨ x.toInt = ((30 : Nat) : Int) ∨ x.toInt = ((31 : Nat) : Int) ∨ x.toInt = ((32 : Nat) : Int) ∨ x.toInt = ((33 : Nat) : Int) ∨ x.toInt = ((34 : Nat) : Int) ∨ x.toInt = ((35 : Nat) : Int) ∨ x.toInt = ((36 : Nat) : Int) ∨ x.toInt = ((37 : Nat) : Int)) ∨ 37 < x.toInt := by omega
  rcases hx with (hx | hx | hx | hx | hx | hx | hx | hx | hx | hx | hx | hx | hx | hx | hx | hx | hx | hx | hx | hx | hx | hx | hx | hx | hx | hx | hx | hx | hx | hx | hx | hx | hx | hx | hx | hx | hx | hx) | hx
  · exact lr_tabIn 200 dL_law_33 hx rfl (by decide) rfl rfl (law_0 L xs hLL i i0 i1 M σ τ c cm hw K)
  · exact lr_tabIn 233 dL_law_33 hx rfl (by decide) rfl rfl (law_1 L xs hLL i i0 i1 M σ τ c cm hw K)
  · exact lr_tabIn 256 dL_law_33 hx rfl (by decide) rfl rfl (law_2 L xs hLL i i0 i1 M σ τ c cm hw K)
  · exact lr_tabIn 279 dL_law_33 hx rfl (by decide) rfl rfl (law_3 L xs hLL i i0 i1 M σ τ c cm hw K)
  · exact lr_tabIn 302 dL_law_33 hx rfl (by decide) rfl rfl (law_4 L xs hLL i i0 i1 M σ τ c cm hw K)
  · exact lr_tabIn 335 dL_law_33 hx rfl (by decide) rfl rfl (law_5 L xs hLL i i0 i1 M σ τ c cm hw K)
  · exact lr_tabIn 358 dL_law_33 hx rfl (by decide) rfl rfl (law_6 L xs hLL i i0 i1 M σ τ c cm hw K)
  · exact lr_tabIn 391 dL_law_33 hx rfl (by decide) rfl rfl (law_7 L xs hLL i i0 i1 M σ τ c cm hw K)
  · exact lr_tabIn 424 dL_law_33 hx rfl (by decide) rfl rfl (law_8 L xs hLL i i0 i1 M σ τ c cm hw K)
  · exact lr_tabIn 457 dL_law_33 hx rfl (by decide) rfl rfl (law_9 L xs hLL i i0 i1 M σ τ c cm hw K)
  · exact lr_tabIn 480 dL_law_33 hx rfl (by decide) rfl rfl (law_10 L xs hLL i i0 i1 M σ τ c cm hw K)
  · exact lr_tabIn 503 dL_law_33 hx rfl (by decide) rfl rfl (law_11 L xs hLL i i0 i1 M σ τ c cm hw K)
  · exact lr_tabIn 526 dL_law_33 hx rfl (by decide) rfl rfl (law_12 L xs hLL i i0 i1 M σ τ c cm hw K)
  · exact lr_tabIn 559 dL_law_33 hx rfl (by decide) rfl rfl (law_13 L xs hLL i i0 i1 M σ τ c cm hw K)
  · exact lr_tabIn 582 dL_law_33 hx rfl (by decide) rfl rfl (law_14 L xs hLL i i0 i1 M σ τ c cm hw K)
  · exact lr_tabIn 625 dL_law_33 hx rfl (by decide) rfl rfl (law_15 L xs hLL i i0 i1 M σ τ c cm hw K)
  · exact lr_tabIn 648 dL_law_33 hx rfl (by decide) rfl rfl (law_16 L xs hLL i i0 i1 M σ τ c cm hw K)
  · exact lr_tabIn 671 dL_law_33 hx rfl (by decide) rfl rfl (law_17 L xs hLL i i0 i1 M σ τ c cm hw K)
  · exact lr_tabIn 694 dL_law_33 hx rfl (by decide) rfl rfl (law_18 L xs hLL i i0 i1 M σ τ c cm hw K)
  · exact lr_tabIn 717 dL_law_33 hx rfl (by decide) rfl rfl (law_19 L xs hLL i i0 i1 M σ τ c cm hw K)
  · exact lr_tabIn 751 dL_law_33 hx rfl (by decide) rfl rfl (law_20 L xs hLL i i0 i1 M σ τ c cm hw K)
  · exact lr_tabIn 784 dL_law_33 hx rfl (by decide) rfl rfl (law_21 L xs hLL i i0 i1 M σ τ c cm hw K)
  · exact lr_tabIn 817 dL_law_33 hx rfl (by decide) rfl rfl (law_22 L xs hLL i i0 i1 M σ τ c cm hw K)
  · exact lr_tabIn 860 dL_law_33 hx rfl (by decide) rfl rfl (law_23 L xs hLL i i0 i1 M σ τ c cm hw K)
  · exact lr_tabIn 873 dL_law_33 hx rfl (by decide) rfl rfl (law_24 L xs hLL i i0 i1 M σ τ c cm hw K)
  · exact lr_tabIn 906 dL_law_33 hx rfl (by decide) rfl rfl (law_25 L xs hLL i i0 i1 M σ τ c cm hw K)
  · exact lr_tabIn 939 dL_law_33 hx rfl (by decide) rfl rfl (law_26 L xs hLL i i0 i1 M σ τ c cm hw K)
  · exact lr_tabIn 952 dL_law_33 hx rfl (by decide) rfl rfl (law_27 L xs hLL i i0 i1 M σ τ c cm hw K)
  · exact lr_tabIn 975 dL_law_33 hx rfl (by decide) rfl rfl (law_28 L xs hLL i i0 i1 M σ τ c cm hw K)
  · exact lr_tabIn 1008 dL_law_33 hx rfl (by decide) rfl rfl (law_29 L xs hLL i i0 i1 M σ τ c cm hw K)
  · exact lr_tabIn 1041 dL_law_33 hx rfl (by decide) rfl rfl (law_30 L xs hLL i i0 i1 M σ τ c cm hw K)
  · exact lr_tabIn 1084 dL_law_33 hx rfl (by decide) rfl rfl (law_31 L xs hLL i i0 i1 M σ τ c cm hw K)
  · exact lr_tabIn 1107 dL_law_33 hx rfl (by decide) rfl rfl (law_32 L xs hLL i i0 i1 M σ τ c cm hw K)
  · exact lr_tabIn 1160 dL_law_33 hx rfl (by decide) rfl rfl (law_33 L xs hLL i i0 i1 M σ τ c cm hw K)
  · exact lr_tabIn 1203 dL_law_33 hx rfl (by decide) rfl rfl (law_34 L xs hLL i i0 i1 M σ τ c cm hw K)
  · exact lr_tabIn 1266 dL_law_33 hx rfl (by decide) rfl rfl (law_35 L xs hLL i i0 i1 M σ τ c cm hw K)
  · exact lr_tabIn 1299 dL_law_33 hx rfl (by decide) rfl rfl (law_36 L xs hLL i i0 i1 M σ τ c cm hw K)
  · exact lr_tabIn 1322 dL_law_33 hx rfl (by decide) rfl rfl (law_37 L xs hLL i i0 i1 M σ τ c cm hw K)
  · exact lr_tabOut 1336 dL_law_33 (Or.inr hx) rfl (K M σ τ c cm hw)
theorem law_loop (L : Nat) (xs : Nat → Int32) (hLL : L ≤ 384) : ∀ (n : Nat) (i : Int) (M σ τ : rl_S), (L : Int) ≤ i + 6 * n → 0 ≤ i → i ≤ 400 → IC M σ → IM M τ → WF M → Lr L xs 18 i [] σ τ := by
  intro n
  induction n with
  | zero =>
    intro i M σ τ hn i0 i2 c cm hw
    refine lr_iload dL_law_18 rfl ?_
    refine lr_aload dL_law_19 rfl ?_
    refine lr_slen dL_law_20 ?_
    refine lr_bipush dL_law_21 (by decide) ?_
    refine lr_isub dL_law_23 ?_
    refine lr_gt 1342 dL_law_24 rfl ⟨by omega, by omega⟩ ⟨by omega, by omega⟩ (fun q => ?_) (fun q => ?_)
    · exact lr_end dL_law_1342 dL_law_1343
    · exfalso; omega
  | succ n ih =>
    intro i M σ τ hn i0 i2 c cm hw
    refine lr_iload dL_law_18 rfl ?_
    refine lr_aload dL_law_19 rfl ?_
    refine lr_slen dL_law_20 ?_
    refine lr_bipush dL_law_21 (by decide) ?_
    refine lr_isub dL_law_23 ?_
    refine lr_gt 1342 dL_law_24 rfl ⟨by omega, by omega⟩ ⟨by omega, by omega⟩ (fun q => ?_) (fun q => ?_)
    · exact lr_end dL_law_1342 dL_law_1343
    · refine law_sw L xs hLL i i0 (by omega) M σ τ c cm hw (fun M1 σ1 τ1 c1 cm1 hw1 => ?_)
      refine lr_iinc dL_law_1336 ?_
      refine lr_goto 18 dL_law_1339 rfl ?_
      exact ih (i + 6) M1 σ1 τ1 (by omega) (by omega) (by omega) c1 cm1 hw1