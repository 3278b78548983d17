set_option maxRecDepth 20000 in
theorem c_count (M σ : rl_S) (c : IC M σ) (hw : WF M) (w : Int) (hww : -2147483648 ≤ w ∧ w < 2147483648) : Ct cW mX8_count [.ref 0, .int (iI w)] σ (pR (.int (iI (q_count M w))) σ) := by
  refine Ct.of plX8 (Nat.le_of_ble_eq_true rfl) ?_
  obtain ⟨gt, gs, gp, gg, gn, gh1, gf⟩ := id c
  have hb := wf_hb hw
  have hh := gs.2.2.2.2
  refine r_iload_n dX8_count_0 rfl ?_
  rcases (show w = 0 ∨ w = 1 ∨ w = 2 ∨ w = 3 ∨ w = 4 ∨ w = 5 ∨ w = 6 ∨ w = 7 ∨ w = 8 ∨ (w < 0 ∨ 8 < w) by omega) with rfl | rfl | rfl | rfl | rfl | rfl | rfl | rfl | rfl | hn
  · refine r_tableIn 52 dX8_count_1 (by decide) (by decide) rfl rfl ?_
    refine r_aload_n dX8_count_52 rfl ?_
    refine r_get (k := 0) lfX8_14 dX8_count_53 (Nat.le_of_ble_eq_true rfl) rfl rfl ?_
    refine r_get (k := 1) lfX8_113 dX8_count_56 (Nat.le_of_ble_eq_true rfl) rfl rfl ?_
    refine r_iret rfl dX8_count_59 ?_
    exact ⟨by rw [gt.2.2.2.2.2.2.1]; rfl, rfl⟩
  · refine r_tableIn 60 dX8_count_1 (by decide) (by decide) rfl rfl ?_
    refine r_aload_n dX8_count_60 rfl ?_
    refine r_get (k := 0) lfX8_14 dX8_count_61 (Nat.le_of_ble_eq_true rfl) rfl rfl ?_
    refine r_get (k := 1) lfX8_89 dX8_count_64 (Nat.le_of_ble_eq_true rfl) rfl rfl ?_
    refine r_iret rfl dX8_count_67 ?_
    exact ⟨by rw [gt.2.2.1]; rfl, rfl⟩
  · refine r_tableIn 68 dX8_count_1 (by decide) (by decide) rfl rfl ?_
    refine r_aload_n dX8_count_68 rfl ?_
    refine r_get (k := 0) lfX8_18 dX8_count_69 (Nat.le_of_ble_eq_true rfl) rfl rfl ?_
    refine r_get (k := 5) lfX8_89 dX8_count_72 (Nat.le_of_ble_eq_true rfl) rfl rfl ?_
    refine r_iret rfl dX8_count_75 ?_
    exact ⟨by rw [gt.2.2.2.1]; rfl, rfl⟩
  · refine r_tableIn 76 dX8_count_1 (by decide) (by decide) rfl rfl ?_
    refine r_aload_n dX8_count_76 rfl ?_
    refine r_get (k := 0) lfX8_14 dX8_count_77 (Nat.le_of_ble_eq_true rfl) rfl rfl ?_
    refine i_cvP (c_heightsT σ (hS M) gt.2.2.2.2.2.2.2.2.1 (hS_b6 hw) (by have := (wf_sw hw).1; have := gt.2.2.2.2.2.2.1; omega) (by have := (wf_sw hw).2.1; have := gt.2.2.2.2.2.2.1; omega)) lmX8_276 dX8_count_80 (Nat.le_of_ble_eq_true rfl) rfl ⟨_, _, rfl⟩ (by decide) (by decide) rfl rfl (Nat.le_of_ble_eq_true rfl) ?_
    refine r_iret rfl dX8_count_83 ?_
    exact ⟨by rw [gt.2.2.2.2.2.2.1]; rfl, rfl⟩
  · refine r_tableIn 84 dX8_count_1 (by decide) (by decide) rfl rfl ?_
    refine r_aload_n dX8_count_84 rfl ?_
    refine r_get (k := 0) lfX8_26 dX8_count_85 (Nat.le_of_ble_eq_true rfl) rfl rfl ?_
    refine i_cvP (c_crests σ (hi M) hh hb) lmX8_279 dX8_count_88 (Nat.le_of_ble_eq_true rfl) rfl ⟨_, _, rfl⟩ (by decide) (by decide) rfl rfl (Nat.le_of_ble_eq_true rfl) ?_
    refine r_iret rfl dX8_count_91 ?_
    exact ⟨rfl, rfl⟩
  · refine r_tableIn 92 dX8_count_1 (by decide) (by decide) rfl rfl ?_
    refine r_aload_n dX8_count_92 rfl ?_
    refine r_get (k := 0) lfX8_56 dX8_count_93 (Nat.le_of_ble_eq_true rfl) rfl rfl ?_
    refine r_get (k := 17) lfX8_220 dX8_count_96 (Nat.le_of_ble_eq_true rfl) rfl rfl ?_
    refine r_iret rfl dX8_count_99 ?_
    exact ⟨by rw [gn.1]; rfl, rfl⟩
  · refine r_tableIn 100 dX8_count_1 (by decide) (by decide) rfl rfl ?_
    refine r_aload_n dX8_count_100 rfl ?_
    refine r_get (k := 0) lfX8_40 dX8_count_101 (Nat.le_of_ble_eq_true rfl) rfl rfl ?_
    refine i_const dX8_count_104 ?_
    refine i_cvP (c_of σ 0 (by decide) (by decide)) lmX8_138 dX8_count_105 (Nat.le_of_ble_eq_true rfl) rfl ⟨_, _, rfl⟩ (by decide) (by decide) rfl rfl (Nat.le_of_ble_eq_true rfl) ?_
    refine r_iret rfl dX8_count_108 ?_
    exact ⟨by rw [show (0 : Int).toNat = 0 from rfl, gg 0 (by decide)]; rfl, rfl⟩
  · refine r_tableIn 109 dX8_count_1 (by decide) (by decide) rfl rfl ?_
    refine r_aload_n dX8_count_109 rfl ?_
    refine r_get (k := 0) lfX8_26 dX8_count_110 (Nat.le_of_ble_eq_true rfl) rfl rfl ?_
    refine i_cvP (c_greatest σ (hi M) hh hb) lmX8_282 dX8_count_113 (Nat.le_of_ble_eq_true rfl) rfl ⟨_, _, rfl⟩ (by decide) (by decide) rfl rfl (Nat.le_of_ble_eq_true rfl) ?_
    refine r_iret rfl dX8_count_116 ?_
    exact ⟨rfl, rfl⟩
  · refine r_tableIn 117 dX8_count_1 (by decide) (by decide) rfl rfl ?_
    refine r_aload_n dX8_count_117 rfl ?_
    refine r_get (k := 0) lfX8_285 dX8_count_118 (Nat.le_of_ble_eq_true rfl) rfl rfl ?_
    refine r_iret rfl dX8_count_121 ?_
    exact ⟨by rw [gf]; rfl, rfl⟩
  · refine r_tableOut 122 dX8_count_1 (by rw [iI_toInt hww]; omega) rfl ?_
    refine i_bipush dX8_count_122 (by decide) ?_
    refine r_iret rfl dX8_count_124 ?_
    exact ⟨by unfold q_count; (repeat (rw [if_neg (by omega)])), rfl⟩
  

theorem c_dig_4 (M σ : rl_S) (c : IC M σ) (hw : WF M) (h : Int64) (l3 l4 : Value) (hq : dI (dI h (q_saves M)) (q_night M 7 5) = q_digest M) : Rn cW mX8_digest 452 [.ref 0, .long h, .float 0, l3, l4] [] σ (qL (fun z σ' => z = q_digest M ∧ IC M σ')) := by
  refine r_ldc2 dX8_digest_452 lcX8_290 ?_
  refine r_lload_n dX8_digest_455 rfl ?_
  refine r_lmul dX8_digest_456 ?_
  refine r_aload_n dX8_digest_457 rfl ?_
  refine i_cvP (c_saves M σ c hw) lmX8_354 dX8_digest_458 (Nat.le_of_ble_eq_true rfl) rfl ⟨_, _, rfl⟩ (by decide) (by decide) rfl rfl (Nat.le_of_ble_eq_true rfl) ?_
  refine r_i2l dX8_digest_461 ?_
  refine r_ladd dX8_digest_462 ?_
  refine r_lstore_n dX8_digest_463 (Nat.le_of_ble_eq_true rfl) ?_
  refine r_ldc2 dX8_digest_464 lcX8_290 ?_
  refine r_lload_n dX8_digest_467 rfl ?_
  refine r_lmul dX8_digest_468 ?_
  refine r_aload_n dX8_digest_469 rfl ?_
  refine i_bipush dX8_digest_470 (by decide) ?_
  refine i_const dX8_digest_472 ?_
  refine i_cvI (c_night M σ c hw 7 5 (by decide)) lmX8_357 dX8_digest_473 (Nat.le_of_ble_eq_true rfl) rfl ⟨_, _, rfl⟩ (by decide) (by decide) rfl rfl (Nat.le_of_ble_eq_true rfl) (fun z1 σ1 h1 => ?_)
  obtain ⟨rfl, hl⟩ := h1
  refine r_i2l dX8_digest_476 ?_
  refine r_ladd dX8_digest_477 ?_
  refine r_lret rfl dX8_digest_478 ?_
  exact ⟨_, rfl, hq, ic_k c (fun k i g1 g2 => hl k i g1 g2)⟩

theorem c_dig_3 (M : rl_S) (hw : WF M) : ∀ (n : Nat) (i : Nat) (h : Int64) (l4 : Value) (σ : rl_S), i + n = 5 → IC M σ → ∀ x, x = dT M n i h → dI (dI x (q_saves M)) (q_night M 7 5) = q_digest M → Rn cW mX8_digest 160 [.ref 0, .long h, .float 0, .int (iI (i : Int)), l4] [] σ (qL (fun z σ' => z = q_digest M ∧ IC M σ')) := by
  intro n
  induction n with
  | zero =>
    intro i h l4 σ hi c x hx hq
    rw [hx] at hq
    refine r_iload_n dX8_digest_160 rfl ?_
    refine r_gets (ref := "") zin_TENTHS lsX8_307 dX8_digest_161 ?_
    refine i_tlen zin_TENTHS dX8_digest_164 ?_
    refine i_icmp_ge 452 dX8_digest_165 rfl ⟨by omega, by omega⟩ ⟨by omega, by omega⟩ (fun q165 => ?_) (fun q165 => ?_)
    · skip
      exact c_dig_4 M σ c hw h _ _ hq
    · exfalso
      omega
  | succ n ih =>
    intro i h l4 σ hi c x hx hq
    have hx2 : x = dT M n (i + 1) (tD M h (zTENTHS i)) := hx
    have tb0 := zT_bd i (by omega)
    have tb : -2147483648 ≤ zTENTHS i ∧ zTENTHS i < 2147483648 := ⟨by omega, by omega⟩
    refine r_iload_n dX8_digest_160 rfl ?_
    refine r_gets (ref := "") zin_TENTHS lsX8_307 dX8_digest_161 ?_
    refine i_tlen zin_TENTHS dX8_digest_164 ?_
    refine i_icmp_ge 452 dX8_digest_165 rfl ⟨by omega, by omega⟩ ⟨by omega, by omega⟩ (fun q165 => ?_) (fun q165 => ?_)
    · exfalso
      omega
    · skip
      refine r_gets (ref := "") zin_TENTHS lsX8_307 dX8_digest_168 ?_
      refine r_iload_n dX8_digest_171 rfl ?_
      refine i_tald zin_TENTHS dX8_digest_172 ⟨by omega, by omega⟩ (by decide) ?_
      rw [show ((i : Int)).toNat = i from rfl]
      refine r_istore dX8_digest_173 (Nat.le_of_ble_eq_true rfl) ?_
      refine r_ldc2 dX8_digest_175 lcX8_290 ?_
      refine r_lload_n dX8_digest_178 rfl ?_
      refine r_lmul dX8_digest_179 ?_
      refine r_aload_n dX8_digest_180 rfl ?_
      refine r_iload dX8_digest_181 rfl ?_
      refine i_cvP (c_high M σ c hw (zTENTHS i) tb) lmX8_311 dX8_digest_183 (Nat.le_of_ble_eq_true rfl) rfl ⟨_, _, rfl⟩ (by decide) (by decide) rfl rfl (Nat.le_of_ble_eq_true rfl) ?_
      refine r_i2l dX8_digest_186 ?_
      refine r_ladd dX8_digest_187 ?_
      refine r_lstore_n dX8_digest_188 (Nat.le_of_ble_eq_true rfl) ?_
      change Rn _ _ 189 [.ref 0, .long _, .float 0, .int (iI (i : Int)), .int (iI (zTENTHS i))] _ _ _
      refine r_ldc2 dX8_digest_189 lcX8_290 ?_
      refine r_lload_n dX8_digest_192 rfl ?_
      refine r_lmul dX8_digest_193 ?_
      refine r_aload_n dX8_digest_194 rfl ?_
      refine r_iload dX8_digest_195 rfl ?_
      refine i_cvP (c_does M σ c hw (zTENTHS i) tb) lmX8_314 dX8_digest_197 (Nat.le_of_ble_eq_true rfl) rfl ⟨_, _, rfl⟩ (by decide) (by decide) rfl rfl (Nat.le_of_ble_eq_true rfl) ?_
      refine r_i2l dX8_digest_200 ?_
      refine r_ladd dX8_digest_201 ?_
      refine r_lstore_n dX8_digest_202 (Nat.le_of_ble_eq_true rfl) ?_
      change Rn _ _ 203 [.ref 0, .long _, .float 0, .int (iI (i : Int)), .int (iI (zTENTHS i))] _ _ _
      refine r_ldc2 dX8_digest_203 lcX8_290 ?_
      refine r_lload_n dX8_digest_206 rfl ?_
      refine r_lmul dX8_digest_207 ?_
      refine r_aload_n dX8_digest_208 rfl ?_
      refine r_iload dX8_digest_209 rfl ?_
      refine i_cvP (c_leans M σ c hw (zTENTHS i) tb) lmX8_317 dX8_digest_211 (Nat.le_of_ble_eq_true rfl) rfl ⟨_, _, rfl⟩ (by decide) (by decide) rfl rfl (Nat.le_of_ble_eq_true rfl) ?_
      refine r_i2l dX8_digest_214 ?_
      refine r_ladd dX8_digest_215 ?_
      refine r_lstore_n dX8_digest_216 (Nat.le_of_ble_eq_true rfl) ?_
      change Rn _ _ 217 [.ref 0, .long _, .float 0, .int (iI (i : Int)), .int (iI (zTENTHS i))] _ _ _
      refine r_ldc2 dX8_digest_217 lcX8_290 ?_
      refine r_lload_n dX8_digest_220 rfl ?_
      refine r_lmul dX8_digest_221 ?_
      refine r_aload_n dX8_digest_222 rfl ?_
      refine r_iload dX8_digest_223 rfl ?_
      refine i_const dX8_digest_225 ?_
      refine i_cvP (c_crest M σ c hw (zTENTHS i) 2 tb (by decide)) lmX8_320 dX8_digest_226 (Nat.le_of_ble_eq_true rfl) rfl ⟨_, _, rfl⟩ (by decide) (by decide) rfl rfl (Nat.le_of_ble_eq_true rfl) ?_
      refine r_i2l dX8_digest_229 ?_
      refine r_ladd dX8_digest_230 ?_
      refine r_lstore_n dX8_digest_231 (Nat.le_of_ble_eq_true rfl) ?_
      change Rn _ _ 232 [.ref 0, .long _, .float 0, .int (iI (i : Int)), .int (iI (zTENTHS i))] _ _ _
      refine r_ldc2 dX8_digest_232 lcX8_290 ?_
      refine r_lload_n dX8_digest_235 rfl ?_
      refine r_lmul dX8_digest_236 ?_
      refine r_aload_n dX8_digest_237 rfl ?_
      refine r_iload dX8_digest_238 rfl ?_
      refine i_cvP (c_seventh M σ c hw (zTENTHS i) tb) lmX8_323 dX8_digest_240 (Nat.le_of_ble_eq_true rfl) rfl ⟨_, _, rfl⟩ (by decide) (by decide) rfl rfl (Nat.le_of_ble_eq_true rfl) ?_
      refine r_i2l dX8_digest_243 ?_
      refine r_ladd dX8_digest_244 ?_
      refine r_lstore_n dX8_digest_245 (Nat.le_of_ble_eq_true rfl) ?_
      change Rn _ _ 246 [.ref 0, .long _, .float 0, .int (iI (i : Int)), .int (iI (zTENTHS i))] _ _ _
      refine r_ldc2 dX8_digest_246 lcX8_290 ?_
      refine r_lload_n dX8_digest_249 rfl ?_
      refine r_lmul dX8_digest_250 ?_
      refine r_aload_n dX8_digest_251 rfl ?_
      refine r_iload dX8_digest_252 rfl ?_
      refine i_bipush dX8_digest_254 (by decide) ?_
      refine i_const dX8_digest_256 ?_
      refine i_cvI (c_lull M σ c hw (zTENTHS i) 20 0 tb (by decide) (by decide)) lmX8_326 dX8_digest_257 (Nat.le_of_ble_eq_true rfl) rfl ⟨_, _, rfl⟩ (by decide) (by decide) rfl rfl (Nat.le_of_ble_eq_true rfl) (fun z1 σ1 h1 => ?_)
      obtain ⟨rfl, hs1⟩ := h1
      rw [hs1]
      refine r_i2l dX8_digest_260 ?_
      refine r_ladd dX8_digest_261 ?_
      refine r_lstore_n dX8_digest_262 (Nat.le_of_ble_eq_true rfl) ?_
      change Rn _ _ 263 [.ref 0, .long _, .float 0, .int (iI (i : Int)), .int (iI (zTENTHS i))] _ _ _
      refine r_ldc2 dX8_digest_263 lcX8_290 ?_
      refine r_lload_n dX8_digest_266 rfl ?_
      refine r_lmul dX8_digest_267 ?_
      refine r_aload_n dX8_digest_268 rfl ?_
      refine r_iload dX8_digest_269 rfl ?_
      refine i_bipush dX8_digest_271 (by decide) ?_
      refine i_const dX8_digest_273 ?_
      refine i_cvI (c_lull M σ c hw (zTENTHS i) 20 1 tb (by decide) (by decide)) lmX8_326 dX8_digest_274 (Nat.le_of_ble_eq_true rfl) rfl ⟨_, _, rfl⟩ (by decide) (by decide) rfl rfl (Nat.le_of_ble_eq_true rfl) (fun z1 σ1 h1 => ?_)
      obtain ⟨rfl, hs2⟩ := h1
      rw [hs2]
      refine r_i2l dX8_digest_277 ?_
      refine r_ladd dX8_digest_278 ?_
      refine r_lstore_n dX8_digest_279 (Nat.le_of_ble_eq_true rfl) ?_
      change Rn _ _ 280 [.ref 0, .long _, .float 0, .int (iI (i : Int)), .int (iI (zTENTHS i))] _ _ _
      refine r_ldc2 dX8_digest_280 lcX8_290 ?_
      refine r_lload_n dX8_digest_283 rfl ?_
      refine r_lmul dX8_digest_284 ?_
      refine r_aload_n dX8_digest_285 rfl ?_
      refine r_iload dX8_digest_286 rfl ?_
      refine i_cvP (c_step M σ c hw (zTENTHS i) tb) lmX8_329 dX8_digest_288 (Nat.le_of_ble_eq_true rfl) rfl ⟨_, _, rfl⟩ (by decide) (by decide) rfl rfl (Nat.le_of_ble_eq_true rfl) ?_
      refine r_i2l dX8_digest_291 ?_
      refine r_ladd dX8_digest_292 ?_
      refine r_lstore_n dX8_digest_293 (Nat.le_of_ble_eq_true rfl) ?_
      change Rn _ _ 294 [.ref 0, .long _, .float 0, .int (iI (i : Int)), .int (iI (zTENTHS i))] _ _ _
      refine r_ldc2 dX8_digest_294 lcX8_290 ?_
      refine r_lload_n dX8_digest_297 rfl ?_
      refine r_lmul dX8_digest_298 ?_
      refine r_aload_n dX8_digest_299 rfl ?_
      refine r_iload dX8_digest_300 rfl ?_
      refine i_cvP (c_fall M σ c hw (zTENTHS i) tb) lmX8_332 dX8_digest_302 (Nat.le_of_ble_eq_true rfl) rfl ⟨_, _, rfl⟩ (by decide) (by decide) rfl rfl (Nat.le_of_ble_eq_true rfl) ?_
      refine r_i2l dX8_digest_305 ?_
      refine r_ladd dX8_digest_306 ?_
      refine r_lstore_n dX8_digest_307 (Nat.le_of_ble_eq_true rfl) ?_
      change Rn _ _ 308 [.ref 0, .long _, .float 0, .int (iI (i : Int)), .int (iI (zTENTHS i))] _ _ _
      refine r_ldc2 dX8_digest_308 lcX8_290 ?_
      refine r_lload_n dX8_digest_311 rfl ?_
      refine r_lmul dX8_digest_312 ?_
      refine r_aload_n dX8_digest_313 rfl ?_
      refine r_iload dX8_digest_314 rfl ?_
      refine i_cvI (c_climb M σ c hw (zTENTHS i) tb) lmX8_335 dX8_digest_316 (Nat.le_of_ble_eq_true rfl) rfl ⟨_, _, rfl⟩ (by decide) (by decide) rfl rfl (Nat.le_of_ble_eq_true rfl) (fun z1 σ1 h1 => ?_)
      obtain ⟨rfl, c1⟩ := h1
      refine r_i2l dX8_digest_319 ?_
      refine r_ladd dX8_digest_320 ?_
      refine r_lstore_n dX8_digest_321 (Nat.le_of_ble_eq_true rfl) ?_
      change Rn _ _ 322 [.ref 0, .long _, .float 0, .int (iI (i : Int)), .int (iI (zTENTHS i))] _ _ _
      refine r_ldc2 dX8_digest_322 lcX8_290 ?_
      refine r_lload_n dX8_digest_325 rfl ?_
      refine r_lmul dX8_digest_326 ?_
      refine r_aload_n dX8_digest_327 rfl ?_
      refine r_iload dX8_digest_328 rfl ?_
      refine i_cvI (c_bangs M σ1 c1 hw (zTENTHS i) tb) lmX8_338 dX8_digest_330 (Nat.le_of_ble_eq_true rfl) rfl ⟨_, _, rfl⟩ (by decide) (by decide) rfl rfl (Nat.le_of_ble_eq_true rfl) (fun z2 σ2 h2 => ?_)
      obtain ⟨rfl, c2⟩ := h2
      refine r_i2l dX8_digest_333 ?_
      refine r_ladd dX8_digest_334 ?_
      refine r_lstore_n dX8_digest_335 (Nat.le_of_ble_eq_true rfl) ?_
      change Rn _ _ 336 [.ref 0, .long _, .float 0, .int (iI (i : Int)), .int (iI (zTENTHS i))] _ _ _
      refine r_ldc2 dX8_digest_336 lcX8_290 ?_
      refine r_lload_n dX8_digest_339 rfl ?_
      refine r_lmul dX8_digest_340 ?_
      refine r_aload_n dX8_digest_341 rfl ?_
      refine r_iload dX8_digest_342 rfl ?_
      refine i_const dX8_digest_344 ?_
      refine i_cvL (c_safe M σ2 c2 hw (zTENTHS i) tb 0 (by decide)) lmX8_341 dX8_digest_345 (Nat.le_of_ble_eq_true rfl) rfl ⟨_, _, rfl⟩ (by decide) (by decide) rfl rfl (Nat.le_of_ble_eq_true rfl) (fun z3 σ3 h3 => ?_)
      obtain ⟨rfl, c3⟩ := h3
      refine r_ladd dX8_digest_348 ?_
      refine r_lstore_n dX8_digest_349 (Nat.le_of_ble_eq_true rfl) ?_
      change Rn _ _ 350 [.ref 0, .long _, .float 0, .int (iI (i : Int)), .int (iI (zTENTHS i))] _ _ _
      refine r_ldc2 dX8_digest_350 lcX8_290 ?_
      refine r_lload_n dX8_digest_353 rfl ?_
      refine r_lmul dX8_digest_354 ?_
      refine r_aload_n dX8_digest_355 rfl ?_
      refine r_iload dX8_digest_356 rfl ?_
      refine i_const dX8_digest_358 ?_
      refine i_cvL (c_safe M σ3 c3 hw (zTENTHS i) tb 1 (by decide)) lmX8_341 dX8_digest_359 (Nat.le_of_ble_eq_true rfl) rfl ⟨_, _, rfl⟩ (by decide) (by decide) rfl rfl (Nat.le_of_ble_eq_true rfl) (fun z4 σ4 h4 => ?_)
      obtain ⟨rfl, c4⟩ := h4
      refine r_ladd dX8_digest_362 ?_
      refine r_lstore_n dX8_digest_363 (Nat.le_of_ble_eq_true rfl) ?_
      change Rn _ _ 364 [.ref 0, .long _, .float 0, .int (iI (i : Int)), .int (iI (zTENTHS i))] _ _ _
      refine r_ldc2 dX8_digest_364 lcX8_290 ?_
      refine r_lload_n dX8_digest_367 rfl ?_
      refine r_lmul dX8_digest_368 ?_
      refine r_aload_n dX8_digest_369 rfl ?_
      refine r_iload dX8_digest_370 rfl ?_
      refine i_bipush dX8_digest_372 (by decide) ?_
      refine i_cvI (c_best M σ4 c4 hw (zTENTHS i) 30 tb (by decide)) lmX8_199 dX8_digest_374 (Nat.le_of_ble_eq_true rfl) rfl ⟨_, _, rfl⟩ (by decide) (by decide) rfl rfl (Nat.le_of_ble_eq_true rfl) (fun z5 σ5 h5 => ?_)
      obtain ⟨rfl, k5⟩ := h5
      have c5 : IC M σ5 := ic_k c4 (fun k i g _ => k5 k i g)
      refine r_i2l dX8_digest_377 ?_
      refine r_ladd dX8_digest_378 ?_
      refine r_lstore_n dX8_digest_379 (Nat.le_of_ble_eq_true rfl) ?_
      change Rn _ _ 380 [.ref 0, .long _, .float 0, .int (iI (i : Int)), .int (iI (zTENTHS i))] _ _ _
      refine r_ldc2 dX8_digest_380 lcX8_290 ?_
      refine r_lload_n dX8_digest_383 rfl ?_
      refine r_lmul dX8_digest_384 ?_
      refine r_aload_n dX8_digest_385 rfl ?_
      refine r_iload dX8_digest_386 rfl ?_
      refine i_bipush dX8_digest_388 (by decide) ?_
      refine i_cvI (c_call M σ5 c5 hw (zTENTHS i) 30 tb (by decide)) lmX8_345 dX8_digest_390 (Nat.le_of_ble_eq_true rfl) rfl ⟨_, _, rfl⟩ (by decide) (by decide) rfl rfl (Nat.le_of_ble_eq_true rfl) (fun z6 σ6 h6 => ?_)
      obtain ⟨rfl, k6⟩ := h6
      have c6 : IC M σ6 := ic_k c5 (fun k i g _ => k6 k i g)
      refine r_i2l dX8_digest_393 ?_
      refine r_ladd dX8_digest_394 ?_
      refine r_lstore_n dX8_digest_395 (Nat.le_of_ble_eq_true rfl) ?_
      change Rn _ _ 396 [.ref 0, .long _, .float 0, .int (iI (i : Int)), .int (iI (zTENTHS i))] _ _ _
      refine r_ldc2 dX8_digest_396 lcX8_290 ?_
      refine r_lload_n dX8_digest_399 rfl ?_
      refine r_lmul dX8_digest_400 ?_
      refine r_aload_n dX8_digest_401 rfl ?_
      refine r_iload dX8_digest_402 rfl ?_
      refine i_bipush dX8_digest_404 (by decide) ?_
      refine i_const dX8_digest_406 ?_
      refine i_cvP (c_down M σ6 c6 hw (zTENTHS i) 30 0 tb (by decide) (by decide)) lmX8_348 dX8_digest_407 (Nat.le_of_ble_eq_true rfl) rfl ⟨_, _, rfl⟩ (by decide) (by decide) rfl rfl (Nat.le_of_ble_eq_true rfl) ?_
      refine r_i2l dX8_digest_410 ?_
      refine r_ladd dX8_digest_411 ?_
      refine r_lstore_n dX8_digest_412 (Nat.le_of_ble_eq_true rfl) ?_
      change Rn _ _ 413 [.ref 0, .long _, .float 0, .int (iI (i : Int)), .int (iI (zTENTHS i))] _ _ _
      refine r_ldc2 dX8_digest_413 lcX8_290 ?_
      refine r_lload_n dX8_digest_416 rfl ?_
      refine r_lmul dX8_digest_417 ?_
      refine r_aload_n dX8_digest_418 rfl ?_
      refine r_iload dX8_digest_419 rfl ?_
      refine i_bipush dX8_digest_421 (by decide) ?_
      refine i_const dX8_digest_423 ?_
      refine i_cvP (c_down M σ6 c6 hw (zTENTHS i) 30 1 tb (by decide) (by decide)) lmX8_348 dX8_digest_424 (Nat.le_of_ble_eq_true rfl) rfl ⟨_, _, rfl⟩ (by decide) (by decide) rfl rfl (Nat.le_of_ble_eq_true rfl) ?_
      refine r_i2l dX8_digest_427 ?_
      refine r_ladd dX8_digest_428 ?_
      refine r_lstore_n dX8_digest_429 (Nat.le_of_ble_eq_true rfl) ?_
      change Rn _ _ 430 [.ref 0, .long _, .float 0, .int (iI (i : Int)), .int (iI (zTENTHS i))] _ _ _
      refine r_ldc2 dX8_digest_430 lcX8_290 ?_
      refine r_lload_n dX8_digest_433 rfl ?_
      refine r_lmul dX8_digest_434 ?_
      refine r_aload_n dX8_digest_435 rfl ?_
      refine r_iload dX8_digest_436 rfl ?_
      refine i_bipush dX8_digest_438 (by decide) ?_
      refine i_cvP (c_ladder M σ6 c6 hw (zTENTHS i) 30 tb (by decide)) lmX8_351 dX8_digest_440 (Nat.le_of_ble_eq_true rfl) rfl ⟨_, _, rfl⟩ (by decide) (by decide) rfl rfl (Nat.le_of_ble_eq_true rfl) ?_
      refine r_i2l dX8_digest_443 ?_
      refine r_ladd dX8_digest_444 ?_
      refine r_lstore_n dX8_digest_445 (Nat.le_of_ble_eq_true rfl) ?_
      change Rn _ _ 446 [.ref 0, .long _, .float 0, .int (iI (i : Int)), .int (iI (zTENTHS i))] _ _ _
      refine i_iinc dX8_digest_446 rfl (Nat.le_of_ble_eq_true rfl) ?_
      refine r_goto 160 dX8_digest_449 rfl ?_
      exact ih (i + 1) (tD M h (zTENTHS i)) _ σ6 (by omega) c6 x hx2 hq

theorem c_dig_2 (M σ : rl_S) (c : IC M σ) (hw : WF M) : ∀ (n : Nat) (s : Int) (h : Int64) (l4 : Value), s + n = nS M → 0 ≤ s → ∀ x, x = dS M n s h → dI (dI (dT M 5 0 (dI (dI x (q_roll M 0)) (q_roll M 1))) (q_saves M)) (q_night M 7 5) = q_digest M → Rn cW mX8_digest 59 [.ref 0, .long h, .float 0, .int (iI s), l4] [] σ (qL (fun z σ' => z = q_digest M ∧ IC M σ')) := by
  have e7 : σ 1 7 = nS M := c.1.2.2.2.2.2.2.1
  have sw := wf_sw hw
  intro n
  induction n with
  | zero =>
    intro s h l4 hs s0 x hx hq
    rw [hx] at hq
    have s1 := sw.1
    have s2 := sw.2.1
    refine r_iload_n dX8_digest_59 rfl ?_
    refine r_aload_n dX8_digest_60 rfl ?_
    refine r_get (k := 0) lfX8_14 dX8_digest_61 (Nat.le_of_ble_eq_true rfl) rfl rfl ?_
    refine r_get (k := 1) lfX8_113 dX8_digest_64 (Nat.le_of_ble_eq_true rfl) rfl rfl ?_
    refine i_icmp_ge 132 dX8_digest_67 rfl ⟨by omega, by omega⟩ ⟨by omega, by omega⟩ (fun q67 => ?_) (fun q67 => ?_)
    · skip
      refine r_ldc2 dX8_digest_132 lcX8_290 ?_
      refine r_lload_n dX8_digest_135 rfl ?_
      refine r_lmul dX8_digest_136 ?_
      refine r_aload_n dX8_digest_137 rfl ?_
      refine i_const dX8_digest_138 ?_
      refine i_cvP (c_roll M σ c hw 0 (by decide)) lmX8_304 dX8_digest_139 (Nat.le_of_ble_eq_true rfl) rfl ⟨_, _, rfl⟩ (by decide) (by decide) rfl rfl (Nat.le_of_ble_eq_true rfl) ?_
      refine r_i2l dX8_digest_142 ?_
      refine r_ladd dX8_digest_143 ?_
      refine r_lstore_n dX8_digest_144 (Nat.le_of_ble_eq_true rfl) ?_
      refine r_ldc2 dX8_digest_145 lcX8_290 ?_
      refine r_lload_n dX8_digest_148 rfl ?_
      refine r_lmul dX8_digest_149 ?_
      refine r_aload_n dX8_digest_150 rfl ?_
      refine i_const dX8_digest_151 ?_
      refine i_cvP (c_roll M σ c hw 1 (by decide)) lmX8_304 dX8_digest_152 (Nat.le_of_ble_eq_true rfl) rfl ⟨_, _, rfl⟩ (by decide) (by decide) rfl rfl (Nat.le_of_ble_eq_true rfl) ?_
      refine r_i2l dX8_digest_155 ?_
      refine r_ladd dX8_digest_156 ?_
      refine r_lstore_n dX8_digest_157 (Nat.le_of_ble_eq_true rfl) ?_
      refine i_const dX8_digest_158 ?_
      refine r_istore_n dX8_digest_159 (Nat.le_of_ble_eq_true rfl) ?_
      exact c_dig_3 M hw 5 0 _ _ σ rfl c _ rfl hq
    · exfalso
      omega
  | succ n ih =>
    intro s h l4 hs s0 x hx hq
    have hx2 : x = dS M n (s + 1) (dI (dI (dI (dI h (hS M s)) (lS M s)) (q_learn M s (-1))) (q_learn M s 0)) := hx
    have s1 := sw.1
    have s2 := sw.2.1
    have sb : -2147483648 ≤ s ∧ s < 2147483648 := ⟨by omega, by omega⟩
    have q0 : q_swell M s 0 = hS M s := by unfold q_swell; rw [if_pos ⟨⟨s0, by omega⟩, Or.inl rfl⟩]; rfl
    have q1 : q_swell M s 1 = lS M s := by unfold q_swell; rw [if_pos ⟨⟨s0, by omega⟩, Or.inr rfl⟩]; rfl
    refine r_iload_n dX8_digest_59 rfl ?_
    refine r_aload_n dX8_digest_60 rfl ?_
    refine r_get (k := 0) lfX8_14 dX8_digest_61 (Nat.le_of_ble_eq_true rfl) rfl rfl ?_
    refine r_get (k := 1) lfX8_113 dX8_digest_64 (Nat.le_of_ble_eq_true rfl) rfl rfl ?_
    refine i_icmp_ge 132 dX8_digest_67 rfl ⟨by omega, by omega⟩ ⟨by omega, by omega⟩ (fun q67 => ?_) (fun q67 => ?_)
    · exfalso
      omega
    · skip
      refine r_ldc2 dX8_digest_70 lcX8_290 ?_
      refine r_lload_n dX8_digest_73 rfl ?_
      refine r_lmul dX8_digest_74 ?_
      refine r_aload_n dX8_digest_75 rfl ?_
      refine r_iload_n dX8_digest_76 rfl ?_
      refine i_const dX8_digest_77 ?_
      refine i_cvP (c_swell M σ c hw s 0 sb (by decide)) lmX8_298 dX8_digest_78 (Nat.le_of_ble_eq_true rfl) rfl ⟨_, _, rfl⟩ (by decide) (by decide) rfl rfl (Nat.le_of_ble_eq_true rfl) ?_
      rw [q0]
      refine r_i2l dX8_digest_81 ?_
      refine r_ladd dX8_digest_82 ?_
      refine r_lstore_n dX8_digest_83 (Nat.le_of_ble_eq_true rfl) ?_
      change Rn _ _ 84 [.ref 0, .long _, .float 0, .int (iI s), l4] _ _ _
      refine r_ldc2 dX8_digest_84 lcX8_290 ?_
      refine r_lload_n dX8_digest_87 rfl ?_
      refine r_lmul dX8_digest_88 ?_
      refine r_aload_n dX8_digest_89 rfl ?_
      refine r_iload_n dX8_digest_90 rfl ?_
      refine i_const dX8_digest_91 ?_
      refine i_cvP (c_swell M σ c hw s 1 sb (by decide)) lmX8_298 dX8_digest_92 (Nat.le_of_ble_eq_true rfl) rfl ⟨_, _, rfl⟩ (by decide) (by decide) rfl rfl (Nat.le_of_ble_eq_true rfl) ?_
      rw [q1]
      refine r_i2l dX8_digest_95 ?_
      refine r_ladd dX8_digest_96 ?_
      refine r_lstore_n dX8_digest_97 (Nat.le_of_ble_eq_true rfl) ?_
      change Rn _ _ 98 [.ref 0, .long _, .float 0, .int (iI s), l4] _ _ _
      refine r_ldc2 dX8_digest_98 lcX8_290 ?_
      refine r_lload_n dX8_digest_101 rfl ?_
      refine r_lmul dX8_digest_102 ?_
      refine r_aload_n dX8_digest_103 rfl ?_
      refine r_iload_n dX8_digest_104 rfl ?_
      refine i_const dX8_digest_105 ?_
      refine i_cvP (c_learn M σ c hw s (-1) sb (by decide)) lmX8_301 dX8_digest_106 (Nat.le_of_ble_eq_true rfl) rfl ⟨_, _, rfl⟩ (by decide) (by decide) rfl rfl (Nat.le_of_ble_eq_true rfl) ?_
      refine r_i2l dX8_digest_109 ?_
      refine r_ladd dX8_digest_110 ?_
      refine r_lstore_n dX8_digest_111 (Nat.le_of_ble_eq_true rfl) ?_
      change Rn _ _ 112 [.ref 0, .long _, .float 0, .int (iI s), l4] _ _ _
      refine r_ldc2 dX8_digest_112 lcX8_290 ?_
      refine r_lload_n dX8_digest_115 rfl ?_
      refine r_lmul dX8_digest_116 ?_
      refine r_aload_n dX8_digest_117 rfl ?_
      refine r_iload_n dX8_digest_118 rfl ?_
      refine i_const dX8_digest_119 ?_
      refine i_cvP (c_learn M σ c hw s 0 sb (by decide)) lmX8_301 dX8_digest_120 (Nat.le_of_ble_eq_true rfl) rfl ⟨_, _, rfl⟩ (by decide) (by decide) rfl rfl (Nat.le_of_ble_eq_true rfl) ?_
      refine r_i2l dX8_digest_123 ?_
      refine r_ladd dX8_digest_124 ?_
      refine r_lstore_n dX8_digest_125 (Nat.le_of_ble_eq_true rfl) ?_
      change Rn _ _ 126 [.ref 0, .long _, .float 0, .int (iI s), l4] _ _ _
      refine i_iinc dX8_digest_126 rfl (Nat.le_of_ble_eq_true rfl) ?_
      refine r_goto 59 dX8_digest_129 rfl ?_
      exact ih (s + 1) (dI (dI (dI (dI h (hS M s)) (lS M s)) (q_learn M s (-1))) (q_learn M s 0)) _ (by omega) (by omega) x hx2 hq

theorem c_dig_1 (M σ : rl_S) (c : IC M σ) (hw : WF M) : ∀ (n : Nat) (w : Int) (h : Int64) (l4 : Value), w + n = 8 → 0 ≤ w → ∀ x, x = dC M n w h → dI (dI (dT M 5 0 (dI (dI (dS M (nS M).toNat 0 (dI (dI x (q_fault M 0)) (q_fault M 1))) (q_roll M 0)) (q_roll M 1))) (q_saves M)) (q_night M 7 5) = q_digest M → Rn cW mX8_digest 6 [.ref 0, .long h, .float 0, .int (iI w), l4] [] σ (qL (fun z σ' => z = q_digest M ∧ IC M σ')) := by
  intro n
  induction n with
  | zero =>
    intro w h l4 hs s0 x hx hq
    rw [hx] at hq
    have s1 := (wf_sw hw).1
    refine r_iload_n dX8_digest_6 rfl ?_
    refine i_bipush dX8_digest_7 (by decide) ?_
    refine i_icmp_gt 31 dX8_digest_9 rfl ⟨by omega, by omega⟩ ⟨by omega, by omega⟩ (fun q9 => ?_) (fun q9 => ?_)
    · skip
      refine r_ldc2 dX8_digest_31 lcX8_290 ?_
      refine r_lload_n dX8_digest_34 rfl ?_
      refine r_lmul dX8_digest_35 ?_
      refine r_aload_n dX8_digest_36 rfl ?_
      refine i_const dX8_digest_37 ?_
      refine i_cvP (c_fault M σ c hw 0 (by decide)) lmX8_295 dX8_digest_38 (Nat.le_of_ble_eq_true rfl) rfl ⟨_, _, rfl⟩ (by decide) (by decide) rfl rfl (Nat.le_of_ble_eq_true rfl) ?_
      refine r_i2l dX8_digest_41 ?_
      refine r_ladd dX8_digest_42 ?_
      refine r_lstore_n dX8_digest_43 (Nat.le_of_ble_eq_true rfl) ?_
      refine r_ldc2 dX8_digest_44 lcX8_290 ?_
      refine r_lload_n dX8_digest_47 rfl ?_
      refine r_lmul dX8_digest_48 ?_
      refine r_aload_n dX8_digest_49 rfl ?_
      refine i_const dX8_digest_50 ?_
      refine i_cvP (c_fault M σ c hw 1 (by decide)) lmX8_295 dX8_digest_51 (Nat.le_of_ble_eq_true rfl) rfl ⟨_, _, rfl⟩ (by decide) (by decide) rfl rfl (Nat.le_of_ble_eq_true rfl) ?_
      refine r_i2l dX8_digest_54 ?_
      refine r_ladd dX8_digest_55 ?_
      refine r_lstore_n dX8_digest_56 (Nat.le_of_ble_eq_true rfl) ?_
      refine i_const dX8_digest_57 ?_
      refine r_istore_n dX8_digest_58 (Nat.le_of_ble_eq_true rfl) ?_
      exact c_dig_2 M σ c hw (nS M).toNat 0 _ _ (by omega) (by omega) _ rfl hq
    · exfalso
      omega
  | succ n ih =>
    intro w h l4 hs s0 x hx hq
    have hx2 : x = dC M n (w + 1) (dI h (q_count M w)) := hx
    refine r_iload_n dX8_digest_6 rfl ?_
    refine i_bipush dX8_digest_7 (by decide) ?_
    refine i_icmp_gt 31 dX8_digest_9 rfl ⟨by omega, by omega⟩ ⟨by omega, by omega⟩ (fun q9 => ?_) (fun q9 => ?_)
    · exfalso
      omega
    · skip
      refine r_ldc2 dX8_digest_12 lcX8_290 ?_
      refine r_lload_n dX8_digest_15 rfl ?_
      refine r_lmul dX8_digest_16 ?_
      refine r_aload_n dX8_digest_17 rfl ?_
      refine r_iload_n dX8_digest_18 rfl ?_
      refine i_cvP (c_count M σ c hw w (by omega)) lmX8_292 dX8_digest_19 (Nat.le_of_ble_eq_true rfl) rfl ⟨_, _, rfl⟩ (by decide) (by decide) rfl rfl (Nat.le_of_ble_eq_true rfl) ?_
      refine r_i2l dX8_digest_22 ?_
      refine r_ladd dX8_digest_23 ?_
      refine r_lstore_n dX8_digest_24 (Nat.le_of_ble_eq_true rfl) ?_
      refine i_iinc dX8_digest_25 rfl (Nat.le_of_ble_eq_true rfl) ?_
      refine r_goto 6 dX8_digest_28 rfl ?_
      exact ih (w + 1) (dI h (q_count M w)) _ (by omega) (by omega) x hx2 hq

set_option maxRecDepth 20000 in
theorem c_digest (M σ : rl_S) (c : IC M σ) (hw : WF M)  : Ct cW mX8_digest [.ref 0] σ (qL (fun z σ' => z = q_digest M ∧ IC M σ')) := by
  refine Ct.of plX8 (Nat.le_of_ble_eq_true rfl) ?_
  refine r_ldc2 dX8_digest_0 lcX8_288 ?_
  refine r_lstore_n dX8_digest_3 (Nat.le_of_ble_eq_true rfl) ?_
  refine i_const dX8_digest_4 ?_
  refine r_istore_n dX8_digest_5 (Nat.le_of_ble_eq_true rfl) ?_
  exact c_dig_1 M σ c hw 8 0 17 _ (by omega) (by omega) _ rfl rfl
