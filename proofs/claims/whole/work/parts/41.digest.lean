theorem m_tD (M σ : rl_S) (c : IM M σ) (hw : WF M) (h : Int64) (t : Int) (t0 : 0 ≤ t) (t1 : t < 400) : Ct mW mX9_tenthDigest [.ref 0, .long h, .int (iI t)] σ (qL (fun z σ' => z = tD M h t ∧ IM M σ')) := by
  refine Ct.of plX9 (Nat.le_of_ble_eq_true rfl) ?_
  refine r_lload_n dX9_tenthDigest_0 rfl ?_
  refine r_lstore dX9_tenthDigest_1 (Nat.le_of_ble_eq_true rfl) ?_
  change Rn _ _ 3 [.ref 0, .long h, .float 0, .int (iI t), .long _, .float 0] _ _ _
  refine r_ldc2 dX9_tenthDigest_3 lcX9_245 ?_
  refine r_lload dX9_tenthDigest_6 rfl ?_
  refine r_lmul dX9_tenthDigest_8 ?_
  refine r_aload_n dX9_tenthDigest_9 rfl ?_
  refine r_iload_n dX9_tenthDigest_10 rfl ?_
  refine i_cvI (m_highOfTenth M σ c hw t t0 t1) lmX9_114 dX9_tenthDigest_11 (Nat.le_of_ble_eq_true rfl) rfl ⟨_, _, rfl⟩ (by decide) (by decide) rfl rfl (Nat.le_of_ble_eq_true rfl) (fun z1 σ1 h1 => ?_)
  have c1 := h1.2.1
  have y1 : z1 = q_high M t := by rw [h1.1]; exact (if_pos (by omega)).symm
  subst y1
  refine r_i2l dX9_tenthDigest_14 ?_
  refine r_ladd dX9_tenthDigest_15 ?_
  refine r_lstore dX9_tenthDigest_16 (Nat.le_of_ble_eq_true rfl) ?_
  change Rn _ _ 18 [.ref 0, .long h, .float 0, .int (iI t), .long _, .float 0] _ _ _
  refine r_ldc2 dX9_tenthDigest_18 lcX9_245 ?_
  refine r_lload dX9_tenthDigest_21 rfl ?_
  refine r_lmul dX9_tenthDigest_23 ?_
  refine r_aload_n dX9_tenthDigest_24 rfl ?_
  refine r_iload_n dX9_tenthDigest_25 rfl ?_
  refine i_cvI (m_doesOf M σ1 c1 hw t t0 t1) lmX9_123 dX9_tenthDigest_26 (Nat.le_of_ble_eq_true rfl) rfl ⟨_, _, rfl⟩ (by decide) (by decide) rfl rfl (Nat.le_of_ble_eq_true rfl) (fun z2 σ2 h2 => ?_)
  have c2 := h2.2.1.1
  have y2 : z2 = q_does M t := by rw [h2.1]; exact (if_pos (by omega)).symm
  subst y2
  refine r_i2l dX9_tenthDigest_29 ?_
  refine r_ladd dX9_tenthDigest_30 ?_
  refine r_lstore dX9_tenthDigest_31 (Nat.le_of_ble_eq_true rfl) ?_
  change Rn _ _ 33 [.ref 0, .long h, .float 0, .int (iI t), .long _, .float 0] _ _ _
  refine r_ldc2 dX9_tenthDigest_33 lcX9_245 ?_
  refine r_lload dX9_tenthDigest_36 rfl ?_
  refine r_lmul dX9_tenthDigest_38 ?_
  refine r_aload_n dX9_tenthDigest_39 rfl ?_
  refine r_iload_n dX9_tenthDigest_40 rfl ?_
  refine i_cvI (m_leansOf M σ2 c2 hw t t0 t1) lmX9_129 dX9_tenthDigest_41 (Nat.le_of_ble_eq_true rfl) rfl ⟨_, _, rfl⟩ (by decide) (by decide) rfl rfl (Nat.le_of_ble_eq_true rfl) (fun z3 σ3 h3 => ?_)
  have c3 := h3.2.1
  have y3 : z3 = q_leans M t := by rw [h3.1]; exact (if_pos (by omega)).symm
  subst y3
  refine r_i2l dX9_tenthDigest_44 ?_
  refine r_ladd dX9_tenthDigest_45 ?_
  refine r_lstore dX9_tenthDigest_46 (Nat.le_of_ble_eq_true rfl) ?_
  change Rn _ _ 48 [.ref 0, .long h, .float 0, .int (iI t), .long _, .float 0] _ _ _
  refine r_ldc2 dX9_tenthDigest_48 lcX9_245 ?_
  refine r_lload dX9_tenthDigest_51 rfl ?_
  refine r_lmul dX9_tenthDigest_53 ?_
  refine r_aload_n dX9_tenthDigest_54 rfl ?_
  refine r_iload_n dX9_tenthDigest_55 rfl ?_
  refine i_const dX9_tenthDigest_56 ?_
  refine i_cvI (m_crestOf M σ3 c3 hw t t0 t1 2 (by decide)) lmX9_135 dX9_tenthDigest_57 (Nat.le_of_ble_eq_true rfl) rfl ⟨_, _, rfl⟩ (by decide) (by decide) rfl rfl (Nat.le_of_ble_eq_true rfl) (fun z4 σ4 h4 => ?_)
  have c4 := h4.2.1.1
  have y4 : z4 = q_crest M t 2 := by rw [h4.1]; exact (if_pos (by omega)).symm
  subst y4
  refine r_i2l dX9_tenthDigest_60 ?_
  refine r_ladd dX9_tenthDigest_61 ?_
  refine r_lstore dX9_tenthDigest_62 (Nat.le_of_ble_eq_true rfl) ?_
  change Rn _ _ 64 [.ref 0, .long h, .float 0, .int (iI t), .long _, .float 0] _ _ _
  refine r_ldc2 dX9_tenthDigest_64 lcX9_245 ?_
  refine r_lload dX9_tenthDigest_67 rfl ?_
  refine r_lmul dX9_tenthDigest_69 ?_
  refine r_aload_n dX9_tenthDigest_70 rfl ?_
  refine r_iload_n dX9_tenthDigest_71 rfl ?_
  refine i_cvI (m_seventhOf M σ4 c4 hw t t0 t1) lmX9_138 dX9_tenthDigest_72 (Nat.le_of_ble_eq_true rfl) rfl ⟨_, _, rfl⟩ (by decide) (by decide) rfl rfl (Nat.le_of_ble_eq_true rfl) (fun z5 σ5 h5 => ?_)
  have c5 := h5.2.1.1
  have y5 : z5 = q_seventh M t := by rw [h5.1]; exact (if_pos (by omega)).symm
  subst y5
  refine r_i2l dX9_tenthDigest_75 ?_
  refine r_ladd dX9_tenthDigest_76 ?_
  refine r_lstore dX9_tenthDigest_77 (Nat.le_of_ble_eq_true rfl) ?_
  change Rn _ _ 79 [.ref 0, .long h, .float 0, .int (iI t), .long _, .float 0] _ _ _
  refine r_ldc2 dX9_tenthDigest_79 lcX9_245 ?_
  refine r_lload dX9_tenthDigest_82 rfl ?_
  refine r_lmul dX9_tenthDigest_84 ?_
  refine r_aload_n dX9_tenthDigest_85 rfl ?_
  refine r_iload_n dX9_tenthDigest_86 rfl ?_
  refine i_bipush dX9_tenthDigest_87 (by decide) ?_
  refine i_const dX9_tenthDigest_89 ?_
  refine i_cvI (m_lullOf M σ5 c5 hw t t0 t1 20 0 (by decide) (by decide)) lmX9_144 dX9_tenthDigest_90 (Nat.le_of_ble_eq_true rfl) rfl ⟨_, _, rfl⟩ (by decide) (by decide) rfl rfl (Nat.le_of_ble_eq_true rfl) (fun z6 σ6 h6 => ?_)
  have c6 := h6.2.1.1
  have y6 : z6 = q_lull M t 20 0 := by rw [h6.1]; exact (if_pos (by omega)).symm
  subst y6
  refine r_i2l dX9_tenthDigest_93 ?_
  refine r_ladd dX9_tenthDigest_94 ?_
  refine r_lstore dX9_tenthDigest_95 (Nat.le_of_ble_eq_true rfl) ?_
  change Rn _ _ 97 [.ref 0, .long h, .float 0, .int (iI t), .long _, .float 0] _ _ _
  refine r_ldc2 dX9_tenthDigest_97 lcX9_245 ?_
  refine r_lload dX9_tenthDigest_100 rfl ?_
  refine r_lmul dX9_tenthDigest_102 ?_
  refine r_aload_n dX9_tenthDigest_103 rfl ?_
  refine r_iload_n dX9_tenthDigest_104 rfl ?_
  refine i_bipush dX9_tenthDigest_105 (by decide) ?_
  refine i_const dX9_tenthDigest_107 ?_
  refine i_cvI (m_lullOf M σ6 c6 hw t t0 t1 20 1 (by decide) (by decide)) lmX9_144 dX9_tenthDigest_108 (Nat.le_of_ble_eq_true rfl) rfl ⟨_, _, rfl⟩ (by decide) (by decide) rfl rfl (Nat.le_of_ble_eq_true rfl) (fun z7 σ7 h7 => ?_)
  have c7 := h7.2.1.1
  have y7 : z7 = q_lull M t 20 1 := by rw [h7.1]; exact (if_pos (by omega)).symm
  subst y7
  refine r_i2l dX9_tenthDigest_111 ?_
  refine r_ladd dX9_tenthDigest_112 ?_
  refine r_lstore dX9_tenthDigest_113 (Nat.le_of_ble_eq_true rfl) ?_
  change Rn _ _ 115 [.ref 0, .long h, .float 0, .int (iI t), .long _, .float 0] _ _ _
  refine r_ldc2 dX9_tenthDigest_115 lcX9_245 ?_
  refine r_lload dX9_tenthDigest_118 rfl ?_
  refine r_lmul dX9_tenthDigest_120 ?_
  refine r_aload_n dX9_tenthDigest_121 rfl ?_
  refine r_iload_n dX9_tenthDigest_122 rfl ?_
  refine i_cvI (m_stepOf M σ7 c7 hw t t0 t1) lmX9_151 dX9_tenthDigest_123 (Nat.le_of_ble_eq_true rfl) rfl ⟨_, _, rfl⟩ (by decide) (by decide) rfl rfl (Nat.le_of_ble_eq_true rfl) (fun z8 σ8 h8 => ?_)
  have c8 := h8.2.1.1
  have y8 : z8 = q_step M t := by rw [h8.1]; exact (if_pos (by omega)).symm
  subst y8
  refine r_i2l dX9_tenthDigest_126 ?_
  refine r_ladd dX9_tenthDigest_127 ?_
  refine r_lstore dX9_tenthDigest_128 (Nat.le_of_ble_eq_true rfl) ?_
  change Rn _ _ 130 [.ref 0, .long h, .float 0, .int (iI t), .long _, .float 0] _ _ _
  refine r_ldc2 dX9_tenthDigest_130 lcX9_245 ?_
  refine r_lload dX9_tenthDigest_133 rfl ?_
  refine r_lmul dX9_tenthDigest_135 ?_
  refine r_aload_n dX9_tenthDigest_136 rfl ?_
  refine r_iload_n dX9_tenthDigest_137 rfl ?_
  refine i_cvI (m_fallOf M σ8 c8 hw t t0 t1) lmX9_157 dX9_tenthDigest_138 (Nat.le_of_ble_eq_true rfl) rfl ⟨_, _, rfl⟩ (by decide) (by decide) rfl rfl (Nat.le_of_ble_eq_true rfl) (fun z9 σ9 h9 => ?_)
  have c9 := h9.2.1.1
  have y9 : z9 = q_fall M t := by rw [h9.1]; exact (if_pos (by omega)).symm
  subst y9
  refine r_i2l dX9_tenthDigest_141 ?_
  refine r_ladd dX9_tenthDigest_142 ?_
  refine r_lstore dX9_tenthDigest_143 (Nat.le_of_ble_eq_true rfl) ?_
  change Rn _ _ 145 [.ref 0, .long h, .float 0, .int (iI t), .long _, .float 0] _ _ _
  refine r_ldc2 dX9_tenthDigest_145 lcX9_245 ?_
  refine r_lload dX9_tenthDigest_148 rfl ?_
  refine r_lmul dX9_tenthDigest_150 ?_
  refine r_aload_n dX9_tenthDigest_151 rfl ?_
  refine r_iload_n dX9_tenthDigest_152 rfl ?_
  refine i_cvI (m_climbOf M σ9 c9 hw t t0 t1) lmX9_166 dX9_tenthDigest_153 (Nat.le_of_ble_eq_true rfl) rfl ⟨_, _, rfl⟩ (by decide) (by decide) rfl rfl (Nat.le_of_ble_eq_true rfl) (fun z10 σ10 h10 => ?_)
  have c10 := h10.2.2.1.1
  have y10 : z10 = q_climb M t := by rw [h10.1]; exact (if_pos (by omega)).symm
  subst y10
  refine r_i2l dX9_tenthDigest_156 ?_
  refine r_ladd dX9_tenthDigest_157 ?_
  refine r_lstore dX9_tenthDigest_158 (Nat.le_of_ble_eq_true rfl) ?_
  change Rn _ _ 160 [.ref 0, .long h, .float 0, .int (iI t), .long _, .float 0] _ _ _
  refine r_ldc2 dX9_tenthDigest_160 lcX9_245 ?_
  refine r_lload dX9_tenthDigest_163 rfl ?_
  refine r_lmul dX9_tenthDigest_165 ?_
  refine r_aload_n dX9_tenthDigest_166 rfl ?_
  refine r_iload_n dX9_tenthDigest_167 rfl ?_
  refine i_cvI (m_bangsOf M σ10 c10 hw t t0 t1) lmX9_169 dX9_tenthDigest_168 (Nat.le_of_ble_eq_true rfl) rfl ⟨_, _, rfl⟩ (by decide) (by decide) rfl rfl (Nat.le_of_ble_eq_true rfl) (fun z11 σ11 h11 => ?_)
  have c11 := h11.2.1.1
  have y11 : z11 = q_bangs M t := by rw [h11.1]; exact (if_pos (by omega)).symm
  subst y11
  refine r_i2l dX9_tenthDigest_171 ?_
  refine r_ladd dX9_tenthDigest_172 ?_
  refine r_lstore dX9_tenthDigest_173 (Nat.le_of_ble_eq_true rfl) ?_
  change Rn _ _ 175 [.ref 0, .long h, .float 0, .int (iI t), .long _, .float 0] _ _ _
  refine r_ldc2 dX9_tenthDigest_175 lcX9_245 ?_
  refine r_lload dX9_tenthDigest_178 rfl ?_
  refine r_lmul dX9_tenthDigest_180 ?_
  refine r_aload_n dX9_tenthDigest_181 rfl ?_
  refine r_iload_n dX9_tenthDigest_182 rfl ?_
  refine i_const dX9_tenthDigest_183 ?_
  refine i_cvL (m_safeOf M σ11 c11 hw t t0 t1 0 (by decide)) lmX9_184 dX9_tenthDigest_184 (Nat.le_of_ble_eq_true rfl) rfl ⟨_, _, rfl⟩ (by decide) (by decide) rfl rfl (Nat.le_of_ble_eq_true rfl) (fun z12 σ12 h12 => ?_)
  have c12 := h12.2.1.1
  have y12 : z12 = q_safe M t 0 := by rw [h12.1]; exact (if_pos (by omega)).symm
  subst y12
  refine r_ladd dX9_tenthDigest_187 ?_
  refine r_lstore dX9_tenthDigest_188 (Nat.le_of_ble_eq_true rfl) ?_
  change Rn _ _ 190 [.ref 0, .long h, .float 0, .int (iI t), .long _, .float 0] _ _ _
  refine r_ldc2 dX9_tenthDigest_190 lcX9_245 ?_
  refine r_lload dX9_tenthDigest_193 rfl ?_
  refine r_lmul dX9_tenthDigest_195 ?_
  refine r_aload_n dX9_tenthDigest_196 rfl ?_
  refine r_iload_n dX9_tenthDigest_197 rfl ?_
  refine i_const dX9_tenthDigest_198 ?_
  refine i_cvL (m_safeOf M σ12 c12 hw t t0 t1 1 (by decide)) lmX9_184 dX9_tenthDigest_199 (Nat.le_of_ble_eq_true rfl) rfl ⟨_, _, rfl⟩ (by decide) (by decide) rfl rfl (Nat.le_of_ble_eq_true rfl) (fun z13 σ13 h13 => ?_)
  have c13 := h13.2.1.1
  have y13 : z13 = q_safe M t 1 := by rw [h13.1]; exact (if_pos (by omega)).symm
  subst y13
  refine r_ladd dX9_tenthDigest_202 ?_
  refine r_lstore dX9_tenthDigest_203 (Nat.le_of_ble_eq_true rfl) ?_
  change Rn _ _ 205 [.ref 0, .long h, .float 0, .int (iI t), .long _, .float 0] _ _ _
  refine r_ldc2 dX9_tenthDigest_205 lcX9_245 ?_
  refine r_lload dX9_tenthDigest_208 rfl ?_
  refine r_lmul dX9_tenthDigest_210 ?_
  refine r_aload_n dX9_tenthDigest_211 rfl ?_
  refine r_iload_n dX9_tenthDigest_212 rfl ?_
  refine i_bipush dX9_tenthDigest_213 (by decide) ?_
  refine i_cvI (m_bestOf M σ13 c13 hw t t0 t1 30 (by decide)) lmX9_190 dX9_tenthDigest_215 (Nat.le_of_ble_eq_true rfl) rfl ⟨_, _, rfl⟩ (by decide) (by decide) rfl rfl (Nat.le_of_ble_eq_true rfl) (fun z14 σ14 h14 => ?_)
  have c14 := h14.2.1.1
  have y14 : z14 = q_best M t 30 := by rw [h14.1]; exact (if_pos (by omega)).symm
  subst y14
  refine r_i2l dX9_tenthDigest_218 ?_
  refine r_ladd dX9_tenthDigest_219 ?_
  refine r_lstore dX9_tenthDigest_220 (Nat.le_of_ble_eq_true rfl) ?_
  change Rn _ _ 222 [.ref 0, .long h, .float 0, .int (iI t), .long _, .float 0] _ _ _
  refine r_ldc2 dX9_tenthDigest_222 lcX9_245 ?_
  refine r_lload dX9_tenthDigest_225 rfl ?_
  refine r_lmul dX9_tenthDigest_227 ?_
  refine r_aload_n dX9_tenthDigest_228 rfl ?_
  refine r_iload_n dX9_tenthDigest_229 rfl ?_
  refine i_bipush dX9_tenthDigest_230 (by decide) ?_
  refine i_cvI (m_callOf M σ14 c14 hw t t0 t1 30 (by decide)) lmX9_193 dX9_tenthDigest_232 (Nat.le_of_ble_eq_true rfl) rfl ⟨_, _, rfl⟩ (by decide) (by decide) rfl rfl (Nat.le_of_ble_eq_true rfl) (fun z15 σ15 h15 => ?_)
  have c15 := h15.2.1.1
  have y15 : z15 = q_call M t 30 := by rw [h15.1]; exact (if_pos (by omega)).symm
  subst y15
  refine r_i2l dX9_tenthDigest_235 ?_
  refine r_ladd dX9_tenthDigest_236 ?_
  refine r_lstore dX9_tenthDigest_237 (Nat.le_of_ble_eq_true rfl) ?_
  change Rn _ _ 239 [.ref 0, .long h, .float 0, .int (iI t), .long _, .float 0] _ _ _
  refine r_ldc2 dX9_tenthDigest_239 lcX9_245 ?_
  refine r_lload dX9_tenthDigest_242 rfl ?_
  refine r_lmul dX9_tenthDigest_244 ?_
  refine r_aload_n dX9_tenthDigest_245 rfl ?_
  refine r_iload_n dX9_tenthDigest_246 rfl ?_
  refine i_bipush dX9_tenthDigest_247 (by decide) ?_
  refine i_const dX9_tenthDigest_249 ?_
  refine i_cvI (m_downOf M σ15 c15 hw t t0 t1 30 0 (by decide) (by decide)) lmX9_196 dX9_tenthDigest_250 (Nat.le_of_ble_eq_true rfl) rfl ⟨_, _, rfl⟩ (by decide) (by decide) rfl rfl (Nat.le_of_ble_eq_true rfl) (fun z16 σ16 h16 => ?_)
  have c16 := h16.2.1.1
  have y16 : z16 = q_down M t 30 0 := by rw [h16.1]; exact (if_pos (by omega)).symm
  subst y16
  refine r_i2l dX9_tenthDigest_253 ?_
  refine r_ladd dX9_tenthDigest_254 ?_
  refine r_lstore dX9_tenthDigest_255 (Nat.le_of_ble_eq_true rfl) ?_
  change Rn _ _ 257 [.ref 0, .long h, .float 0, .int (iI t), .long _, .float 0] _ _ _
  refine r_ldc2 dX9_tenthDigest_257 lcX9_245 ?_
  refine r_lload dX9_tenthDigest_260 rfl ?_
  refine r_lmul dX9_tenthDigest_262 ?_
  refine r_aload_n dX9_tenthDigest_263 rfl ?_
  refine r_iload_n dX9_tenthDigest_264 rfl ?_
  refine i_bipush dX9_tenthDigest_265 (by decide) ?_
  refine i_const dX9_tenthDigest_267 ?_
  refine i_cvI (m_downOf M σ16 c16 hw t t0 t1 30 1 (by decide) (by decide)) lmX9_196 dX9_tenthDigest_268 (Nat.le_of_ble_eq_true rfl) rfl ⟨_, _, rfl⟩ (by decide) (by decide) rfl rfl (Nat.le_of_ble_eq_true rfl) (fun z17 σ17 h17 => ?_)
  have c17 := h17.2.1.1
  have y17 : z17 = q_down M t 30 1 := by rw [h17.1]; exact (if_pos (by omega)).symm
  subst y17
  refine r_i2l dX9_tenthDigest_271 ?_
  refine r_ladd dX9_tenthDigest_272 ?_
  refine r_lstore dX9_tenthDigest_273 (Nat.le_of_ble_eq_true rfl) ?_
  change Rn _ _ 275 [.ref 0, .long h, .float 0, .int (iI t), .long _, .float 0] _ _ _
  refine r_ldc2 dX9_tenthDigest_275 lcX9_245 ?_
  refine r_lload dX9_tenthDigest_278 rfl ?_
  refine r_lmul dX9_tenthDigest_280 ?_
  refine r_aload_n dX9_tenthDigest_281 rfl ?_
  refine r_iload_n dX9_tenthDigest_282 rfl ?_
  refine i_bipush dX9_tenthDigest_283 (by decide) ?_
  refine i_cvI (m_ladderOf M σ17 c17 hw t t0 t1 30 (by decide)) lmX9_203 dX9_tenthDigest_285 (Nat.le_of_ble_eq_true rfl) rfl ⟨_, _, rfl⟩ (by decide) (by decide) rfl rfl (Nat.le_of_ble_eq_true rfl) (fun z18 σ18 h18 => ?_)
  have c18 := h18.2.1.1
  have y18 : z18 = q_ladder M t 30 := by rw [h18.1]; exact (if_pos (by omega)).symm
  subst y18
  refine r_i2l dX9_tenthDigest_288 ?_
  refine r_ladd dX9_tenthDigest_289 ?_
  refine r_lret rfl dX9_tenthDigest_290 ?_
  exact ⟨_, rfl, rfl, c18⟩

theorem m_dig_4 (M σ : rl_S) (c : IM M σ) (hw : WF M) (h : Int64) (l3 : Value) (hq : dI (dI (dT M 5 0 h) (q_saves M)) (q_night M 7 5) = q_digest M) : Rn mW mX9_digest 155 [.ref 0, .long h, .float 0, l3] [] σ (qL (fun z σ' => z = q_digest M ∧ IM M σ')) := by
  refine r_aload_n dX9_digest_155 rfl ?_
  refine r_lload_n dX9_digest_156 rfl ?_
  refine i_const dX9_digest_157 ?_
  refine i_cvL (m_tD M σ c hw _ 0 (by decide) (by decide)) lmX9_252 dX9_digest_158 (Nat.le_of_ble_eq_true rfl) rfl ⟨_, _, rfl⟩ (by decide) (by decide) rfl rfl (Nat.le_of_ble_eq_true rfl) (fun z1 σ1 h1 => ?_)
  obtain ⟨rfl, c1⟩ := h1
  refine r_lstore_n dX9_digest_161 (Nat.le_of_ble_eq_true rfl) ?_
  change Rn _ _ 162 [.ref 0, .long _, .float 0, l3] _ _ _
  refine r_aload_n dX9_digest_162 rfl ?_
  refine r_lload_n dX9_digest_163 rfl ?_
  refine i_const dX9_digest_164 ?_
  refine i_cvL (m_tD M σ1 c1 hw _ 1 (by decide) (by decide)) lmX9_252 dX9_digest_165 (Nat.le_of_ble_eq_true rfl) rfl ⟨_, _, rfl⟩ (by decide) (by decide) rfl rfl (Nat.le_of_ble_eq_true rfl) (fun z2 σ2 h2 => ?_)
  obtain ⟨rfl, c2⟩ := h2
  refine r_lstore_n dX9_digest_168 (Nat.le_of_ble_eq_true rfl) ?_
  change Rn _ _ 169 [.ref 0, .long _, .float 0, l3] _ _ _
  refine r_aload_n dX9_digest_169 rfl ?_
  refine r_lload_n dX9_digest_170 rfl ?_
  refine i_bipush dX9_digest_171 (by decide) ?_
  refine i_cvL (m_tD M σ2 c2 hw _ 37 (by decide) (by decide)) lmX9_252 dX9_digest_173 (Nat.le_of_ble_eq_true rfl) rfl ⟨_, _, rfl⟩ (by decide) (by decide) rfl rfl (Nat.le_of_ble_eq_true rfl) (fun z3 σ3 h3 => ?_)
  obtain ⟨rfl, c3⟩ := h3
  refine r_lstore_n dX9_digest_176 (Nat.le_of_ble_eq_true rfl) ?_
  change Rn _ _ 177 [.ref 0, .long _, .float 0, l3] _ _ _
  refine r_aload_n dX9_digest_177 rfl ?_
  refine r_lload_n dX9_digest_178 rfl ?_
  refine i_sipush dX9_digest_179 (by decide) ?_
  refine i_cvL (m_tD M σ3 c3 hw _ 200 (by decide) (by decide)) lmX9_252 dX9_digest_182 (Nat.le_of_ble_eq_true rfl) rfl ⟨_, _, rfl⟩ (by decide) (by decide) rfl rfl (Nat.le_of_ble_eq_true rfl) (fun z4 σ4 h4 => ?_)
  obtain ⟨rfl, c4⟩ := h4
  refine r_lstore_n dX9_digest_185 (Nat.le_of_ble_eq_true rfl) ?_
  change Rn _ _ 186 [.ref 0, .long _, .float 0, l3] _ _ _
  refine r_aload_n dX9_digest_186 rfl ?_
  refine r_lload_n dX9_digest_187 rfl ?_
  refine i_sipush dX9_digest_188 (by decide) ?_
  refine i_cvL (m_tD M σ4 c4 hw _ 399 (by decide) (by decide)) lmX9_252 dX9_digest_191 (Nat.le_of_ble_eq_true rfl) rfl ⟨_, _, rfl⟩ (by decide) (by decide) rfl rfl (Nat.le_of_ble_eq_true rfl) (fun z5 σ5 h5 => ?_)
  obtain ⟨rfl, c5⟩ := h5
  refine r_lstore_n dX9_digest_194 (Nat.le_of_ble_eq_true rfl) ?_
  change Rn _ _ 195 [.ref 0, .long _, .float 0, l3] _ _ _
  refine r_ldc2 dX9_digest_195 lcX9_245 ?_
  refine r_lload_n dX9_digest_198 rfl ?_
  refine r_lmul dX9_digest_199 ?_
  refine r_aload_n dX9_digest_200 rfl ?_
  refine i_cvI (m_savesNow M σ5 c5 hw) lmX9_199 dX9_digest_201 (Nat.le_of_ble_eq_true rfl) rfl ⟨_, _, rfl⟩ (by decide) (by decide) rfl rfl (Nat.le_of_ble_eq_true rfl) (fun z6 σ6 h6 => ?_)
  obtain ⟨rfl, c6⟩ := h6
  refine r_i2l dX9_digest_204 ?_
  refine r_ladd dX9_digest_205 ?_
  refine r_lstore_n dX9_digest_206 (Nat.le_of_ble_eq_true rfl) ?_
  change Rn _ _ 207 [.ref 0, .long _, .float 0, l3] _ _ _
  refine r_ldc2 dX9_digest_207 lcX9_245 ?_
  refine r_lload_n dX9_digest_210 rfl ?_
  refine r_lmul dX9_digest_211 ?_
  refine r_aload_n dX9_digest_212 rfl ?_
  refine i_bipush dX9_digest_213 (by decide) ?_
  refine i_const dX9_digest_215 ?_
  refine i_cvI (m_nightOf M σ6 c6.1.1 hw 7 5 (by decide)) lmX9_228 dX9_digest_216 (Nat.le_of_ble_eq_true rfl) rfl ⟨_, _, rfl⟩ (by decide) (by decide) rfl rfl (Nat.le_of_ble_eq_true rfl) (fun z7 σ7 h7 => ?_)
  obtain ⟨rfl, c7⟩ := h7
  refine r_i2l dX9_digest_219 ?_
  refine r_ladd dX9_digest_220 ?_
  refine r_lret rfl dX9_digest_221 ?_
  exact ⟨_, rfl, hq, c7.1.1⟩

theorem m_dig_3 (M σ : rl_S) (c : IM M σ) (hw : WF M) (h : Int64) (l3 : Value) (hq : dI (dI (dT M 5 0 (dI (dI h (q_roll M 0)) (q_roll M 1))) (q_saves M)) (q_night M 7 5) = q_digest M) : Rn mW mX9_digest 129 [.ref 0, .long h, .float 0, l3] [] σ (qL (fun z σ' => z = q_digest M ∧ IM M σ')) := by
  refine r_ldc2 dX9_digest_129 lcX9_245 ?_
  refine r_lload_n dX9_digest_132 rfl ?_
  refine r_lmul dX9_digest_133 ?_
  refine r_aload_n dX9_digest_134 rfl ?_
  refine i_const dX9_digest_135 ?_
  refine i_cvI (m_rollOf M σ c hw 0 (by decide)) lmX9_87 dX9_digest_136 (Nat.le_of_ble_eq_true rfl) rfl ⟨_, _, rfl⟩ (by decide) (by decide) rfl rfl (Nat.le_of_ble_eq_true rfl) (fun z1 σ1 h1 => ?_)
  obtain ⟨rfl, h1⟩ := h1
  have c1 := h1.1
  refine r_i2l dX9_digest_139 ?_
  refine r_ladd dX9_digest_140 ?_
  refine r_lstore_n dX9_digest_141 (Nat.le_of_ble_eq_true rfl) ?_
  change Rn _ _ 142 [.ref 0, .long _, .float 0, l3] _ _ _
  refine r_ldc2 dX9_digest_142 lcX9_245 ?_
  refine r_lload_n dX9_digest_145 rfl ?_
  refine r_lmul dX9_digest_146 ?_
  refine r_aload_n dX9_digest_147 rfl ?_
  refine i_const dX9_digest_148 ?_
  refine i_cvI (m_rollOf M σ1 c1 hw 1 (by decide)) lmX9_87 dX9_digest_149 (Nat.le_of_ble_eq_true rfl) rfl ⟨_, _, rfl⟩ (by decide) (by decide) rfl rfl (Nat.le_of_ble_eq_true rfl) (fun z2 σ2 h2 => ?_)
  obtain ⟨rfl, h2⟩ := h2
  have c2 := h2.1
  refine r_i2l dX9_digest_152 ?_
  refine r_ladd dX9_digest_153 ?_
  refine r_lstore_n dX9_digest_154 (Nat.le_of_ble_eq_true rfl) ?_
  change Rn _ _ 155 [.ref 0, .long _, .float 0, l3] _ _ _
  exact m_dig_4 M σ2 c2 hw _ _ hq

theorem m_dig_2 (M : rl_S) (hw : WF M) : ∀ (n : Nat) (s : Int) (h : Int64) (σ : rl_S), IR M σ → s + n = nS M → 0 ≤ s → ∀ x, x = dS M n s h → dI (dI (dT M 5 0 (dI (dI x (q_roll M 0)) (q_roll M 1))) (q_saves M)) (q_night M 7 5) = q_digest M → Rn mW mX9_digest 59 [.ref 0, .long h, .float 0, .int (iI s)] [] σ (qL (fun z σ' => z = q_digest M ∧ IM M σ')) := by
  have nb := wf_nS hw
  intro n
  induction n with
  | zero =>
    intro s h σ c hs s0 x hx hq
    rw [hx] at hq
    refine r_iload_n dX9_digest_59 rfl ?_
    refine r_aload_n dX9_digest_60 rfl ?_
    refine r_get (k := 0) lfX9_63 dX9_digest_61 (Nat.le_of_ble_eq_true rfl) rfl rfl ?_
    rw [c.2.1]
    refine i_icmp_ge 129 dX9_digest_64 rfl ⟨by omega, by omega⟩ ⟨by omega, by omega⟩ (fun q64 => ?_) (fun q64 => ?_)
    · skip
      exact m_dig_3 M σ c.1 hw h _ hq
    · exfalso
      omega
  | succ n ih =>
    intro s h σ c hs s0 x hx hq
    have hx2 : x = dS M n (s + 1) (dI (dI (dI (dI h (hS M s)) (lS M s)) (q_learn M s (-1))) (q_learn M s 0)) := hx
    refine r_iload_n dX9_digest_59 rfl ?_
    refine r_aload_n dX9_digest_60 rfl ?_
    refine r_get (k := 0) lfX9_63 dX9_digest_61 (Nat.le_of_ble_eq_true rfl) rfl rfl ?_
    rw [c.2.1]
    refine i_icmp_ge 129 dX9_digest_64 rfl ⟨by omega, by omega⟩ ⟨by omega, by omega⟩ (fun q64 => ?_) (fun q64 => ?_)
    · exfalso
      omega
    · skip
      refine r_ldc2 dX9_digest_67 lcX9_245 ?_
      refine r_lload_n dX9_digest_70 rfl ?_
      refine r_lmul dX9_digest_71 ?_
      refine r_aload_n dX9_digest_72 rfl ?_
      refine r_get (k := 0) lfX9_16 dX9_digest_73 (Nat.le_of_ble_eq_true rfl) rfl rfl ?_
      refine r_iload_n dX9_digest_76 rfl ?_
      refine i_ald (k := 3) dX9_digest_77 (Nat.le_of_ble_eq_true rfl) rfl rfl ⟨by omega, by omega⟩ (by decide) ?_
      rw [(c.2.2.2.1 s s0 (by omega)).1]
      refine r_i2l dX9_digest_78 ?_
      refine r_ladd dX9_digest_79 ?_
      refine r_lstore_n dX9_digest_80 (Nat.le_of_ble_eq_true rfl) ?_
      change Rn _ _ 81 [.ref 0, .long _, .float 0, .int (iI s)] _ _ _
      refine r_ldc2 dX9_digest_81 lcX9_245 ?_
      refine r_lload_n dX9_digest_84 rfl ?_
      refine r_lmul dX9_digest_85 ?_
      refine r_aload_n dX9_digest_86 rfl ?_
      refine r_get (k := 0) lfX9_19 dX9_digest_87 (Nat.le_of_ble_eq_true rfl) rfl rfl ?_
      refine r_iload_n dX9_digest_90 rfl ?_
      refine i_ald (k := 4) dX9_digest_91 (Nat.le_of_ble_eq_true rfl) rfl rfl ⟨by omega, by omega⟩ (by decide) ?_
      rw [(c.2.2.2.1 s s0 (by omega)).2]
      refine r_i2l dX9_digest_92 ?_
      refine r_ladd dX9_digest_93 ?_
      refine r_lstore_n dX9_digest_94 (Nat.le_of_ble_eq_true rfl) ?_
      change Rn _ _ 95 [.ref 0, .long _, .float 0, .int (iI s)] _ _ _
      refine r_ldc2 dX9_digest_95 lcX9_245 ?_
      refine r_lload_n dX9_digest_98 rfl ?_
      refine r_lmul dX9_digest_99 ?_
      refine r_aload_n dX9_digest_100 rfl ?_
      refine r_iload_n dX9_digest_101 rfl ?_
      refine i_const dX9_digest_102 ?_
      refine i_cvI (m_learnOf M σ c.1 hw s (-1) s0 (by omega) (by decide)) lmX9_218 dX9_digest_103 (Nat.le_of_ble_eq_true rfl) rfl ⟨_, _, rfl⟩ (by decide) (by decide) rfl rfl (Nat.le_of_ble_eq_true rfl) (fun z1 σ1 h1 => ?_)
      obtain ⟨rfl, c1⟩ := h1
      refine r_i2l dX9_digest_106 ?_
      refine r_ladd dX9_digest_107 ?_
      refine r_lstore_n dX9_digest_108 (Nat.le_of_ble_eq_true rfl) ?_
      change Rn _ _ 109 [.ref 0, .long _, .float 0, .int (iI s)] _ _ _
      refine r_ldc2 dX9_digest_109 lcX9_245 ?_
      refine r_lload_n dX9_digest_112 rfl ?_
      refine r_lmul dX9_digest_113 ?_
      refine r_aload_n dX9_digest_114 rfl ?_
      refine r_iload_n dX9_digest_115 rfl ?_
      refine i_const dX9_digest_116 ?_
      refine i_cvI (m_learnOf M σ1 c1.1 hw s 0 s0 (by omega) (by decide)) lmX9_218 dX9_digest_117 (Nat.le_of_ble_eq_true rfl) rfl ⟨_, _, rfl⟩ (by decide) (by decide) rfl rfl (Nat.le_of_ble_eq_true rfl) (fun z2 σ2 h2 => ?_)
      obtain ⟨rfl, c2⟩ := h2
      refine r_i2l dX9_digest_120 ?_
      refine r_ladd dX9_digest_121 ?_
      refine r_lstore_n dX9_digest_122 (Nat.le_of_ble_eq_true rfl) ?_
      change Rn _ _ 123 [.ref 0, .long _, .float 0, .int (iI s)] _ _ _
      refine i_iinc dX9_digest_123 rfl (Nat.le_of_ble_eq_true rfl) ?_
      refine r_goto 59 dX9_digest_126 rfl ?_
      exact ih (s + 1) (dI (dI (dI (dI h (hS M s)) (lS M s)) (q_learn M s (-1))) (q_learn M s 0)) σ2 c2 (by omega) (by omega) x hx2 hq

theorem m_dig_1 (M : rl_S) (hw : WF M) : ∀ (n : Nat) (w : Int) (h : Int64) (σ : rl_S), IM M σ → w + n = 8 → 0 ≤ w → ∀ x, x = dC M n w h → dI (dI (dT M 5 0 (dI (dI (dS M (nS M).toNat 0 (dI (dI x (q_fault M 0)) (q_fault M 1))) (q_roll M 0)) (q_roll M 1))) (q_saves M)) (q_night M 7 5) = q_digest M → Rn mW mX9_digest 6 [.ref 0, .long h, .float 0, .int (iI w)] [] σ (qL (fun z σ' => z = q_digest M ∧ IM M σ')) := by
  have nb := wf_nS hw
  intro n
  induction n with
  | zero =>
    intro w h σ c hs s0 x hx hq
    rw [hx] at hq
    refine r_iload_n dX9_digest_6 rfl ?_
    refine i_bipush dX9_digest_7 (by decide) ?_
    refine i_icmp_ge 31 dX9_digest_9 rfl ⟨by omega, by omega⟩ ⟨by omega, by omega⟩ (fun q9 => ?_) (fun q9 => ?_)
    · skip
      refine r_ldc2 dX9_digest_31 lcX9_245 ?_
      refine r_lload_n dX9_digest_34 rfl ?_
      refine r_lmul dX9_digest_35 ?_
      refine r_aload_n dX9_digest_36 rfl ?_
      refine i_const dX9_digest_37 ?_
      refine i_cvI (m_faultOf M σ c hw 0 (by decide)) lmX9_78 dX9_digest_38 (Nat.le_of_ble_eq_true rfl) rfl ⟨_, _, rfl⟩ (by decide) (by decide) rfl rfl (Nat.le_of_ble_eq_true rfl) (fun z1 σ1 h1 => ?_)
      obtain ⟨rfl, c1⟩ := h1
      refine r_i2l dX9_digest_41 ?_
      refine r_ladd dX9_digest_42 ?_
      refine r_lstore_n dX9_digest_43 (Nat.le_of_ble_eq_true rfl) ?_
      refine r_ldc2 dX9_digest_44 lcX9_245 ?_
      refine r_lload_n dX9_digest_47 rfl ?_
      refine r_lmul dX9_digest_48 ?_
      refine r_aload_n dX9_digest_49 rfl ?_
      refine i_const dX9_digest_50 ?_
      refine i_cvI (m_faultOf M σ1 c1.1 hw 1 (by decide)) lmX9_78 dX9_digest_51 (Nat.le_of_ble_eq_true rfl) rfl ⟨_, _, rfl⟩ (by decide) (by decide) rfl rfl (Nat.le_of_ble_eq_true rfl) (fun z2 σ2 h2 => ?_)
      obtain ⟨rfl, c2⟩ := h2
      refine r_i2l dX9_digest_54 ?_
      refine r_ladd dX9_digest_55 ?_
      refine r_lstore_n dX9_digest_56 (Nat.le_of_ble_eq_true rfl) ?_
      refine i_const dX9_digest_57 ?_
      refine r_istore_n dX9_digest_58 (Nat.le_of_ble_eq_true rfl) ?_
      exact m_dig_2 M hw (nS M).toNat 0 _ σ2 c2 (by omega) (by omega) _ rfl hq
    · exfalso
      omega
  | succ n ih =>
    intro w h σ c hs s0 x hx hq
    have hx2 : x = dC M n (w + 1) (dI h (q_count M w)) := hx
    refine r_iload_n dX9_digest_6 rfl ?_
    refine i_bipush dX9_digest_7 (by decide) ?_
    refine i_icmp_ge 31 dX9_digest_9 rfl ⟨by omega, by omega⟩ ⟨by omega, by omega⟩ (fun q9 => ?_) (fun q9 => ?_)
    · exfalso
      omega
    · skip
      refine r_ldc2 dX9_digest_12 lcX9_245 ?_
      refine r_lload_n dX9_digest_15 rfl ?_
      refine r_lmul dX9_digest_16 ?_
      refine r_aload_n dX9_digest_17 rfl ?_
      refine r_iload_n dX9_digest_18 rfl ?_
      refine i_cvI (m_count M σ c hw w (by omega)) lmX9_249 dX9_digest_19 (Nat.le_of_ble_eq_true rfl) rfl ⟨_, _, rfl⟩ (by decide) (by decide) rfl rfl (Nat.le_of_ble_eq_true rfl) (fun z1 σ1 h1 => ?_)
      obtain ⟨rfl, c1⟩ := h1
      refine r_i2l dX9_digest_22 ?_
      refine r_ladd dX9_digest_23 ?_
      refine r_lstore_n dX9_digest_24 (Nat.le_of_ble_eq_true rfl) ?_
      refine i_iinc dX9_digest_25 rfl (Nat.le_of_ble_eq_true rfl) ?_
      refine r_goto 6 dX9_digest_28 rfl ?_
      exact ih (w + 1) (dI h (q_count M w)) σ1 c1 (by omega) (by omega) x hx2 hq

set_option maxRecDepth 20000 in
theorem m_digest (M σ : rl_S) (c : IM M σ) (hw : WF M)  : Ct mW mX9_digest [.ref 0] σ (qL (fun z σ' => z = q_digest M ∧ IM M σ')) := by
  refine Ct.of plX9 (Nat.le_of_ble_eq_true rfl) ?_
  refine r_ldc2 dX9_digest_0 lcX9_247 ?_
  refine r_lstore_n dX9_digest_3 (Nat.le_of_ble_eq_true rfl) ?_
  refine i_const dX9_digest_4 ?_
  refine r_istore_n dX9_digest_5 (Nat.le_of_ble_eq_true rfl) ?_
  exact m_dig_1 M hw 8 0 17 σ c (by omega) (by omega) _ rfl rfl
