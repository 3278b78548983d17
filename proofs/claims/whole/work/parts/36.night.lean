set_option maxRecDepth 20000 in
theorem m_lot (σ : rl_S) (m : Int) (m0 : 1 ≤ m) (m1 : m ≤ 1000) : Ct mW mX9_lot [.ref 0, .int (iI m)] σ (qI (fun z σ' => z = draw (σ 0 15) m ∧ σ' = sup σ 0 15 (nsd (σ 0 15)))) := by
  refine Ct.of plX9 (Nat.le_of_ble_eq_true rfl) ?_
  refine r_aload_n dX9_lot_0 rfl ?_
  refine i_ldc lcX9_221 dX9_lot_1 ?_
  rw [show (1103515245 : Int32).toInt = 1103515245 from by decide]
  refine r_aload_n dX9_lot_3 rfl ?_
  refine r_get (k := 0) lfX9_222 dX9_lot_4 (Nat.le_of_ble_eq_true rfl) rfl rfl ?_
  refine i_imul dX9_lot_7 ?_
  refine i_sipush dX9_lot_8 (by decide) ?_
  refine i_iadd dX9_lot_11 ?_
  refine i_put (k := 0) lpX9_222 dX9_lot_12 (Nat.le_of_ble_eq_true rfl) rfl rfl ?_
  refine r_aload_n dX9_lot_15 rfl ?_
  refine r_get (k := 0) lfX9_222 dX9_lot_16 (Nat.le_of_ble_eq_true rfl) rfl rfl ?_
  rw [sup_h, show 1103515245 * σ 0 15 + 12345 = nsd (σ 0 15) from rfl]
  refine i_bipush dX9_lot_19 (by decide) ?_
  refine i_iushr16 dX9_lot_21 ?_
  refine r_iload_n dX9_lot_22 rfl ?_
  refine i_irem dX9_lot_23 ⟨(us16_bd _).1, by have := us16_bd (nsd (σ 0 15)); omega⟩ ⟨by omega, by omega⟩ ?_
  refine r_iret rfl dX9_lot_24 ?_
  exact ⟨_, rfl, rfl, rfl⟩

theorem ih_l {M σ : rl_S} (h : IH M σ) (x : Int) : IH M (sup σ 0 15 x) := ih_k h (fun k i g _ => by
  by_cases hk : k = 0
  · subst hk; exact sup_i _ _ _ _ (g rfl).2
  · exact sup_k _ _ _ _ _ hk)
theorem m_night_in (M : rl_S) (hw : WF M) (sd m f up k cr0 st la bb : Int) (bb0 : 0 ≤ bb ∧ bb ≤ 12) (Post : Option Value → rl_S → Prop) : ∀ (n : Nat) (b : Int) (σ : rl_S), IH M σ → σ 0 11 = bb → b + n = bb → 0 ≤ b → (∀ (b2 : Int) (σ2 : rl_S) (r : Bool × Int), r = bl (M 6 8) n (σ 0 15) → IH M σ2 → σ2 0 15 = r.2 → Rn mW mX9_nightOf 139 [.ref 0, .int (iI sd), .int (iI m), .int (iI f), .int (iI up), .int (iI k), .int (iI cr0), .int (iI st), .int (iI la), .int (iI (ob (!r.1))), .int (iI b2)] [] σ2 Post) → Rn mW mX9_nightOf 96 [.ref 0, .int (iI sd), .int (iI m), .int (iI f), .int (iI up), .int (iI k), .int (iI cr0), .int (iI st), .int (iI la), .int (iI 0), .int (iI b)] [] σ Post := by
  intro n
  have wst := wf_set hw
  induction n with
  | zero =>
    intro b σ c eb hb b0 K
    have K := K b σ (true, σ 0 15) rfl c rfl
    refine r_iload dX9_nightOf_96 rfl ?_
    refine r_aload_n dX9_nightOf_98 rfl ?_
    refine r_get (k := 0) lfX9_160 dX9_nightOf_99 (Nat.le_of_ble_eq_true rfl) rfl rfl ?_
    rw [eb]
    refine i_icmp_ge 139 dX9_nightOf_102 rfl ⟨by omega, by omega⟩ ⟨by omega, by omega⟩ (fun q102 => ?_) (fun q102 => ?_)
    · skip
      exact K
    · exfalso
      omega
  | succ n ih =>
    intro b σ c eb hb b0 K
    have db := draw_bd (σ 0 15) (show (0 : Int) < 16 by decide)
    have c2 := ih_l c (nsd (σ 0 15))
    have k8 : sup σ 0 15 (nsd (σ 0 15)) 6 (8 : Int).toNat = M 6 8 := c2.1.1.1 6 8 (by decide)
    have eb2 : sup σ 0 15 (nsd (σ 0 15)) 0 11 = bb := (sup_i _ _ _ _ (by decide)).trans eb
    simp only [bl] at K
    refine r_iload dX9_nightOf_96 rfl ?_
    refine r_aload_n dX9_nightOf_98 rfl ?_
    refine r_get (k := 0) lfX9_160 dX9_nightOf_99 (Nat.le_of_ble_eq_true rfl) rfl rfl ?_
    rw [eb]
    refine i_icmp_ge 139 dX9_nightOf_102 rfl ⟨by omega, by omega⟩ ⟨by omega, by omega⟩ (fun q102 => ?_) (fun q102 => ?_)
    · exfalso
      omega
    · skip
      refine r_iload dX9_nightOf_105 rfl ?_
      refine i_if_ne 139 dX9_nightOf_107 rfl ⟨by omega, by omega⟩ (fun q107 => ?_) (fun q107 => ?_)
      · exfalso
        omega
      · skip
        refine r_aload_n dX9_nightOf_110 rfl ?_
        refine i_bipush dX9_nightOf_111 (by decide) ?_
        refine i_cvI (m_lot σ 16 (by decide) (by decide)) lmX9_225 dX9_nightOf_113 (Nat.le_of_ble_eq_true rfl) rfl ⟨_, _, rfl⟩ (by decide) (by decide) rfl rfl (Nat.le_of_ble_eq_true rfl) (fun z1 σ1 hl => ?_)
        obtain ⟨rfl, rfl⟩ := hl
        refine r_aload_n dX9_nightOf_116 rfl ?_
        refine r_get (k := 0) lfX9_25 dX9_nightOf_117 (Nat.le_of_ble_eq_true rfl) rfl rfl ?_
        refine i_bipush dX9_nightOf_120 (by decide) ?_
        refine i_ald (k := 6) dX9_nightOf_122 (Nat.le_of_ble_eq_true rfl) rfl rfl ⟨by omega, by omega⟩ (by decide) ?_
        rw [k8]
        refine i_icmp_ge 130 dX9_nightOf_123 rfl ⟨by omega, by omega⟩ ⟨by omega, by omega⟩ (fun q123 => ?_) (fun q123 => ?_)
        · skip
          refine i_const dX9_nightOf_130 ?_
          refine r_istore dX9_nightOf_131 (Nat.le_of_ble_eq_true rfl) ?_
          skip
          refine i_iinc dX9_nightOf_133 rfl (Nat.le_of_ble_eq_true rfl) ?_
          refine r_goto 96 dX9_nightOf_136 rfl ?_
          first
            | (rw [if_neg (by omega)] at K
               exact ih (b + 1) _ c2 eb2 (by omega) (by omega) (fun b2 σ2 r hr => K b2 σ2 r (by rw [hr, sup_h])))
            | (rw [if_pos (by omega)] at K
               have K := K (b + 1) _ (false, nsd (σ 0 15)) rfl c2 (sup_h _ _ _ _)
               refine r_iload dX9_nightOf_96 rfl ?_
               refine r_aload_n dX9_nightOf_98 rfl ?_
               refine r_get (k := 0) lfX9_160 dX9_nightOf_99 (Nat.le_of_ble_eq_true rfl) rfl rfl ?_
               rw [eb2]
               refine i_icmp_ge 139 dX9_nightOf_102 rfl ⟨by omega, by omega⟩ ⟨by omega, by omega⟩ (fun q102 => ?_) (fun q102 => ?_)
               · skip
                 exact K
               · skip
                 refine r_iload dX9_nightOf_105 rfl ?_
                 refine i_if_ne 139 dX9_nightOf_107 rfl ⟨by omega, by omega⟩ (fun q107 => ?_) (fun q107 => ?_)
                 · skip
                   exact K
                 · exfalso
                   omega)
        · skip
          refine i_const dX9_nightOf_126 ?_
          refine r_goto 131 dX9_nightOf_127 rfl ?_
          refine r_istore dX9_nightOf_131 (Nat.le_of_ble_eq_true rfl) ?_
          skip
          refine i_iinc dX9_nightOf_133 rfl (Nat.le_of_ble_eq_true rfl) ?_
          refine r_goto 96 dX9_nightOf_136 rfl ?_
          first
            | (rw [if_neg (by omega)] at K
               exact ih (b + 1) _ c2 eb2 (by omega) (by omega) (fun b2 σ2 r hr => K b2 σ2 r (by rw [hr, sup_h])))
            | (rw [if_pos (by omega)] at K
               have K := K (b + 1) _ (false, nsd (σ 0 15)) rfl c2 (sup_h _ _ _ _)
               refine r_iload dX9_nightOf_96 rfl ?_
               refine r_aload_n dX9_nightOf_98 rfl ?_
               refine r_get (k := 0) lfX9_160 dX9_nightOf_99 (Nat.le_of_ble_eq_true rfl) rfl rfl ?_
               rw [eb2]
               refine i_icmp_ge 139 dX9_nightOf_102 rfl ⟨by omega, by omega⟩ ⟨by omega, by omega⟩ (fun q102 => ?_) (fun q102 => ?_)
               · skip
                 exact K
               · skip
                 refine r_iload dX9_nightOf_105 rfl ?_
                 refine i_if_ne 139 dX9_nightOf_107 rfl ⟨by omega, by omega⟩ (fun q107 => ?_) (fun q107 => ?_)
                 · skip
                   exact K
                 · exfalso
                   omega)

theorem m_n139 (σ : rl_S) (sd m f up k cr0 st la w : Int) (l10 : Value) (la0 : -1 ≤ la ∧ la < 400) (w0 : 0 ≤ w ∧ w ≤ 1) (Post : Option Value → rl_S → Prop)
    (K1 : (w ≠ 0 ∨ la = -1) → ∀ l9, Rn mW mX9_nightOf 17 [.ref 0, .int (iI sd), .int (iI m), .int (iI st), .int (iI (up + 0)), .int (iI (k + 1)), .int (iI cr0), .int (iI st), .int (iI la), l9, l10] [] σ Post)
    (K2 : (w = 0 ∧ la ≠ -1) → ∀ l9, Rn mW mX9_nightOf 17 [.ref 0, .int (iI sd), .int (iI m), .int (iI la), .int (iI (up + 1)), .int (iI (k + 1)), .int (iI cr0), .int (iI st), .int (iI la), l9, l10] [] σ Post) :
    Rn mW mX9_nightOf 139 [.ref 0, .int (iI sd), .int (iI m), .int (iI f), .int (iI up), .int (iI k), .int (iI cr0), .int (iI st), .int (iI la), .int (iI w), l10] [] σ Post := by
  refine r_iload dX9_nightOf_139 rfl ?_
  refine i_if_ne 150 dX9_nightOf_141 rfl ⟨by omega, by omega⟩ (fun q141 => ?_) (fun q141 => ?_)
  · skip
    refine i_const dX9_nightOf_150 ?_
    refine r_goto 155 dX9_nightOf_151 rfl ?_
    refine r_istore dX9_nightOf_155 (Nat.le_of_ble_eq_true rfl) ?_
    refine r_iload dX9_nightOf_157 rfl ?_
    refine i_if_eq 167 dX9_nightOf_159 rfl ⟨by omega, by omega⟩ (fun q159 => ?_) (fun q159 => ?_)
    · exfalso
      omega
    · skip
      refine r_iload dX9_nightOf_162 rfl ?_
      refine r_goto 169 dX9_nightOf_164 rfl ?_
      refine r_istore_n dX9_nightOf_169 (Nat.le_of_ble_eq_true rfl) ?_
      refine r_iload dX9_nightOf_170 rfl ?_
      refine r_iload dX9_nightOf_172 rfl ?_
      refine i_if_eq 181 dX9_nightOf_174 rfl ⟨by omega, by omega⟩ (fun q174 => ?_) (fun q174 => ?_)
      · exfalso
        omega
      · skip
        refine i_const dX9_nightOf_177 ?_
        refine r_goto 182 dX9_nightOf_178 rfl ?_
        refine i_iadd dX9_nightOf_182 ?_
        refine r_istore dX9_nightOf_183 (Nat.le_of_ble_eq_true rfl) ?_
        refine i_iinc dX9_nightOf_185 rfl (Nat.le_of_ble_eq_true rfl) ?_
        refine r_goto 17 dX9_nightOf_188 rfl ?_
        first
          | exact K1 (by omega) _
          | exact K2 (by omega) _
  · skip
    refine r_iload dX9_nightOf_144 rfl ?_
    refine i_const dX9_nightOf_146 ?_
    refine i_icmp_ne 154 dX9_nightOf_147 rfl ⟨by omega, by omega⟩ ⟨by omega, by omega⟩ (fun q147 => ?_) (fun q147 => ?_)
    · skip
      refine i_const dX9_nightOf_154 ?_
      refine r_istore dX9_nightOf_155 (Nat.le_of_ble_eq_true rfl) ?_
      refine r_iload dX9_nightOf_157 rfl ?_
      refine i_if_eq 167 dX9_nightOf_159 rfl ⟨by omega, by omega⟩ (fun q159 => ?_) (fun q159 => ?_)
      · skip
        refine r_iload dX9_nightOf_167 rfl ?_
        refine r_istore_n dX9_nightOf_169 (Nat.le_of_ble_eq_true rfl) ?_
        refine r_iload dX9_nightOf_170 rfl ?_
        refine r_iload dX9_nightOf_172 rfl ?_
        refine i_if_eq 181 dX9_nightOf_174 rfl ⟨by omega, by omega⟩ (fun q174 => ?_) (fun q174 => ?_)
        · skip
          refine i_const dX9_nightOf_181 ?_
          refine i_iadd dX9_nightOf_182 ?_
          refine r_istore dX9_nightOf_183 (Nat.le_of_ble_eq_true rfl) ?_
          refine i_iinc dX9_nightOf_185 rfl (Nat.le_of_ble_eq_true rfl) ?_
          refine r_goto 17 dX9_nightOf_188 rfl ?_
          first
            | exact K1 (by omega) _
            | exact K2 (by omega) _
        · exfalso
          omega
      · exfalso
        omega
    · skip
      refine i_const dX9_nightOf_150 ?_
      refine r_goto 155 dX9_nightOf_151 rfl ?_
      refine r_istore dX9_nightOf_155 (Nat.le_of_ble_eq_true rfl) ?_
      refine r_iload dX9_nightOf_157 rfl ?_
      refine i_if_eq 167 dX9_nightOf_159 rfl ⟨by omega, by omega⟩ (fun q159 => ?_) (fun q159 => ?_)
      · exfalso
        omega
      · skip
        refine r_iload dX9_nightOf_162 rfl ?_
        refine r_goto 169 dX9_nightOf_164 rfl ?_
        refine r_istore_n dX9_nightOf_169 (Nat.le_of_ble_eq_true rfl) ?_
        refine r_iload dX9_nightOf_170 rfl ?_
        refine r_iload dX9_nightOf_172 rfl ?_
        refine i_if_eq 181 dX9_nightOf_174 rfl ⟨by omega, by omega⟩ (fun q174 => ?_) (fun q174 => ?_)
        · exfalso
          omega
        · skip
          refine i_const dX9_nightOf_177 ?_
          refine r_goto 182 dX9_nightOf_178 rfl ?_
          refine i_iadd dX9_nightOf_182 ?_
          refine r_istore dX9_nightOf_183 (Nat.le_of_ble_eq_true rfl) ?_
          refine i_iinc dX9_nightOf_185 rfl (Nat.le_of_ble_eq_true rfl) ?_
          refine r_goto 17 dX9_nightOf_188 rfl ?_
          first
            | exact K1 (by omega) _
            | exact K2 (by omega) _

set_option maxHeartbeats 4000000 in
theorem m_night_l (M : rl_S) (hw : WF M) (sd m : Int) (m1 : m ≤ 20) : ∀ (n : Nat) (k up f : Int) (l6 l7 l8 l9 l10 : Value) (σ : rl_S), k + n = m → 0 ≤ k → 0 ≤ f → f < 400 → IH M σ → ∀ z, z = ng M n up f (σ 0 15) → Rn mW mX9_nightOf 17 [.ref 0, .int (iI sd), .int (iI m), .int (iI f), .int (iI up), .int (iI k), l6, l7, l8, l9, l10] [] σ (pH M z) := by
  intro n
  have wst := wf_set hw
  induction n with
  | zero =>
    intro k up f l6 l7 l8 l9 l10 σ hk k0 f0 f1 c z hz
    refine r_iload dX9_nightOf_17 rfl ?_
    refine r_iload_n dX9_nightOf_19 rfl ?_
    refine i_icmp_ge 191 dX9_nightOf_20 rfl ⟨by omega, by omega⟩ ⟨by omega, by omega⟩ (fun q20 => ?_) (fun q20 => ?_)
    · skip
      refine r_iload dX9_nightOf_191 rfl ?_
      refine r_iret rfl dX9_nightOf_193 ?_
      exact ⟨_, rfl, by rw [hz]; rfl, c⟩
    · exfalso
      omega
  | succ n ih =>
    intro k up f l6 l7 l8 l9 l10 σ hk k0 f0 f1 c z hz
    have cb := cF_bd (hi M) (t := f) 1 f0 (by omega)
    have db := draw_bd (σ 0 15) (show (0 : Int) < 3 by decide)
    simp only [ng] at hz
    refine r_iload dX9_nightOf_17 rfl ?_
    refine r_iload_n dX9_nightOf_19 rfl ?_
    refine i_icmp_ge 191 dX9_nightOf_20 rfl ⟨by omega, by omega⟩ ⟨by omega, by omega⟩ (fun q20 => ?_) (fun q20 => ?_)
    · exfalso
      omega
    · skip
      refine r_aload_n dX9_nightOf_23 rfl ?_
      refine r_iload_n dX9_nightOf_24 rfl ?_
      refine i_cvP (m_nextCrest σ (hi M) c.2 (wf_hb hw) f f0 (by omega)) lmX9_132 dX9_nightOf_25 (Nat.le_of_ble_eq_true rfl) rfl ⟨_, _, rfl⟩ (by decide) (by decide) rfl rfl (Nat.le_of_ble_eq_true rfl) ?_
      refine r_istore dX9_nightOf_28 (Nat.le_of_ble_eq_true rfl) ?_
      change Rn _ _ 30 [.ref 0, .int (iI sd), .int (iI m), .int (iI f), .int (iI up), .int (iI k), .int (iI (cF (hi M) f 1)), l7, l8, l9, l10] _ _ _
      refine r_iload dX9_nightOf_30 rfl ?_
      refine i_const dX9_nightOf_32 ?_
      refine i_icmp_ne 42 dX9_nightOf_33 rfl ⟨by omega, by omega⟩ ⟨by omega, by omega⟩ (fun q33 => ?_) (fun q33 => ?_)
      · skip
        refine r_iload dX9_nightOf_42 rfl ?_
        refine r_aload_n dX9_nightOf_44 rfl ?_
        refine i_const dX9_nightOf_45 ?_
        refine i_cvI (m_lot σ 3 (by decide) (by decide)) lmX9_225 dX9_nightOf_46 (Nat.le_of_ble_eq_true rfl) rfl ⟨_, _, rfl⟩ (by decide) (by decide) rfl rfl (Nat.le_of_ble_eq_true rfl) (fun z1 σ1 hl => ?_)
        obtain ⟨rfl, rfl⟩ := hl
        have c1 := ih_l c (nsd (σ 0 15))
        refine i_iadd dX9_nightOf_49 ?_
        refine r_istore dX9_nightOf_50 (Nat.le_of_ble_eq_true rfl) ?_
        first
          | change Rn _ _ 52 [.ref 0, .int (iI sd), .int (iI m), .int (iI f), .int (iI up), .int (iI k), .int (iI (cF (hi M) f 1)), .int (iI (cF (hi M) f 1 + draw (σ 0 15) 3)), l8, l9, l10] _ _ _
          | change Rn _ _ 52 [.ref 0, .int (iI sd), .int (iI m), .int (iI f), .int (iI up), .int (iI k), .int (iI (cF (hi M) f 1)), .int (iI 400), l8, l9, l10] _ _ _
        refine r_iload dX9_nightOf_52 rfl ?_
        refine i_sipush dX9_nightOf_54 (by decide) ?_
        refine i_icmp_le 63 dX9_nightOf_57 rfl ⟨by omega, by omega⟩ ⟨by omega, by omega⟩ (fun q57 => ?_) (fun q57 => ?_)
        · skip
          refine r_aload_n dX9_nightOf_63 rfl ?_
          refine r_iload dX9_nightOf_64 rfl ?_
          refine i_cvI (m_climbs M _ c1 hw _ (by omega) (by omega)) lmX9_163 dX9_nightOf_66 (Nat.le_of_ble_eq_true rfl) rfl ⟨_, _, rfl⟩ (by decide) (by decide) rfl rfl (Nat.le_of_ble_eq_true rfl) (fun z2 σ2 hc => ?_)
          obtain ⟨rfl, eb, hfr⟩ := hc
          have c2 := ih_b c1 hfr
          have es2 : σ2 0 15 = nsd (σ 0 15) := (hfr 0 15 (fun _ => by decide)).trans (sup_h _ _ _ _)
          have eN : nst M f (σ 0 15) = (cF (hi M) f 1 + draw (σ 0 15) 3, nsd (σ 0 15)) := by unfold nst; rw [if_neg (by omega), if_neg (by omega)]
          rw [eN] at hz
          dsimp only at hz
          obtain ⟨S, hS⟩ : ∃ S : Int, S = cF (hi M) f 1 + draw (σ 0 15) 3 := ⟨_, rfl⟩
          rw [← hS] at hz eb q57 ⊢
          have mb := clM_bd hw (t := S) (by omega) (by omega)
          have fb := fll_bd hw S
          refine r_istore dX9_nightOf_69 (Nat.le_of_ble_eq_true rfl) ?_
          change Rn _ _ 71 [.ref 0, .int (iI sd), .int (iI m), .int (iI f), .int (iI up), .int (iI k), .int (iI (cF (hi M) f 1)), .int (iI S), .int (iI (clM M S).1), l9, l10] _ _ _
          refine r_aload_n dX9_nightOf_71 rfl ?_
          refine i_bipush dX9_nightOf_72 (by decide) ?_
          refine i_cvI (m_lot σ2 16 (by decide) (by decide)) lmX9_225 dX9_nightOf_74 (Nat.le_of_ble_eq_true rfl) rfl ⟨_, _, rfl⟩ (by decide) (by decide) rfl rfl (Nat.le_of_ble_eq_true rfl) (fun z3 σ3 hl3 => ?_)
          obtain ⟨rfl, rfl⟩ := hl3
          have db3 := draw_bd (σ2 0 15) (show (0 : Int) < 16 by decide)
          have c3 := ih_l c2 (nsd (σ2 0 15))
          have eb3 : sup σ2 0 15 (nsd (σ2 0 15)) 0 11 = (clM M S).2 := (sup_i _ _ _ _ (by decide)).trans eb
          refine r_aload_n dX9_nightOf_77 rfl ?_
          refine r_iload dX9_nightOf_78 rfl ?_
          refine i_cvP (m_fallNow M _ c3 hw _ (by omega) (by omega)) lmX9_154 dX9_nightOf_80 (Nat.le_of_ble_eq_true rfl) rfl ⟨_, _, rfl⟩ (by decide) (by decide) rfl rfl (Nat.le_of_ble_eq_true rfl) ?_
          refine i_icmp_ge 90 dX9_nightOf_83 rfl ⟨by omega, by omega⟩ ⟨by omega, by omega⟩ (fun q83 => ?_) (fun q83 => ?_)
          · skip
            refine i_const dX9_nightOf_90 ?_
            refine r_istore dX9_nightOf_91 (Nat.le_of_ble_eq_true rfl) ?_
            refine i_const dX9_nightOf_93 ?_
            refine r_istore dX9_nightOf_94 (Nat.le_of_ble_eq_true rfl) ?_
            rw [if_neg (by omega)] at hz
            have hd : draw (nsd (σ 0 15)) 16 = draw (σ2 0 15) 16 := by rw [es2]
            first
              | (have eg : gu M S (nsd (σ 0 15)) = (false, nsd (nsd (σ 0 15))) := by unfold gu; rw [if_pos (by omega)]
                 change Rn _ _ 96 [.ref 0, .int (iI sd), .int (iI m), .int (iI f), .int (iI up), .int (iI k), .int (iI (cF (hi M) f 1)), .int (iI S), .int (iI (clM M S).1), .int (iI 1), .int (iI 0)] _ _ _
                 rw [eg] at hz
                 dsimp only at hz
                 rw [if_neg (by decide)] at hz
                 have K : Rn mW mX9_nightOf 139 [.ref 0, .int (iI sd), .int (iI m), .int (iI f), .int (iI up), .int (iI k), .int (iI (cF (hi M) f 1)), .int (iI S), .int (iI (clM M S).1), .int (iI 1), .int (iI 0)] [] (sup σ2 0 15 (nsd (σ2 0 15))) (pH M z) := by
                   refine m_n139 _ sd m f up k _ S _ 1 _ (by omega) (by decide) _ (fun _ l9 => ?_) (fun q => absurd q.1 (by decide))
                   exact ih _ _ _ _ _ _ _ _ _ (by omega) (by omega) (by omega) (by omega) c3 z (by rw [hz, sup_h, es2]; congr 1; omega)
                 refine r_iload dX9_nightOf_96 rfl ?_
                 refine r_aload_n dX9_nightOf_98 rfl ?_
                 refine r_get (k := 0) lfX9_160 dX9_nightOf_99 (Nat.le_of_ble_eq_true rfl) rfl rfl ?_
                 rw [eb3]
                 refine i_icmp_ge 139 dX9_nightOf_102 rfl ⟨by omega, by omega⟩ ⟨by omega, by omega⟩ (fun q102 => ?_) (fun q102 => ?_)
                 · skip
                   exact K
                 · skip
                   refine r_iload dX9_nightOf_105 rfl ?_
                   refine i_if_ne 139 dX9_nightOf_107 rfl ⟨by omega, by omega⟩ (fun q107 => ?_) (fun q107 => ?_)
                   · skip
                     exact K
                   · exfalso
                     omega)
              | (have eg : gu M S (nsd (σ 0 15)) = ((bl (M 6 8) (clM M S).2.toNat (nsd (nsd (σ 0 15)))).1 && decide ((clM M S).1 ≠ -1), (bl (M 6 8) (clM M S).2.toNat (nsd (nsd (σ 0 15)))).2) := by unfold gu; rw [if_neg (by omega)]
                 change Rn _ _ 96 [.ref 0, .int (iI sd), .int (iI m), .int (iI f), .int (iI up), .int (iI k), .int (iI (cF (hi M) f 1)), .int (iI S), .int (iI (clM M S).1), .int (iI 0), .int (iI 0)] _ _ _
                 refine m_night_in M hw sd m f up k _ S (clM M S).1 (clM M S).2 mb.2 _ (clM M S).2.toNat 0 _ c3 eb3 (by omega) (by omega) (fun b2 σ4 r hr c4 e4 => ?_)
                 rw [sup_h, es2] at hr
                 rw [← hr] at eg
                 rw [eg] at hz
                 dsimp only at hz
                 have bb := ob_bd (!r.1)
                 refine m_n139 _ sd m f up k _ S _ _ _ (by omega) bb _ (fun q l9 => ?_) (fun q l9 => ?_)
                 · have hr2 : (r.1 && decide ((clM M S).1 ≠ -1)) = false := by
                     cases hh : r.1 with
                     | false => rfl
                     | true =>
                       rw [hh] at q
                       have q2 : (clM M S).1 = -1 := by
                         rcases q with q | q
                         · exact absurd rfl q
                         · exact q
                       rw [q2]; rfl
                   rw [hr2, if_neg (by decide)] at hz
                   exact ih _ _ _ _ _ _ _ _ _ (by omega) (by omega) (by omega) (by omega) c4 z (by rw [hz, e4]; congr 1; omega)
                 · have hr2 : (r.1 && decide ((clM M S).1 ≠ -1)) = true := by
                     cases hh : r.1 with
                     | false => rw [hh] at q; exact absurd q.1 (by decide)
                     | true => rw [decide_eq_true q.2]; rfl
                   rw [hr2, if_pos rfl] at hz
                   have q2 := q.2
                   exact ih _ _ _ _ _ _ _ _ _ (by omega) (by omega) (by omega) (by omega) c4 z (by rw [hz, e4]))
          · skip
            refine i_const dX9_nightOf_86 ?_
            refine r_goto 91 dX9_nightOf_87 rfl ?_
            refine r_istore dX9_nightOf_91 (Nat.le_of_ble_eq_true rfl) ?_
            refine i_const dX9_nightOf_93 ?_
            refine r_istore dX9_nightOf_94 (Nat.le_of_ble_eq_true rfl) ?_
            rw [if_neg (by omega)] at hz
            have hd : draw (nsd (σ 0 15)) 16 = draw (σ2 0 15) 16 := by rw [es2]
            first
              | (have eg : gu M S (nsd (σ 0 15)) = (false, nsd (nsd (σ 0 15))) := by unfold gu; rw [if_pos (by omega)]
                 change Rn _ _ 96 [.ref 0, .int (iI sd), .int (iI m), .int (iI f), .int (iI up), .int (iI k), .int (iI (cF (hi M) f 1)), .int (iI S), .int (iI (clM M S).1), .int (iI 1), .int (iI 0)] _ _ _
                 rw [eg] at hz
                 dsimp only at hz
                 rw [if_neg (by decide)] at hz
                 have K : Rn mW mX9_nightOf 139 [.ref 0, .int (iI sd), .int (iI m), .int (iI f), .int (iI up), .int (iI k), .int (iI (cF (hi M) f 1)), .int (iI S), .int (iI (clM M S).1), .int (iI 1), .int (iI 0)] [] (sup σ2 0 15 (nsd (σ2 0 15))) (pH M z) := by
                   refine m_n139 _ sd m f up k _ S _ 1 _ (by omega) (by decide) _ (fun _ l9 => ?_) (fun q => absurd q.1 (by decide))
                   exact ih _ _ _ _ _ _ _ _ _ (by omega) (by omega) (by omega) (by omega) c3 z (by rw [hz, sup_h, es2]; congr 1; omega)
                 refine r_iload dX9_nightOf_96 rfl ?_
                 refine r_aload_n dX9_nightOf_98 rfl ?_
                 refine r_get (k := 0) lfX9_160 dX9_nightOf_99 (Nat.le_of_ble_eq_true rfl) rfl rfl ?_
                 rw [eb3]
                 refine i_icmp_ge 139 dX9_nightOf_102 rfl ⟨by omega, by omega⟩ ⟨by omega, by omega⟩ (fun q102 => ?_) (fun q102 => ?_)
                 · skip
                   exact K
                 · skip
                   refine r_iload dX9_nightOf_105 rfl ?_
                   refine i_if_ne 139 dX9_nightOf_107 rfl ⟨by omega, by omega⟩ (fun q107 => ?_) (fun q107 => ?_)
                   · skip
                     exact K
                   · exfalso
                     omega)
              | (have eg : gu M S (nsd (σ 0 15)) = ((bl (M 6 8) (clM M S).2.toNat (nsd (nsd (σ 0 15)))).1 && decide ((clM M S).1 ≠ -1), (bl (M 6 8) (clM M S).2.toNat (nsd (nsd (σ 0 15)))).2) := by unfold gu; rw [if_neg (by omega)]
                 change Rn _ _ 96 [.ref 0, .int (iI sd), .int (iI m), .int (iI f), .int (iI up), .int (iI k), .int (iI (cF (hi M) f 1)), .int (iI S), .int (iI (clM M S).1), .int (iI 0), .int (iI 0)] _ _ _
                 refine m_night_in M hw sd m f up k _ S (clM M S).1 (clM M S).2 mb.2 _ (clM M S).2.toNat 0 _ c3 eb3 (by omega) (by omega) (fun b2 σ4 r hr c4 e4 => ?_)
                 rw [sup_h, es2] at hr
                 rw [← hr] at eg
                 rw [eg] at hz
                 dsimp only at hz
                 have bb := ob_bd (!r.1)
                 refine m_n139 _ sd m f up k _ S _ _ _ (by omega) bb _ (fun q l9 => ?_) (fun q l9 => ?_)
                 · have hr2 : (r.1 && decide ((clM M S).1 ≠ -1)) = false := by
                     cases hh : r.1 with
                     | false => rfl
                     | true =>
                       rw [hh] at q
                       have q2 : (clM M S).1 = -1 := by
                         rcases q with q | q
                         · exact absurd rfl q
                         · exact q
                       rw [q2]; rfl
                   rw [hr2, if_neg (by decide)] at hz
                   exact ih _ _ _ _ _ _ _ _ _ (by omega) (by omega) (by omega) (by omega) c4 z (by rw [hz, e4]; congr 1; omega)
                 · have hr2 : (r.1 && decide ((clM M S).1 ≠ -1)) = true := by
                     cases hh : r.1 with
                     | false => rw [hh] at q; exact absurd q.1 (by decide)
                     | true => rw [decide_eq_true q.2]; rfl
                   rw [hr2, if_pos rfl] at hz
                   have q2 := q.2
                   exact ih _ _ _ _ _ _ _ _ _ (by omega) (by omega) (by omega) (by omega) c4 z (by rw [hz, e4]))
        · skip
          refine r_iload dX9_nightOf_60 rfl ?_
          refine r_iret rfl dX9_nightOf_62 ?_
          first
            | exact ⟨_, rfl, by rw [hz, if_pos (by unfold nst; rw [if_pos (by omega)])], c⟩
            | exact ⟨_, rfl, by rw [hz, if_pos (by unfold nst; rw [if_neg (by omega), if_pos (by omega)])], c1⟩
      · skip
        refine i_sipush dX9_nightOf_36 (by decide) ?_
        refine r_goto 50 dX9_nightOf_39 rfl ?_
        refine r_istore dX9_nightOf_50 (Nat.le_of_ble_eq_true rfl) ?_
        first
          | change Rn _ _ 52 [.ref 0, .int (iI sd), .int (iI m), .int (iI f), .int (iI up), .int (iI k), .int (iI (cF (hi M) f 1)), .int (iI (cF (hi M) f 1 + draw (σ 0 15) 3)), l8, l9, l10] _ _ _
          | change Rn _ _ 52 [.ref 0, .int (iI sd), .int (iI m), .int (iI f), .int (iI up), .int (iI k), .int (iI (cF (hi M) f 1)), .int (iI 400), l8, l9, l10] _ _ _
        refine r_iload dX9_nightOf_52 rfl ?_
        refine i_sipush dX9_nightOf_54 (by decide) ?_
        refine i_icmp_le 63 dX9_nightOf_57 rfl ⟨by omega, by omega⟩ ⟨by omega, by omega⟩ (fun q57 => ?_) (fun q57 => ?_)
        · exfalso
          omega
        · skip
          refine r_iload dX9_nightOf_60 rfl ?_
          refine r_iret rfl dX9_nightOf_62 ?_
          first
            | exact ⟨_, rfl, by rw [hz, if_pos (by unfold nst; rw [if_pos (by omega)])], c⟩
            | exact ⟨_, rfl, by rw [hz, if_pos (by unfold nst; rw [if_neg (by omega), if_pos (by omega)])], c1⟩

set_option maxRecDepth 20000 in
theorem m_nightOf (M σ : rl_S) (c : IM M σ) (hw : WF M) (sd n : Int) (n0 : 1 ≤ n ∧ n ≤ 20) : Ct mW mX9_nightOf [.ref 0, .int (iI sd), .int (iI n)] σ (pH M (q_night M sd n)) := by
  refine Ct.of plX9 (Nat.le_of_ble_eq_true rfl) ?_
  refine r_aload_n dX9_nightOf_0 rfl ?_
  refine i_cvV (m_lays M σ c hw) lmX9_117 dX9_nightOf_1 (Nat.le_of_ble_eq_true rfl) rfl ⟨_, _, rfl⟩ (by decide) (by decide) rfl rfl (Nat.le_of_ble_eq_true rfl) (fun σ1 c1 => ?_)
  refine r_aload_n dX9_nightOf_4 rfl ?_
  refine r_iload_n dX9_nightOf_5 rfl ?_
  refine i_put (k := 0) lpX9_222 dX9_nightOf_6 (Nat.le_of_ble_eq_true rfl) rfl rfl ?_
  refine i_const dX9_nightOf_9 ?_
  refine r_istore_n dX9_nightOf_10 (Nat.le_of_ble_eq_true rfl) ?_
  refine i_const dX9_nightOf_11 ?_
  refine r_istore dX9_nightOf_12 (Nat.le_of_ble_eq_true rfl) ?_
  refine i_const dX9_nightOf_14 ?_
  refine r_istore dX9_nightOf_15 (Nat.le_of_ble_eq_true rfl) ?_
  exact m_night_l M hw sd n (by omega) n.toNat 0 0 0 _ _ _ _ _ _ (by omega) (by omega) (by omega) (by omega) (ih_l c1 sd) _ (by rw [sup_h]; unfold q_night; rw [if_pos n0])

set_option maxRecDepth 20000 in
theorem m_night (M σ : rl_S) (c : IM M σ) (hw : WF M) (sd n : Int) (hn : -2147483648 ≤ n ∧ n < 2147483648) : Ct mW mX9_night [.ref 0, .int (iI sd), .int (iI n)] σ (pM M (q_night M sd n)) := by
  refine Ct.of plX9 (Nat.le_of_ble_eq_true rfl) ?_
  have ob1 := ob_bd (decide (1 ≤ n ∧ n ≤ 20))
  refine r_iload_n dX9_night_0 rfl ?_
  refine i_const dX9_night_1 ?_
  refine i_bipush dX9_night_2 (by decide) ?_
  refine i_csP (m_in σ n 1 20 hn (by decide) (by decide)) lmX9_55 dX9_night_4 (by decide) (by decide) rfl rfl (Nat.le_of_ble_eq_true rfl) ?_
  refine i_if_eq 19 dX9_night_7 rfl (ob_i32 _) (fun q7 => ?_) (fun q7 => ?_)
  · have e7 := ob_df q7
    refine i_bipush dX9_night_19 (by decide) ?_
    refine r_iret rfl dX9_night_21 ?_
    first
      | exact ⟨_, rfl, hd.1, hd.2.1.1⟩
      | exact ⟨_, rfl, by unfold q_night; rw [if_neg (by omega)], c⟩
  · have e7 := ob_dt q7
    refine r_aload_n dX9_night_10 rfl ?_
    refine r_iload_n dX9_night_11 rfl ?_
    refine r_iload_n dX9_night_12 rfl ?_
    refine i_cvI (m_nightOf M σ c hw sd n (by omega)) lmX9_228 dX9_night_13 (Nat.le_of_ble_eq_true rfl) rfl ⟨_, _, rfl⟩ (by decide) (by decide) rfl rfl (Nat.le_of_ble_eq_true rfl) (fun z1 σ1 hd => ?_)
    refine r_goto 21 dX9_night_16 rfl ?_
    refine r_iret rfl dX9_night_21 ?_
    first
      | exact ⟨_, rfl, hd.1, hd.2.1.1⟩
      | exact ⟨_, rfl, by unfold q_night; rw [if_neg (by omega)], c⟩
