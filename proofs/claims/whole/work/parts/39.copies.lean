theorem m_copy_2 (M : rl_S) (hw : WF M) (s i t j n : Int) (s0 : 0 ≤ s ∧ s ≤ 3) (t0 : 0 ≤ t ∧ t ≤ 3) (i0 : 0 ≤ i) (j0 : 0 ≤ j) (n0 : 0 ≤ n) (hin : i + n ≤ 48) (hjn : j + n ≤ 48) : ∀ (m : Nat) (k : Nat) (σ : rl_S), (k : Int) + m = n → IM (rngM M (48 * t.toNat + j.toNat) k (fun q => M 13 (48 * s.toNat + i.toNat + q))) σ → (∀ q : Nat, (q : Int) < n → σ 14 q = M 13 (48 * s.toNat + i.toNat + q)) → Rn mW mX9_copy 157 [.ref 0, .int (iI s), .int (iI i), .int (iI t), .int (iI j), .int (iI n), .int (iI (k : Int))] [] σ (qI (fun z σ' => z = 1 ∧ IM (rngM M (48 * t.toNat + j.toNat) n.toNat (fun q => M 13 (48 * s.toNat + i.toNat + q))) σ')) := by
  intro m
  induction m with
  | zero =>
    intro k σ hk c hm
    rw [show n.toNat = k by omega]
    refine r_iload dX9_copy_157 rfl ?_
    refine r_iload dX9_copy_159 rfl ?_
    refine i_icmp_ge 192 dX9_copy_161 rfl ⟨by omega, by omega⟩ ⟨by omega, by omega⟩ (fun q161 => ?_) (fun q161 => ?_)
    · skip
      refine i_const dX9_copy_192 ?_
      refine r_iret rfl dX9_copy_193 ?_
      exact ⟨_, rfl, rfl, c⟩
    · exfalso
      omega
  | succ m ih =>
    intro k σ hk c hm
    refine r_iload dX9_copy_157 rfl ?_
    refine r_iload dX9_copy_159 rfl ?_
    refine i_icmp_ge 192 dX9_copy_161 rfl ⟨by omega, by omega⟩ ⟨by omega, by omega⟩ (fun q161 => ?_) (fun q161 => ?_)
    · exfalso
      omega
    · skip
      refine r_aload_n dX9_copy_164 rfl ?_
      refine r_get (k := 0) lfX9_47 dX9_copy_165 (Nat.le_of_ble_eq_true rfl) rfl rfl ?_
      refine i_bipush dX9_copy_168 (by decide) ?_
      refine r_iload_n dX9_copy_170 rfl ?_
      refine i_imul dX9_copy_171 ?_
      refine r_iload dX9_copy_172 rfl ?_
      refine i_iadd dX9_copy_174 ?_
      refine r_iload dX9_copy_175 rfl ?_
      refine i_iadd dX9_copy_177 ?_
      refine r_aload_n dX9_copy_178 rfl ?_
      refine r_get (k := 0) lfX9_50 dX9_copy_179 (Nat.le_of_ble_eq_true rfl) rfl rfl ?_
      refine r_iload dX9_copy_182 rfl ?_
      refine i_ald (k := 14) dX9_copy_184 (Nat.le_of_ble_eq_true rfl) rfl rfl ⟨by omega, by omega⟩ (by decide) ?_
      rw [show ((k : Int)).toNat = k from rfl, hm k (by omega)]
      refine i_ast (k := 13) dX9_copy_185 (Nat.le_of_ble_eq_true rfl) rfl rfl ⟨by omega, by omega⟩ (by decide) ?_
      refine i_iinc dX9_copy_186 rfl (Nat.le_of_ble_eq_true rfl) ?_
      refine r_goto 157 dX9_copy_189 rfl ?_
      rw [show (48 * t + j + (k : Int)).toNat = 48 * t.toNat + j.toNat + k by omega, show (k : Int) + 1 = ((k + 1 : Nat) : Int) by omega]
      refine ih (k + 1) _ (by omega) ?_ (fun q hq => (sup_k _ _ _ _ _ (by decide)).trans (hm q hq))
      rw [← rng_up]
      exact im_sup c _ _ _

theorem m_copy_1 (M : rl_S) (hw : WF M) (s i t j n : Int) (s0 : 0 ≤ s ∧ s ≤ 3) (t0 : 0 ≤ t ∧ t ≤ 3) (i0 : 0 ≤ i) (j0 : 0 ≤ j) (n0 : 0 ≤ n) (hin : i + n ≤ 48) (hjn : j + n ≤ 48) : ∀ (m : Nat) (k : Nat) (σ : rl_S), (k : Int) + m = n → IM M σ → (∀ q : Nat, q < k → σ 14 q = M 13 (48 * s.toNat + i.toNat + q)) → Rn mW mX9_copy 120 [.ref 0, .int (iI s), .int (iI i), .int (iI t), .int (iI j), .int (iI n), .int (iI (k : Int))] [] σ (qI (fun z σ' => z = 1 ∧ IM (rngM M (48 * t.toNat + j.toNat) n.toNat (fun q => M 13 (48 * s.toNat + i.toNat + q))) σ')) := by
  intro m
  induction m with
  | zero =>
    intro k σ hk c hm
    refine r_iload dX9_copy_120 rfl ?_
    refine r_iload dX9_copy_122 rfl ?_
    refine i_icmp_ge 154 dX9_copy_124 rfl ⟨by omega, by omega⟩ ⟨by omega, by omega⟩ (fun q124 => ?_) (fun q124 => ?_)
    · skip
      refine i_const dX9_copy_154 ?_
      refine r_istore dX9_copy_155 (Nat.le_of_ble_eq_true rfl) ?_
      exact m_copy_2 M hw s i t j n s0 t0 i0 j0 n0 hin hjn n.toNat 0 σ (by omega) (by rw [rng_0]; exact c) (fun q hq => hm q (by omega))
    · exfalso
      omega
  | succ m ih =>
    intro k σ hk c hm
    refine r_iload dX9_copy_120 rfl ?_
    refine r_iload dX9_copy_122 rfl ?_
    refine i_icmp_ge 154 dX9_copy_124 rfl ⟨by omega, by omega⟩ ⟨by omega, by omega⟩ (fun q124 => ?_) (fun q124 => ?_)
    · exfalso
      omega
    · skip
      refine r_aload_n dX9_copy_127 rfl ?_
      refine r_get (k := 0) lfX9_50 dX9_copy_128 (Nat.le_of_ble_eq_true rfl) rfl rfl ?_
      refine r_iload dX9_copy_131 rfl ?_
      refine r_aload_n dX9_copy_133 rfl ?_
      refine r_get (k := 0) lfX9_47 dX9_copy_134 (Nat.le_of_ble_eq_true rfl) rfl rfl ?_
      refine i_bipush dX9_copy_137 (by decide) ?_
      refine r_iload_n dX9_copy_139 rfl ?_
      refine i_imul dX9_copy_140 ?_
      refine r_iload_n dX9_copy_141 rfl ?_
      refine i_iadd dX9_copy_142 ?_
      refine r_iload dX9_copy_143 rfl ?_
      refine i_iadd dX9_copy_145 ?_
      refine i_ald (k := 13) dX9_copy_146 (Nat.le_of_ble_eq_true rfl) rfl rfl ⟨by omega, by omega⟩ (by decide) ?_
      rw [c.1 13 _ (by decide), show (48 * s + i + (k : Int)).toNat = 48 * s.toNat + i.toNat + k by omega]
      refine i_ast (k := 14) dX9_copy_147 (Nat.le_of_ble_eq_true rfl) rfl rfl ⟨by omega, by omega⟩ (by decide) ?_
      refine i_iinc dX9_copy_148 rfl (Nat.le_of_ble_eq_true rfl) ?_
      refine r_goto 120 dX9_copy_151 rfl ?_
      rw [show ((k : Int)).toNat = k from rfl, show (k : Int) + 1 = ((k + 1 : Nat) : Int) by omega]
      refine ih (k + 1) _ (by omega) (im_scr c (fun a b g3 g4 g7 g14 g0 => sup_k _ _ _ _ _ g14)) (fun q hq => ?_)
      by_cases e : q = k
      · subst e; exact sup_h _ _ _ _
      · rw [sup_i _ _ _ _ e]; exact hm q (by omega)

set_option maxRecDepth 20000 in
theorem m_copy (M σ : rl_S) (c : IM M σ) (hw : WF M) (s i t j n : Int) (hs : -2147483648 ≤ s ∧ s < 2147483648) (hi : -2147483648 ≤ i ∧ i < 2147483648) (ht : -2147483648 ≤ t ∧ t < 2147483648) (hj : -2147483648 ≤ j ∧ j < 2147483648) (hn : -2147483648 ≤ n ∧ n < 2147483648) : Ct mW mX9_copy [.ref 0, .int (iI s), .int (iI i), .int (iI t), .int (iI j), .int (iI n)] σ (qI (fun z σ' => z = (s_copy M s i t j n).1 ∧ IM (s_copy M s i t j n).2 σ')) := by
  refine Ct.of plX9 (Nat.le_of_ble_eq_true rfl) ?_
  have ob1 := ob_bd (decide (0 ≤ s ∧ s ≤ 3))
  have ob2 := ob_bd (decide (0 ≤ t ∧ t ≤ 3))
  have cm1 := cmp_bd (i + n) (M 12 s.toNat)
  have cm2 := cmp_bd (j + n) (M 12 t.toNat)
  have hc2 : ∀ a b : Int, cmp a b ≤ 0 ↔ ¬ b < a := by
    intro a b
    unfold cmp
    by_cases h1 : b < a
    · rw [if_pos h1]; omega
    · rw [if_neg h1]; split <;> omega
  have cm3 := hc2 (i + n) (M 12 s.toNat)
  have cm4 := hc2 (j + n) (M 12 t.toNat)
  refine r_iload_n dX9_copy_0 rfl ?_
  refine i_csP (m_isSheet _ s hs) lmX9_209 dX9_copy_1 (by decide) (by decide) rfl rfl (Nat.le_of_ble_eq_true rfl) ?_
  refine i_if_eq 14 dX9_copy_4 rfl (ob_i32 _) (fun q4 => ?_) (fun q4 => ?_)
  · have e4 := ob_df q4
    refine i_bipush dX9_copy_14 (by decide) ?_
    refine r_iret rfl dX9_copy_16 ?_
    first
      | (exfalso; omega)
      | (have e : s_copy M s i t j n = (-2, M) := by unfold s_copy; rw [if_neg (by omega)]
         exact ⟨_, rfl, by rw [e], by rw [e]; exact c⟩)
      | (have e : s_copy M s i t j n = (-11, sup M 0 21 1) := by unfold s_copy; rw [if_pos (by omega), if_pos (by omega)]
         exact ⟨_, rfl, by rw [hm.1, e]; rfl, by rw [hm.2, e]; exact im_sup c _ _ _⟩)
      | (have e : s_copy M s i t j n = (-14, sup M 0 21 4) := by unfold s_copy; rw [if_pos (by omega), if_neg (by omega), if_pos (by omega)]
         exact ⟨_, rfl, by rw [hm.1, e]; rfl, by rw [hm.2, e]; exact im_sup c _ _ _⟩)
      | (have e : s_copy M s i t j n = (-12, sup M 0 21 2) := by unfold s_copy; rw [if_pos (by omega), if_neg (by omega), if_neg (by omega), if_neg (by omega)]
         exact ⟨_, rfl, by rw [hm.1, e]; rfl, by rw [hm.2, e]; exact im_sup c _ _ _⟩)
  · have e4 := ob_dt q4
    refine r_iload_n dX9_copy_7 rfl ?_
    refine i_csP (m_isSheet _ t ht) lmX9_209 dX9_copy_8 (by decide) (by decide) rfl rfl (Nat.le_of_ble_eq_true rfl) ?_
    refine i_if_ne 17 dX9_copy_11 rfl (ob_i32 _) (fun q11 => ?_) (fun q11 => ?_)
    · have e11 := ob_dt q11
      have sh := wf_sh hw s.toNat (by omega)
      have sh2 := wf_sh hw t.toNat (by omega)
      refine r_aload_n dX9_copy_17 rfl ?_
      refine r_get (k := 0) lfX9_37 dX9_copy_18 (Nat.le_of_ble_eq_true rfl) rfl rfl ?_
      refine r_iload_n dX9_copy_21 rfl ?_
      refine i_zld (k := 10) dX9_copy_22 (Nat.le_of_ble_eq_true rfl) rfl rfl ⟨by omega, by omega⟩ (by decide) ?_
      rw [c.1 10 _ (by decide)]
      refine i_if_eq 35 dX9_copy_23 rfl ⟨by omega, by omega⟩ (fun q23 => ?_) (fun q23 => ?_)
      · skip
        refine r_aload_n dX9_copy_35 rfl ?_
        refine i_const dX9_copy_36 ?_
        refine i_cvI (m_meets σ 1) lmX9_212 dX9_copy_37 (Nat.le_of_ble_eq_true rfl) rfl ⟨_, _, rfl⟩ (by decide) (by decide) rfl rfl (Nat.le_of_ble_eq_true rfl) (fun z1 σ1 hm => ?_)
        refine r_iret rfl dX9_copy_40 ?_
        first
          | (exfalso; omega)
          | (have e : s_copy M s i t j n = (-2, M) := by unfold s_copy; rw [if_neg (by omega)]
             exact ⟨_, rfl, by rw [e], by rw [e]; exact c⟩)
          | (have e : s_copy M s i t j n = (-11, sup M 0 21 1) := by unfold s_copy; rw [if_pos (by omega), if_pos (by omega)]
             exact ⟨_, rfl, by rw [hm.1, e]; rfl, by rw [hm.2, e]; exact im_sup c _ _ _⟩)
          | (have e : s_copy M s i t j n = (-14, sup M 0 21 4) := by unfold s_copy; rw [if_pos (by omega), if_neg (by omega), if_pos (by omega)]
             exact ⟨_, rfl, by rw [hm.1, e]; rfl, by rw [hm.2, e]; exact im_sup c _ _ _⟩)
          | (have e : s_copy M s i t j n = (-12, sup M 0 21 2) := by unfold s_copy; rw [if_pos (by omega), if_neg (by omega), if_neg (by omega), if_neg (by omega)]
             exact ⟨_, rfl, by rw [hm.1, e]; rfl, by rw [hm.2, e]; exact im_sup c _ _ _⟩)
      · skip
        refine r_aload_n dX9_copy_26 rfl ?_
        refine r_get (k := 0) lfX9_37 dX9_copy_27 (Nat.le_of_ble_eq_true rfl) rfl rfl ?_
        refine r_iload_n dX9_copy_30 rfl ?_
        refine i_zld (k := 10) dX9_copy_31 (Nat.le_of_ble_eq_true rfl) rfl rfl ⟨by omega, by omega⟩ (by decide) ?_
        rw [c.1 10 _ (by decide)]
        refine i_if_ne 41 dX9_copy_32 rfl ⟨by omega, by omega⟩ (fun q32 => ?_) (fun q32 => ?_)
        · skip
          refine r_aload_n dX9_copy_41 rfl ?_
          refine r_get (k := 0) lfX9_41 dX9_copy_42 (Nat.le_of_ble_eq_true rfl) rfl rfl ?_
          refine r_iload_n dX9_copy_45 rfl ?_
          refine i_ald (k := 11) dX9_copy_46 (Nat.le_of_ble_eq_true rfl) rfl rfl ⟨by omega, by omega⟩ (by decide) ?_
          rw [c.1 11 _ (by decide)]
          refine r_aload_n dX9_copy_47 rfl ?_
          refine r_get (k := 0) lfX9_41 dX9_copy_48 (Nat.le_of_ble_eq_true rfl) rfl rfl ?_
          refine r_iload_n dX9_copy_51 rfl ?_
          refine i_ald (k := 11) dX9_copy_52 (Nat.le_of_ble_eq_true rfl) rfl rfl ⟨by omega, by omega⟩ (by decide) ?_
          rw [c.1 11 _ (by decide)]
          refine i_icmp_eq 62 dX9_copy_53 rfl ⟨by omega, by omega⟩ ⟨by omega, by omega⟩ (fun q53 => ?_) (fun q53 => ?_)
          · skip
            refine r_iload_n dX9_copy_62 rfl ?_
            refine i_if_lt 111 dX9_copy_63 rfl ⟨by omega, by omega⟩ (fun q63 => ?_) (fun q63 => ?_)
            · skip
              refine r_aload_n dX9_copy_111 rfl ?_
              refine i_const dX9_copy_112 ?_
              refine i_cvI (m_meets σ 2) lmX9_212 dX9_copy_113 (Nat.le_of_ble_eq_true rfl) rfl ⟨_, _, rfl⟩ (by decide) (by decide) rfl rfl (Nat.le_of_ble_eq_true rfl) (fun z1 σ1 hm => ?_)
              refine r_iret rfl dX9_copy_116 ?_
              first
                | (exfalso; omega)
                | (have e : s_copy M s i t j n = (-2, M) := by unfold s_copy; rw [if_neg (by omega)]
                   exact ⟨_, rfl, by rw [e], by rw [e]; exact c⟩)
                | (have e : s_copy M s i t j n = (-11, sup M 0 21 1) := by unfold s_copy; rw [if_pos (by omega), if_pos (by omega)]
                   exact ⟨_, rfl, by rw [hm.1, e]; rfl, by rw [hm.2, e]; exact im_sup c _ _ _⟩)
                | (have e : s_copy M s i t j n = (-14, sup M 0 21 4) := by unfold s_copy; rw [if_pos (by omega), if_neg (by omega), if_pos (by omega)]
                   exact ⟨_, rfl, by rw [hm.1, e]; rfl, by rw [hm.2, e]; exact im_sup c _ _ _⟩)
                | (have e : s_copy M s i t j n = (-12, sup M 0 21 2) := by unfold s_copy; rw [if_pos (by omega), if_neg (by omega), if_neg (by omega), if_neg (by omega)]
                   exact ⟨_, rfl, by rw [hm.1, e]; rfl, by rw [hm.2, e]; exact im_sup c _ _ _⟩)
            · skip
              refine r_iload dX9_copy_66 rfl ?_
              refine i_if_lt 111 dX9_copy_68 rfl ⟨by omega, by omega⟩ (fun q68 => ?_) (fun q68 => ?_)
              · skip
                refine r_aload_n dX9_copy_111 rfl ?_
                refine i_const dX9_copy_112 ?_
                refine i_cvI (m_meets σ 2) lmX9_212 dX9_copy_113 (Nat.le_of_ble_eq_true rfl) rfl ⟨_, _, rfl⟩ (by decide) (by decide) rfl rfl (Nat.le_of_ble_eq_true rfl) (fun z1 σ1 hm => ?_)
                refine r_iret rfl dX9_copy_116 ?_
                first
                  | (exfalso; omega)
                  | (have e : s_copy M s i t j n = (-2, M) := by unfold s_copy; rw [if_neg (by omega)]
                     exact ⟨_, rfl, by rw [e], by rw [e]; exact c⟩)
                  | (have e : s_copy M s i t j n = (-11, sup M 0 21 1) := by unfold s_copy; rw [if_pos (by omega), if_pos (by omega)]
                     exact ⟨_, rfl, by rw [hm.1, e]; rfl, by rw [hm.2, e]; exact im_sup c _ _ _⟩)
                  | (have e : s_copy M s i t j n = (-14, sup M 0 21 4) := by unfold s_copy; rw [if_pos (by omega), if_neg (by omega), if_pos (by omega)]
                     exact ⟨_, rfl, by rw [hm.1, e]; rfl, by rw [hm.2, e]; exact im_sup c _ _ _⟩)
                  | (have e : s_copy M s i t j n = (-12, sup M 0 21 2) := by unfold s_copy; rw [if_pos (by omega), if_neg (by omega), if_neg (by omega), if_neg (by omega)]
                     exact ⟨_, rfl, by rw [hm.1, e]; rfl, by rw [hm.2, e]; exact im_sup c _ _ _⟩)
              · skip
                refine r_iload dX9_copy_71 rfl ?_
                refine i_if_lt 111 dX9_copy_73 rfl ⟨by omega, by omega⟩ (fun q73 => ?_) (fun q73 => ?_)
                · skip
                  refine r_aload_n dX9_copy_111 rfl ?_
                  refine i_const dX9_copy_112 ?_
                  refine i_cvI (m_meets σ 2) lmX9_212 dX9_copy_113 (Nat.le_of_ble_eq_true rfl) rfl ⟨_, _, rfl⟩ (by decide) (by decide) rfl rfl (Nat.le_of_ble_eq_true rfl) (fun z1 σ1 hm => ?_)
                  refine r_iret rfl dX9_copy_116 ?_
                  first
                    | (exfalso; omega)
                    | (have e : s_copy M s i t j n = (-2, M) := by unfold s_copy; rw [if_neg (by omega)]
                       exact ⟨_, rfl, by rw [e], by rw [e]; exact c⟩)
                    | (have e : s_copy M s i t j n = (-11, sup M 0 21 1) := by unfold s_copy; rw [if_pos (by omega), if_pos (by omega)]
                       exact ⟨_, rfl, by rw [hm.1, e]; rfl, by rw [hm.2, e]; exact im_sup c _ _ _⟩)
                    | (have e : s_copy M s i t j n = (-14, sup M 0 21 4) := by unfold s_copy; rw [if_pos (by omega), if_neg (by omega), if_pos (by omega)]
                       exact ⟨_, rfl, by rw [hm.1, e]; rfl, by rw [hm.2, e]; exact im_sup c _ _ _⟩)
                    | (have e : s_copy M s i t j n = (-12, sup M 0 21 2) := by unfold s_copy; rw [if_pos (by omega), if_neg (by omega), if_neg (by omega), if_neg (by omega)]
                       exact ⟨_, rfl, by rw [hm.1, e]; rfl, by rw [hm.2, e]; exact im_sup c _ _ _⟩)
                · skip
                  refine r_iload_n dX9_copy_76 rfl ?_
                  refine l_i2l dX9_copy_77 ⟨by omega, by omega⟩ ?_
                  refine r_iload dX9_copy_78 rfl ?_
                  refine l_i2l dX9_copy_80 ⟨by omega, by omega⟩ ?_
                  refine r_ladd dX9_copy_81 ?_
                  rw [lI_add]
                  refine r_aload_n dX9_copy_82 rfl ?_
                  refine r_get (k := 0) lfX9_44 dX9_copy_83 (Nat.le_of_ble_eq_true rfl) rfl rfl ?_
                  refine r_iload_n dX9_copy_86 rfl ?_
                  refine i_ald (k := 12) dX9_copy_87 (Nat.le_of_ble_eq_true rfl) rfl rfl ⟨by omega, by omega⟩ (by decide) ?_
                  rw [c.1 12 _ (by decide)]
                  refine l_i2l dX9_copy_88 ⟨by omega, by omega⟩ ?_
                  refine l_cmp dX9_copy_89 ⟨by omega, by omega⟩ ⟨by omega, by omega⟩ ?_
                  refine i_if_gt 111 dX9_copy_90 rfl ⟨by omega, by omega⟩ (fun q90 => ?_) (fun q90 => ?_)
                  · skip
                    refine r_aload_n dX9_copy_111 rfl ?_
                    refine i_const dX9_copy_112 ?_
                    refine i_cvI (m_meets σ 2) lmX9_212 dX9_copy_113 (Nat.le_of_ble_eq_true rfl) rfl ⟨_, _, rfl⟩ (by decide) (by decide) rfl rfl (Nat.le_of_ble_eq_true rfl) (fun z1 σ1 hm => ?_)
                    refine r_iret rfl dX9_copy_116 ?_
                    first
                      | (exfalso; omega)
                      | (have e : s_copy M s i t j n = (-2, M) := by unfold s_copy; rw [if_neg (by omega)]
                         exact ⟨_, rfl, by rw [e], by rw [e]; exact c⟩)
                      | (have e : s_copy M s i t j n = (-11, sup M 0 21 1) := by unfold s_copy; rw [if_pos (by omega), if_pos (by omega)]
                         exact ⟨_, rfl, by rw [hm.1, e]; rfl, by rw [hm.2, e]; exact im_sup c _ _ _⟩)
                      | (have e : s_copy M s i t j n = (-14, sup M 0 21 4) := by unfold s_copy; rw [if_pos (by omega), if_neg (by omega), if_pos (by omega)]
                         exact ⟨_, rfl, by rw [hm.1, e]; rfl, by rw [hm.2, e]; exact im_sup c _ _ _⟩)
                      | (have e : s_copy M s i t j n = (-12, sup M 0 21 2) := by unfold s_copy; rw [if_pos (by omega), if_neg (by omega), if_neg (by omega), if_neg (by omega)]
                         exact ⟨_, rfl, by rw [hm.1, e]; rfl, by rw [hm.2, e]; exact im_sup c _ _ _⟩)
                  · skip
                    refine r_iload dX9_copy_93 rfl ?_
                    refine l_i2l dX9_copy_95 ⟨by omega, by omega⟩ ?_
                    refine r_iload dX9_copy_96 rfl ?_
                    refine l_i2l dX9_copy_98 ⟨by omega, by omega⟩ ?_
                    refine r_ladd dX9_copy_99 ?_
                    rw [lI_add]
                    refine r_aload_n dX9_copy_100 rfl ?_
                    refine r_get (k := 0) lfX9_44 dX9_copy_101 (Nat.le_of_ble_eq_true rfl) rfl rfl ?_
                    refine r_iload_n dX9_copy_104 rfl ?_
                    refine i_ald (k := 12) dX9_copy_105 (Nat.le_of_ble_eq_true rfl) rfl rfl ⟨by omega, by omega⟩ (by decide) ?_
                    rw [c.1 12 _ (by decide)]
                    refine l_i2l dX9_copy_106 ⟨by omega, by omega⟩ ?_
                    refine l_cmp dX9_copy_107 ⟨by omega, by omega⟩ ⟨by omega, by omega⟩ ?_
                    refine i_if_le 117 dX9_copy_108 rfl ⟨by omega, by omega⟩ (fun q108 => ?_) (fun q108 => ?_)
                    · skip
                      refine i_const dX9_copy_117 ?_
                      refine r_istore dX9_copy_118 (Nat.le_of_ble_eq_true rfl) ?_
                      have e : s_copy M s i t j n = (1, rngM M (48 * t.toNat + j.toNat) n.toNat (fun k => M 13 (48 * s.toNat + i.toNat + k))) := by unfold s_copy; rw [if_pos (by omega), if_neg (by omega), if_neg (by omega), if_pos (by omega)]
                      rw [e]
                      dsimp only
                      exact m_copy_1 M hw s i t j n (by omega) (by omega) (by omega) (by omega) (by omega) (by omega) (by omega) n.toNat 0 σ (by omega) c (fun q hq => absurd hq (by omega))
                    · skip
                      refine r_aload_n dX9_copy_111 rfl ?_
                      refine i_const dX9_copy_112 ?_
                      refine i_cvI (m_meets σ 2) lmX9_212 dX9_copy_113 (Nat.le_of_ble_eq_true rfl) rfl ⟨_, _, rfl⟩ (by decide) (by decide) rfl rfl (Nat.le_of_ble_eq_true rfl) (fun z1 σ1 hm => ?_)
                      refine r_iret rfl dX9_copy_116 ?_
                      first
                        | (exfalso; omega)
                        | (have e : s_copy M s i t j n = (-2, M) := by unfold s_copy; rw [if_neg (by omega)]
                           exact ⟨_, rfl, by rw [e], by rw [e]; exact c⟩)
                        | (have e : s_copy M s i t j n = (-11, sup M 0 21 1) := by unfold s_copy; rw [if_pos (by omega), if_pos (by omega)]
                           exact ⟨_, rfl, by rw [hm.1, e]; rfl, by rw [hm.2, e]; exact im_sup c _ _ _⟩)
                        | (have e : s_copy M s i t j n = (-14, sup M 0 21 4) := by unfold s_copy; rw [if_pos (by omega), if_neg (by omega), if_pos (by omega)]
                           exact ⟨_, rfl, by rw [hm.1, e]; rfl, by rw [hm.2, e]; exact im_sup c _ _ _⟩)
                        | (have e : s_copy M s i t j n = (-12, sup M 0 21 2) := by unfold s_copy; rw [if_pos (by omega), if_neg (by omega), if_neg (by omega), if_neg (by omega)]
                           exact ⟨_, rfl, by rw [hm.1, e]; rfl, by rw [hm.2, e]; exact im_sup c _ _ _⟩)
          · skip
            refine r_aload_n dX9_copy_56 rfl ?_
            refine i_const dX9_copy_57 ?_
            refine i_cvI (m_meets σ 4) lmX9_212 dX9_copy_58 (Nat.le_of_ble_eq_true rfl) rfl ⟨_, _, rfl⟩ (by decide) (by decide) rfl rfl (Nat.le_of_ble_eq_true rfl) (fun z1 σ1 hm => ?_)
            refine r_iret rfl dX9_copy_61 ?_
            first
              | (exfalso; omega)
              | (have e : s_copy M s i t j n = (-2, M) := by unfold s_copy; rw [if_neg (by omega)]
                 exact ⟨_, rfl, by rw [e], by rw [e]; exact c⟩)
              | (have e : s_copy M s i t j n = (-11, sup M 0 21 1) := by unfold s_copy; rw [if_pos (by omega), if_pos (by omega)]
                 exact ⟨_, rfl, by rw [hm.1, e]; rfl, by rw [hm.2, e]; exact im_sup c _ _ _⟩)
              | (have e : s_copy M s i t j n = (-14, sup M 0 21 4) := by unfold s_copy; rw [if_pos (by omega), if_neg (by omega), if_pos (by omega)]
                 exact ⟨_, rfl, by rw [hm.1, e]; rfl, by rw [hm.2, e]; exact im_sup c _ _ _⟩)
              | (have e : s_copy M s i t j n = (-12, sup M 0 21 2) := by unfold s_copy; rw [if_pos (by omega), if_neg (by omega), if_neg (by omega), if_neg (by omega)]
                 exact ⟨_, rfl, by rw [hm.1, e]; rfl, by rw [hm.2, e]; exact im_sup c _ _ _⟩)
        · skip
          refine r_aload_n dX9_copy_35 rfl ?_
          refine i_const dX9_copy_36 ?_
          refine i_cvI (m_meets σ 1) lmX9_212 dX9_copy_37 (Nat.le_of_ble_eq_true rfl) rfl ⟨_, _, rfl⟩ (by decide) (by decide) rfl rfl (Nat.le_of_ble_eq_true rfl) (fun z1 σ1 hm => ?_)
          refine r_iret rfl dX9_copy_40 ?_
          first
            | (exfalso; omega)
            | (have e : s_copy M s i t j n = (-2, M) := by unfold s_copy; rw [if_neg (by omega)]
               exact ⟨_, rfl, by rw [e], by rw [e]; exact c⟩)
            | (have e : s_copy M s i t j n = (-11, sup M 0 21 1) := by unfold s_copy; rw [if_pos (by omega), if_pos (by omega)]
               exact ⟨_, rfl, by rw [hm.1, e]; rfl, by rw [hm.2, e]; exact im_sup c _ _ _⟩)
            | (have e : s_copy M s i t j n = (-14, sup M 0 21 4) := by unfold s_copy; rw [if_pos (by omega), if_neg (by omega), if_pos (by omega)]
               exact ⟨_, rfl, by rw [hm.1, e]; rfl, by rw [hm.2, e]; exact im_sup c _ _ _⟩)
            | (have e : s_copy M s i t j n = (-12, sup M 0 21 2) := by unfold s_copy; rw [if_pos (by omega), if_neg (by omega), if_neg (by omega), if_neg (by omega)]
               exact ⟨_, rfl, by rw [hm.1, e]; rfl, by rw [hm.2, e]; exact im_sup c _ _ _⟩)
    · have e11 := ob_df q11
      refine i_bipush dX9_copy_14 (by decide) ?_
      refine r_iret rfl dX9_copy_16 ?_
      first
        | (exfalso; omega)
        | (have e : s_copy M s i t j n = (-2, M) := by unfold s_copy; rw [if_neg (by omega)]
           exact ⟨_, rfl, by rw [e], by rw [e]; exact c⟩)
        | (have e : s_copy M s i t j n = (-11, sup M 0 21 1) := by unfold s_copy; rw [if_pos (by omega), if_pos (by omega)]
           exact ⟨_, rfl, by rw [hm.1, e]; rfl, by rw [hm.2, e]; exact im_sup c _ _ _⟩)
        | (have e : s_copy M s i t j n = (-14, sup M 0 21 4) := by unfold s_copy; rw [if_pos (by omega), if_neg (by omega), if_pos (by omega)]
           exact ⟨_, rfl, by rw [hm.1, e]; rfl, by rw [hm.2, e]; exact im_sup c _ _ _⟩)
        | (have e : s_copy M s i t j n = (-12, sup M 0 21 2) := by unfold s_copy; rw [if_pos (by omega), if_neg (by omega), if_neg (by omega), if_neg (by omega)]
           exact ⟨_, rfl, by rw [hm.1, e]; rfl, by rw [hm.2, e]; exact im_sup c _ _ _⟩)

theorem m_write_l (M : rl_S) (hw : WF M) (t s : Int) (t0 : 0 ≤ t ∧ t ≤ 399) (s0 : 0 ≤ s ∧ s ≤ 3) (N : Int) (hN : N = min (M 12 s.toNat) (400 - t)) : ∀ (m : Nat) (k : Nat) (σ : rl_S), (k : Int) + m = N → IM (rngM M (48 * s.toNat) k (fun k => nar (M 11 s.toNat) (hi M (t + k)))) σ → SM σ (hi M) → Rn mW mX9_write 38 [.ref 0, .int (iI t), .int (iI s), .int (iI (k : Int))] [] σ (qI (fun z σ' => z = N ∧ IM (rngM M (48 * s.toNat) N.toNat (fun k => nar (M 11 s.toNat) (hi M (t + k)))) σ')) := by
  intro m
  have sh := wf_sh hw s.toNat (by omega)
  have er : ∀ k j : Nat, j ≠ 13 → rngM M (48 * s.toNat) k (fun k => nar (M 11 s.toNat) (hi M (t + k))) j = M j := fun k j hj => by
    funext q; unfold rngM; rw [if_neg hj]
  induction m with
  | zero =>
    intro k σ hk c hm
    have e12 : σ 12 s.toNat = M 12 s.toNat := (c.1 12 _ (by decide)).trans (by rw [er k 12 (by decide)])
    rw [show N.toNat = k by omega]
    refine r_iload_n dX9_write_38 rfl ?_
    refine r_aload_n dX9_write_39 rfl ?_
    refine r_get (k := 0) lfX9_44 dX9_write_40 (Nat.le_of_ble_eq_true rfl) rfl rfl ?_
    refine r_iload_n dX9_write_43 rfl ?_
    refine i_ald (k := 12) dX9_write_44 (Nat.le_of_ble_eq_true rfl) rfl rfl ⟨by omega, by omega⟩ (by decide) ?_
    rw [e12]
    refine i_icmp_ge 77 dX9_write_45 rfl ⟨by omega, by omega⟩ ⟨by omega, by omega⟩ (fun q45 => ?_) (fun q45 => ?_)
    · skip
      refine r_iload_n dX9_write_77 rfl ?_
      refine r_iret rfl dX9_write_78 ?_
      exact ⟨_, rfl, by omega, c⟩
    · skip
      refine r_iload_n dX9_write_48 rfl ?_
      refine r_iload_n dX9_write_49 rfl ?_
      refine i_iadd dX9_write_50 ?_
      refine i_sipush dX9_write_51 (by decide) ?_
      refine i_icmp_ge 77 dX9_write_54 rfl ⟨by omega, by omega⟩ ⟨by omega, by omega⟩ (fun q54 => ?_) (fun q54 => ?_)
      · skip
        refine r_iload_n dX9_write_77 rfl ?_
        refine r_iret rfl dX9_write_78 ?_
        exact ⟨_, rfl, by omega, c⟩
      · exfalso
        omega
  | succ m ih =>
    intro k σ hk c hm
    have e12 : σ 12 s.toNat = M 12 s.toNat := (c.1 12 _ (by decide)).trans (by rw [er k 12 (by decide)])
    have e11 : σ 11 s.toNat = M 11 s.toNat := (c.1 11 _ (by decide)).trans (by rw [er k 11 (by decide)])
    refine r_iload_n dX9_write_38 rfl ?_
    refine r_aload_n dX9_write_39 rfl ?_
    refine r_get (k := 0) lfX9_44 dX9_write_40 (Nat.le_of_ble_eq_true rfl) rfl rfl ?_
    refine r_iload_n dX9_write_43 rfl ?_
    refine i_ald (k := 12) dX9_write_44 (Nat.le_of_ble_eq_true rfl) rfl rfl ⟨by omega, by omega⟩ (by decide) ?_
    rw [e12]
    refine i_icmp_ge 77 dX9_write_45 rfl ⟨by omega, by omega⟩ ⟨by omega, by omega⟩ (fun q45 => ?_) (fun q45 => ?_)
    · exfalso
      omega
    · skip
      refine r_iload_n dX9_write_48 rfl ?_
      refine r_iload_n dX9_write_49 rfl ?_
      refine i_iadd dX9_write_50 ?_
      refine i_sipush dX9_write_51 (by decide) ?_
      refine i_icmp_ge 77 dX9_write_54 rfl ⟨by omega, by omega⟩ ⟨by omega, by omega⟩ (fun q54 => ?_) (fun q54 => ?_)
      · exfalso
        omega
      · skip
        refine r_aload_n dX9_write_57 rfl ?_
        refine r_iload_n dX9_write_58 rfl ?_
        refine r_iload_n dX9_write_59 rfl ?_
        refine r_aload_n dX9_write_60 rfl ?_
        refine r_get (k := 0) lfX9_28 dX9_write_61 (Nat.le_of_ble_eq_true rfl) rfl rfl ?_
        refine r_iload_n dX9_write_64 rfl ?_
        refine r_iload_n dX9_write_65 rfl ?_
        refine i_iadd dX9_write_66 ?_
        refine i_ald (k := 7) dX9_write_67 (Nat.le_of_ble_eq_true rfl) rfl rfl ⟨by omega, by omega⟩ (by decide) ?_
        rw [hm (t + k) (by omega) (by omega)]
        refine i_cvV (m_keep σ s (k : Int) (hi M (t + k)) s0 (by omega) (by rw [e11]; exact sh.2.1)) lmX9_237 dX9_write_68 (Nat.le_of_ble_eq_true rfl) rfl ⟨_, _, rfl⟩ (by decide) (by decide) rfl rfl (Nat.le_of_ble_eq_true rfl) (fun σ1 hk2 => ?_)
        refine i_iinc dX9_write_71 rfl (Nat.le_of_ble_eq_true rfl) ?_
        refine r_goto 38 dX9_write_74 rfl ?_
        rw [show ((k : Int)).toNat = k from rfl, e11] at hk2
        subst hk2
        rw [show (k : Int) + 1 = ((k + 1 : Nat) : Int) by omega]
        refine ih (k + 1) _ (by omega) ?_ (fun z z0 z1 => (sup_k _ _ _ _ _ (by decide)).trans (hm z z0 z1))
        rw [← rng_up]
        exact im_sup c _ _ _

set_option maxRecDepth 20000 in
theorem m_write (M σ : rl_S) (c : IM M σ) (hw : WF M) (t s : Int) (ht : -2147483648 ≤ t ∧ t < 2147483648) (hs : -2147483648 ≤ s ∧ s < 2147483648) : Ct mW mX9_write [.ref 0, .int (iI t), .int (iI s)] σ (qI (fun z σ' => z = (s_write M t s).1 ∧ IM (s_write M t s).2 σ')) := by
  refine Ct.of plX9 (Nat.le_of_ble_eq_true rfl) ?_
  have ob1 := ob_bd (decide (0 ≤ t ∧ t ≤ 399))
  have ob2 := ob_bd (decide (0 ≤ s ∧ s ≤ 3))
  refine r_iload_n dX9_write_0 rfl ?_
  refine i_csP (m_isTenth _ t ht) lmX9_90 dX9_write_1 (by decide) (by decide) rfl rfl (Nat.le_of_ble_eq_true rfl) ?_
  refine i_if_eq 14 dX9_write_4 rfl (ob_i32 _) (fun q4 => ?_) (fun q4 => ?_)
  · have e4 := ob_df q4
    refine i_bipush dX9_write_14 (by decide) ?_
    refine r_iret rfl dX9_write_16 ?_
    first
      | (exfalso; omega)
      | (have e : s_write M t s = (-11, sup M 0 21 1) := by unfold s_write; rw [if_pos (by omega), if_pos (by omega)]
         exact ⟨_, rfl, by rw [hm.1, e]; rfl, by rw [hm.2, e]; exact im_sup c _ _ _⟩)
      | (have e : s_write M t s = (-2, M) := by unfold s_write; rw [if_neg (by omega)]
         exact ⟨_, rfl, by rw [e], by rw [e]; exact c⟩)
  · have e4 := ob_dt q4
    refine r_iload_n dX9_write_7 rfl ?_
    refine i_csP (m_isSheet _ s hs) lmX9_209 dX9_write_8 (by decide) (by decide) rfl rfl (Nat.le_of_ble_eq_true rfl) ?_
    refine i_if_ne 17 dX9_write_11 rfl (ob_i32 _) (fun q11 => ?_) (fun q11 => ?_)
    · have e11 := ob_dt q11
      have sh := wf_sh hw s.toNat (by omega)
      refine r_aload_n dX9_write_17 rfl ?_
      refine r_get (k := 0) lfX9_37 dX9_write_18 (Nat.le_of_ble_eq_true rfl) rfl rfl ?_
      refine r_iload_n dX9_write_21 rfl ?_
      refine i_zld (k := 10) dX9_write_22 (Nat.le_of_ble_eq_true rfl) rfl rfl ⟨by omega, by omega⟩ (by decide) ?_
      rw [c.1 10 _ (by decide)]
      refine i_if_ne 32 dX9_write_23 rfl ⟨by omega, by omega⟩ (fun q23 => ?_) (fun q23 => ?_)
      · skip
        refine r_aload_n dX9_write_32 rfl ?_
        refine i_cvV (m_lays M σ c hw) lmX9_117 dX9_write_33 (Nat.le_of_ble_eq_true rfl) rfl ⟨_, _, rfl⟩ (by decide) (by decide) rfl rfl (Nat.le_of_ble_eq_true rfl) (fun σ1 c1 => ?_)
        refine i_const dX9_write_36 ?_
        refine r_istore_n dX9_write_37 (Nat.le_of_ble_eq_true rfl) ?_
        have e : s_write M t s = (wrN M t s, rngM M (48 * s.toNat) (wrN M t s).toNat (fun k => nar (M 11 s.toNat) (hi M (t + k)))) := by unfold s_write; rw [if_pos (by omega), if_neg (by omega)]
        rw [e]
        dsimp only
        have en : wrN M t s = min (M 12 s.toNat) (400 - t) := rfl
        exact m_write_l M hw t s (by omega) (by omega) (wrN M t s) rfl (wrN M t s).toNat 0 σ1 (by omega) (by rw [rng_0]; exact c1.1.1) c1.2
      · skip
        refine r_aload_n dX9_write_26 rfl ?_
        refine i_const dX9_write_27 ?_
        refine i_cvI (m_meets σ 1) lmX9_212 dX9_write_28 (Nat.le_of_ble_eq_true rfl) rfl ⟨_, _, rfl⟩ (by decide) (by decide) rfl rfl (Nat.le_of_ble_eq_true rfl) (fun z1 σ1 hm => ?_)
        refine r_iret rfl dX9_write_31 ?_
        first
          | (exfalso; omega)
          | (have e : s_write M t s = (-11, sup M 0 21 1) := by unfold s_write; rw [if_pos (by omega), if_pos (by omega)]
             exact ⟨_, rfl, by rw [hm.1, e]; rfl, by rw [hm.2, e]; exact im_sup c _ _ _⟩)
          | (have e : s_write M t s = (-2, M) := by unfold s_write; rw [if_neg (by omega)]
             exact ⟨_, rfl, by rw [e], by rw [e]; exact c⟩)
    · have e11 := ob_df q11
      refine i_bipush dX9_write_14 (by decide) ?_
      refine r_iret rfl dX9_write_16 ?_
      first
        | (exfalso; omega)
        | (have e : s_write M t s = (-11, sup M 0 21 1) := by unfold s_write; rw [if_pos (by omega), if_pos (by omega)]
           exact ⟨_, rfl, by rw [hm.1, e]; rfl, by rw [hm.2, e]; exact im_sup c _ _ _⟩)
        | (have e : s_write M t s = (-2, M) := by unfold s_write; rw [if_neg (by omega)]
           exact ⟨_, rfl, by rw [e], by rw [e]; exact c⟩)

theorem seen_no {M : rl_S} (hw : WF M) {t v : Int} (h : (s_seen M t v).1 < 0) : (s_seen M t v).2 = M := by
  have sn := (wf_seen9 hw).1
  unfold s_seen at h ⊢
  split
  · rename_i q
    rw [if_pos q] at h
    split
    · rfl
    · rename_i q2
      rw [if_neg q2] at h
      dsimp only at h
      omega
  · rfl
theorem seen_z {M : rl_S} (hw : WF M) (t v : Int) : (s_seen M t v).1 ≠ 0 ∧ -4 ≤ (s_seen M t v).1 ∧ (s_seen M t v).1 ≤ 9 := by
  have sn := (wf_seen9 hw).1
  unfold s_seen
  split
  · split
    · dsimp only; omega
    · dsimp only; omega
  · dsimp only; omega
theorem seen_k {M : rl_S} (t v : Int) {k : Nat} (hk : 10 ≤ k) : (s_seen M t v).2 k = M k := by
  have e : ∀ (a i : Nat) (x : Int) (S : rl_S), k ≠ a → sup S a i x k = S k := fun a i x S h => by funext j; exact sup_k _ _ _ _ _ h
  unfold s_seen
  split
  · split
    · rfl
    · dsimp only
      rw [e _ _ _ _ (by omega), e _ _ _ _ (by omega), e _ _ _ _ (by omega)]
  · rfl
theorem wf_rd {M : rl_S} (s : Int) : ∀ (n : Nat) (i took : Int) (M1 : rl_S), WF M1 → WF (rd M s n i took M1).2
  | 0, i, took, M1, h => h
  | n + 1, i, took, M1, h => by
    simp only [rd]
    split
    · split
      · exact h
      · exact wf_rd s n (i + 2) (took + 1) _ (wf_sseen h _ _)
    · exact h
theorem wf_read {M : rl_S} (h : WF M) (s : Int) : WF (s_read M s).2 := by
  unfold s_read
  split
  · split
    · exact wf_find h (by decide)
    · exact wf_rd s 25 0 0 M h
  · exact h
theorem m_read_l (M : rl_S) (hw : WF M) (s : Int) (s0 : 0 ≤ s ∧ s ≤ 3) : ∀ (n : Nat) (took : Int) (M1 σ : rl_S), IM M1 σ → WF M1 → (∀ k, 10 ≤ k → M1 k = M k) → 0 ≤ took → took + n = 25 → Rn mW mX9_read 27 [.ref 0, .int (iI s), .int (iI took)] [] σ (qI (fun z σ' => z = (rd M s n (2 * took) took M1).1 ∧ IM (rd M s n (2 * took) took M1).2 σ')) := by
  intro n
  have sh := wf_sh hw s.toNat (by omega)
  induction n with
  | zero =>
    intro took M1 σ c hw1 hk t0 ht
    have e12 : σ 12 s.toNat = M 12 s.toNat := (c.1 12 _ (by decide)).trans (by rw [hk 12 (by decide)])
    refine i_const dX9_read_27 ?_
    refine r_iload_n dX9_read_28 rfl ?_
    refine i_imul dX9_read_29 ?_
    refine i_const dX9_read_30 ?_
    refine i_iadd dX9_read_31 ?_
    refine r_aload_n dX9_read_32 rfl ?_
    refine r_get (k := 0) lfX9_44 dX9_read_33 (Nat.le_of_ble_eq_true rfl) rfl rfl ?_
    refine r_iload_n dX9_read_36 rfl ?_
    refine i_ald (k := 12) dX9_read_37 (Nat.le_of_ble_eq_true rfl) rfl rfl ⟨by omega, by omega⟩ (by decide) ?_
    rw [e12]
    refine i_icmp_ge 82 dX9_read_38 rfl ⟨by omega, by omega⟩ ⟨by omega, by omega⟩ (fun q38 => ?_) (fun q38 => ?_)
    · skip
      refine r_iload_n dX9_read_82 rfl ?_
      refine r_iret rfl dX9_read_83 ?_
      exact ⟨_, rfl, rfl, c⟩
    · exfalso
      omega
  | succ n ih =>
    intro took M1 σ c hw1 hk t0 ht
    have e12 : σ 12 s.toNat = M 12 s.toNat := (c.1 12 _ (by decide)).trans (by rw [hk 12 (by decide)])
    have e13 : ∀ j, σ 13 j = M 13 j := fun j => (c.1 13 j (by decide)).trans (by rw [hk 13 (by decide)])
    have er : rd M s (n + 1) (2 * took) took M1 = if 2 * took + 1 < M 12 s.toNat then (if (s_seen M1 (M 13 (48 * s.toNat + (2 * took).toNat)) (M 13 (48 * s.toNat + (2 * took).toNat + 1))).1 < 0 then (took, M1) else rd M s n (2 * took + 2) (took + 1) (s_seen M1 (M 13 (48 * s.toNat + (2 * took).toNat)) (M 13 (48 * s.toNat + (2 * took).toNat + 1))).2) else (took, M1) := rfl
    refine i_const dX9_read_27 ?_
    refine r_iload_n dX9_read_28 rfl ?_
    refine i_imul dX9_read_29 ?_
    refine i_const dX9_read_30 ?_
    refine i_iadd dX9_read_31 ?_
    refine r_aload_n dX9_read_32 rfl ?_
    refine r_get (k := 0) lfX9_44 dX9_read_33 (Nat.le_of_ble_eq_true rfl) rfl rfl ?_
    refine r_iload_n dX9_read_36 rfl ?_
    refine i_ald (k := 12) dX9_read_37 (Nat.le_of_ble_eq_true rfl) rfl rfl ⟨by omega, by omega⟩ (by decide) ?_
    rw [e12]
    refine i_icmp_ge 82 dX9_read_38 rfl ⟨by omega, by omega⟩ ⟨by omega, by omega⟩ (fun q38 => ?_) (fun q38 => ?_)
    · skip
      refine r_iload_n dX9_read_82 rfl ?_
      refine r_iret rfl dX9_read_83 ?_
      first
        | (have sz := seen_z hw1 (M 13 (48 * s.toNat + (2 * took).toNat)) (M 13 (48 * s.toNat + (2 * took).toNat + 1))
           have sn := seen_no hw1 (show (s_seen M1 (M 13 (48 * s.toNat + (2 * took).toNat)) (M 13 (48 * s.toNat + (2 * took).toNat + 1))).1 < 0 by omega)
           rw [er, if_pos (by omega), if_pos (by omega)]
           exact ⟨_, rfl, rfl, by rw [sn] at hs2; exact hs2⟩)
        | (rw [er, if_neg (by omega)]
           exact ⟨_, rfl, rfl, c⟩)
    · skip
      refine r_aload_n dX9_read_41 rfl ?_
      refine r_aload_n dX9_read_42 rfl ?_
      refine r_get (k := 0) lfX9_47 dX9_read_43 (Nat.le_of_ble_eq_true rfl) rfl rfl ?_
      refine i_bipush dX9_read_46 (by decide) ?_
      refine r_iload_n dX9_read_48 rfl ?_
      refine i_imul dX9_read_49 ?_
      refine i_const dX9_read_50 ?_
      refine r_iload_n dX9_read_51 rfl ?_
      refine i_imul dX9_read_52 ?_
      refine i_iadd dX9_read_53 ?_
      refine i_ald (k := 13) dX9_read_54 (Nat.le_of_ble_eq_true rfl) rfl rfl ⟨by omega, by omega⟩ (by decide) ?_
      have b1 := (sh.2.2.2 (2 * took).toNat (by omega)).2
      have b2 := (sh.2.2.2 ((2 * took).toNat + 1) (by omega)).2
      rw [e13, show (48 * s + 2 * took).toNat = 48 * s.toNat + (2 * took).toNat by omega]
      refine r_aload_n dX9_read_55 rfl ?_
      refine r_get (k := 0) lfX9_47 dX9_read_56 (Nat.le_of_ble_eq_true rfl) rfl rfl ?_
      refine i_bipush dX9_read_59 (by decide) ?_
      refine r_iload_n dX9_read_61 rfl ?_
      refine i_imul dX9_read_62 ?_
      refine i_const dX9_read_63 ?_
      refine r_iload_n dX9_read_64 rfl ?_
      refine i_imul dX9_read_65 ?_
      refine i_iadd dX9_read_66 ?_
      refine i_const dX9_read_67 ?_
      refine i_iadd dX9_read_68 ?_
      refine i_ald (k := 13) dX9_read_69 (Nat.le_of_ble_eq_true rfl) rfl rfl ⟨by omega, by omega⟩ (by decide) ?_
      rw [e13, show (48 * s + 2 * took + 1).toNat = 48 * s.toNat + (2 * took).toNat + 1 by omega]
      refine i_cvI (m_seen M1 σ c hw1 (M 13 (48 * s.toNat + (2 * took).toNat)) (M 13 (48 * s.toNat + (2 * took).toNat + 1)) b1 b2) lmX9_215 dX9_read_70 (Nat.le_of_ble_eq_true rfl) rfl ⟨_, _, rfl⟩ (by decide) (by decide) rfl rfl (Nat.le_of_ble_eq_true rfl) (fun z1 σ1 hs => ?_)
      obtain ⟨rfl, hs2⟩ := hs
      have sz0 := seen_z hw1 (M 13 (48 * s.toNat + (2 * took).toNat)) (M 13 (48 * s.toNat + (2 * took).toNat + 1))
      refine i_if_le 82 dX9_read_73 rfl ⟨by omega, by omega⟩ (fun q73 => ?_) (fun q73 => ?_)
      · skip
        refine r_iload_n dX9_read_82 rfl ?_
        refine r_iret rfl dX9_read_83 ?_
        first
          | (have sz := seen_z hw1 (M 13 (48 * s.toNat + (2 * took).toNat)) (M 13 (48 * s.toNat + (2 * took).toNat + 1))
             have sn := seen_no hw1 (show (s_seen M1 (M 13 (48 * s.toNat + (2 * took).toNat)) (M 13 (48 * s.toNat + (2 * took).toNat + 1))).1 < 0 by omega)
             rw [er, if_pos (by omega), if_pos (by omega)]
             exact ⟨_, rfl, rfl, by rw [sn] at hs2; exact hs2⟩)
          | (rw [er, if_neg (by omega)]
             exact ⟨_, rfl, rfl, c⟩)
      · skip
        refine i_iinc dX9_read_76 rfl (Nat.le_of_ble_eq_true rfl) ?_
        refine r_goto 27 dX9_read_79 rfl ?_
        have sz := seen_z hw1 (M 13 (48 * s.toNat + (2 * took).toNat)) (M 13 (48 * s.toNat + (2 * took).toNat + 1))
        rw [er, if_pos (by omega), if_neg (by omega), show 2 * took + 2 = 2 * (took + 1) by omega]
        exact ih (took + 1) _ σ1 hs2 (wf_sseen hw1 _ _) (fun k h => (seen_k _ _ h).trans (hk k h)) (by omega) (by omega)

set_option maxRecDepth 20000 in
theorem m_read (M σ : rl_S) (c : IM M σ) (hw : WF M) (s : Int) (hs : -2147483648 ≤ s ∧ s < 2147483648) : Ct mW mX9_read [.ref 0, .int (iI s)] σ (qI (fun z σ' => z = (s_read M s).1 ∧ IM (s_read M s).2 σ')) := by
  refine Ct.of plX9 (Nat.le_of_ble_eq_true rfl) ?_
  have ob1 := ob_bd (decide (0 ≤ s ∧ s ≤ 3))
  refine r_iload_n dX9_read_0 rfl ?_
  refine i_csP (m_isSheet _ s hs) lmX9_209 dX9_read_1 (by decide) (by decide) rfl rfl (Nat.le_of_ble_eq_true rfl) ?_
  refine i_if_ne 10 dX9_read_4 rfl (ob_i32 _) (fun q4 => ?_) (fun q4 => ?_)
  · have e4 := ob_dt q4
    have sh := wf_sh hw s.toNat (by omega)
    refine r_aload_n dX9_read_10 rfl ?_
    refine r_get (k := 0) lfX9_37 dX9_read_11 (Nat.le_of_ble_eq_true rfl) rfl rfl ?_
    refine r_iload_n dX9_read_14 rfl ?_
    refine i_zld (k := 10) dX9_read_15 (Nat.le_of_ble_eq_true rfl) rfl rfl ⟨by omega, by omega⟩ (by decide) ?_
    rw [c.1 10 _ (by decide)]
    refine i_if_ne 25 dX9_read_16 rfl ⟨by omega, by omega⟩ (fun q16 => ?_) (fun q16 => ?_)
    · skip
      refine i_const dX9_read_25 ?_
      refine r_istore_n dX9_read_26 (Nat.le_of_ble_eq_true rfl) ?_
      have e : s_read M s = rd M s 25 0 0 M := by unfold s_read; rw [if_pos (by omega), if_neg (by omega)]
      rw [e]
      exact m_read_l M hw s (by omega) 25 0 M σ c hw (fun _ _ => rfl) (by omega) (by omega)
    · skip
      refine r_aload_n dX9_read_19 rfl ?_
      refine i_const dX9_read_20 ?_
      refine i_cvI (m_meets σ 1) lmX9_212 dX9_read_21 (Nat.le_of_ble_eq_true rfl) rfl ⟨_, _, rfl⟩ (by decide) (by decide) rfl rfl (Nat.le_of_ble_eq_true rfl) (fun z1 σ1 hm => ?_)
      refine r_iret rfl dX9_read_24 ?_
      first
        | (exfalso; omega)
        | (have e : s_read M s = (-11, sup M 0 21 1) := by unfold s_read; rw [if_pos (by omega), if_pos (by omega)]
           exact ⟨_, rfl, by rw [hm.1, e]; rfl, by rw [hm.2, e]; exact im_sup c _ _ _⟩)
        | (have e : s_read M s = (-2, M) := by unfold s_read; rw [if_neg (by omega)]
           exact ⟨_, rfl, by rw [e], by rw [e]; exact c⟩)
  · have e4 := ob_df q4
    refine i_bipush dX9_read_7 (by decide) ?_
    refine r_iret rfl dX9_read_9 ?_
    first
      | (exfalso; omega)
      | (have e : s_read M s = (-11, sup M 0 21 1) := by unfold s_read; rw [if_pos (by omega), if_pos (by omega)]
         exact ⟨_, rfl, by rw [hm.1, e]; rfl, by rw [hm.2, e]; exact im_sup c _ _ _⟩)
      | (have e : s_read M s = (-2, M) := by unfold s_read; rw [if_neg (by omega)]
         exact ⟨_, rfl, by rw [e], by rw [e]; exact c⟩)
