/-! counts -/
theorem sm_s (f : Int → Int) (n : Nat) : sm f (n + 1) = sm f n + f n := rfl
set_option maxRecDepth 20000 in
theorem m_sumOf_0 (M σ : rl_S) (c : IM M σ) (hw : WF M)  : Ct mW mX9_sumOf [.ref 0, .int (iI 0)] σ (pH M (nS M)) := by
  refine Ct.of plX9 (Nat.le_of_ble_eq_true rfl) ?_
  have nb := wf_nS hw
  refine r_aload_n dX9_sumOf_0 rfl ?_
  refine i_cvV (m_lays M σ c hw) lmX9_117 dX9_sumOf_1 (Nat.le_of_ble_eq_true rfl) rfl ⟨_, _, rfl⟩ (by decide) (by decide) rfl rfl (Nat.le_of_ble_eq_true rfl) (fun σ1 c1 => ?_)
  refine i_const dX9_sumOf_4 ?_
  refine r_istore_n dX9_sumOf_5 (Nat.le_of_ble_eq_true rfl) ?_
  refine i_const dX9_sumOf_6 ?_
  refine r_istore_n dX9_sumOf_7 (Nat.le_of_ble_eq_true rfl) ?_
  refine r_iload_n dX9_sumOf_8 rfl ?_
  refine r_aload_n dX9_sumOf_9 rfl ?_
  refine r_get (k := 0) lfX9_63 dX9_sumOf_10 (Nat.le_of_ble_eq_true rfl) rfl rfl ?_
  rw [c1.1.2.1]
  refine i_icmp_ge 36 dX9_sumOf_13 rfl ⟨by omega, by omega⟩ ⟨by omega, by omega⟩ (fun q13 => ?_) (fun q13 => ?_)
  · skip
    refine i_const dX9_sumOf_36 ?_
    refine r_istore_n dX9_sumOf_37 (Nat.le_of_ble_eq_true rfl) ?_
    refine r_iload_n dX9_sumOf_38 rfl ?_
    refine i_sipush dX9_sumOf_39 (by decide) ?_
    refine i_icmp_ge 106 dX9_sumOf_42 rfl ⟨by omega, by omega⟩ ⟨by omega, by omega⟩ (fun q42 => ?_) (fun q42 => ?_)
    · exfalso
      omega
    · skip
      refine r_iload_n dX9_sumOf_45 rfl ?_
      refine i_const dX9_sumOf_46 ?_
      refine i_icmp_le 106 dX9_sumOf_47 rfl ⟨by omega, by omega⟩ ⟨by omega, by omega⟩ (fun q47 => ?_) (fun q47 => ?_)
      · skip
        refine r_iload_n dX9_sumOf_106 rfl ?_
        refine i_if_ne 117 dX9_sumOf_107 rfl ⟨by omega, by omega⟩ (fun q107 => ?_) (fun q107 => ?_)
        · exfalso
          omega
        · skip
          refine r_aload_n dX9_sumOf_110 rfl ?_
          refine r_get (k := 0) lfX9_63 dX9_sumOf_111 (Nat.le_of_ble_eq_true rfl) rfl rfl ?_
          rw [c1.1.2.1]
          refine r_goto 118 dX9_sumOf_114 rfl ?_
          refine r_iret rfl dX9_sumOf_118 ?_
          exact ⟨_, rfl, rfl, c1⟩
      · exfalso
        omega
  · skip
    refine r_iload_n dX9_sumOf_16 rfl ?_
    refine i_const dX9_sumOf_17 ?_
    refine i_icmp_ne 36 dX9_sumOf_18 rfl ⟨by omega, by omega⟩ ⟨by omega, by omega⟩ (fun q18 => ?_) (fun q18 => ?_)
    · skip
      refine i_const dX9_sumOf_36 ?_
      refine r_istore_n dX9_sumOf_37 (Nat.le_of_ble_eq_true rfl) ?_
      refine r_iload_n dX9_sumOf_38 rfl ?_
      refine i_sipush dX9_sumOf_39 (by decide) ?_
      refine i_icmp_ge 106 dX9_sumOf_42 rfl ⟨by omega, by omega⟩ ⟨by omega, by omega⟩ (fun q42 => ?_) (fun q42 => ?_)
      · exfalso
        omega
      · skip
        refine r_iload_n dX9_sumOf_45 rfl ?_
        refine i_const dX9_sumOf_46 ?_
        refine i_icmp_le 106 dX9_sumOf_47 rfl ⟨by omega, by omega⟩ ⟨by omega, by omega⟩ (fun q47 => ?_) (fun q47 => ?_)
        · skip
          refine r_iload_n dX9_sumOf_106 rfl ?_
          refine i_if_ne 117 dX9_sumOf_107 rfl ⟨by omega, by omega⟩ (fun q107 => ?_) (fun q107 => ?_)
          · exfalso
            omega
          · skip
            refine r_aload_n dX9_sumOf_110 rfl ?_
            refine r_get (k := 0) lfX9_63 dX9_sumOf_111 (Nat.le_of_ble_eq_true rfl) rfl rfl ?_
            rw [c1.1.2.1]
            refine r_goto 118 dX9_sumOf_114 rfl ?_
            refine r_iret rfl dX9_sumOf_118 ?_
            exact ⟨_, rfl, rfl, c1⟩
        · exfalso
          omega
    · exfalso
      omega

theorem m_sum1_3 (M σ : rl_S) (c : IH M σ) (hw : WF M) : ∀ (n : Nat) (k : Nat) (l4 : Value), (k : Int) + n = nS M → ∀ z, z = sm (hS M) (nS M).toNat → Rn mW mX9_sumOf 8 [.ref 0, .int (iI 3), .int (iI (sm (hS M) k)), .int (iI (k : Int)), l4] [] σ (pH M z) := by
  intro n
  have nb := wf_nS hw
  induction n with
  | zero =>
    intro k l4 hk z hz
    rw [show (nS M).toNat = k by omega] at hz
    refine r_iload_n dX9_sumOf_8 rfl ?_
    refine r_aload_n dX9_sumOf_9 rfl ?_
    refine r_get (k := 0) lfX9_63 dX9_sumOf_10 (Nat.le_of_ble_eq_true rfl) rfl rfl ?_
    rw [c.1.2.1]
    refine i_icmp_ge 36 dX9_sumOf_13 rfl ⟨by omega, by omega⟩ ⟨by omega, by omega⟩ (fun q13 => ?_) (fun q13 => ?_)
    · skip
      refine i_const dX9_sumOf_36 ?_
      refine r_istore_n dX9_sumOf_37 (Nat.le_of_ble_eq_true rfl) ?_
      refine r_iload_n dX9_sumOf_38 rfl ?_
      refine i_sipush dX9_sumOf_39 (by decide) ?_
      refine i_icmp_ge 106 dX9_sumOf_42 rfl ⟨by omega, by omega⟩ ⟨by omega, by omega⟩ (fun q42 => ?_) (fun q42 => ?_)
      · exfalso
        omega
      · skip
        refine r_iload_n dX9_sumOf_45 rfl ?_
        refine i_const dX9_sumOf_46 ?_
        refine i_icmp_le 106 dX9_sumOf_47 rfl ⟨by omega, by omega⟩ ⟨by omega, by omega⟩ (fun q47 => ?_) (fun q47 => ?_)
        · skip
          refine r_iload_n dX9_sumOf_106 rfl ?_
          refine i_if_ne 117 dX9_sumOf_107 rfl ⟨by omega, by omega⟩ (fun q107 => ?_) (fun q107 => ?_)
          · skip
            refine r_iload_n dX9_sumOf_117 rfl ?_
            refine r_iret rfl dX9_sumOf_118 ?_
            exact ⟨_, rfl, by rw [hz], c⟩
          · exfalso
            omega
        · exfalso
          omega
    · exfalso
      omega
  | succ n ih =>
    intro k l4 hk z hz
    have sb := sm_bd (hS_b6 hw) k (by omega)
    refine r_iload_n dX9_sumOf_8 rfl ?_
    refine r_aload_n dX9_sumOf_9 rfl ?_
    refine r_get (k := 0) lfX9_63 dX9_sumOf_10 (Nat.le_of_ble_eq_true rfl) rfl rfl ?_
    rw [c.1.2.1]
    refine i_icmp_ge 36 dX9_sumOf_13 rfl ⟨by omega, by omega⟩ ⟨by omega, by omega⟩ (fun q13 => ?_) (fun q13 => ?_)
    · exfalso
      omega
    · skip
      refine r_iload_n dX9_sumOf_16 rfl ?_
      refine i_const dX9_sumOf_17 ?_
      refine i_icmp_ne 36 dX9_sumOf_18 rfl ⟨by omega, by omega⟩ ⟨by omega, by omega⟩ (fun q18 => ?_) (fun q18 => ?_)
      · exfalso
        omega
      · skip
        refine r_iload_n dX9_sumOf_21 rfl ?_
        refine r_aload_n dX9_sumOf_22 rfl ?_
        refine r_get (k := 0) lfX9_16 dX9_sumOf_23 (Nat.le_of_ble_eq_true rfl) rfl rfl ?_
        refine r_iload_n dX9_sumOf_26 rfl ?_
        refine i_ald (k := 3) dX9_sumOf_27 (Nat.le_of_ble_eq_true rfl) rfl rfl ⟨by omega, by omega⟩ (by decide) ?_
        rw [show ((k : Int)).toNat = k from rfl]
        have hk3 := (c.1.2.2.2.1 k (by omega) (by omega)).1
        rw [show ((k : Int)).toNat = k from rfl] at hk3
        rw [hk3]
        refine i_iadd dX9_sumOf_28 ?_
        refine r_istore_n dX9_sumOf_29 (Nat.le_of_ble_eq_true rfl) ?_
        refine i_iinc dX9_sumOf_30 rfl (Nat.le_of_ble_eq_true rfl) ?_
        refine r_goto 8 dX9_sumOf_33 rfl ?_
        rw [← sm_s, show (k : Int) + 1 = ((k + 1 : Nat) : Int) by omega]
        exact ih (k + 1) _ (by omega) z hz

set_option maxRecDepth 20000 in
theorem m_sumOf_3 (M σ : rl_S) (c : IM M σ) (hw : WF M)  : Ct mW mX9_sumOf [.ref 0, .int (iI 3)] σ (pH M (sm (hS M) (nS M).toNat)) := by
  refine Ct.of plX9 (Nat.le_of_ble_eq_true rfl) ?_
  have nb := wf_nS hw
  refine r_aload_n dX9_sumOf_0 rfl ?_
  refine i_cvV (m_lays M σ c hw) lmX9_117 dX9_sumOf_1 (Nat.le_of_ble_eq_true rfl) rfl ⟨_, _, rfl⟩ (by decide) (by decide) rfl rfl (Nat.le_of_ble_eq_true rfl) (fun σ1 c1 => ?_)
  refine i_const dX9_sumOf_4 ?_
  refine r_istore_n dX9_sumOf_5 (Nat.le_of_ble_eq_true rfl) ?_
  refine i_const dX9_sumOf_6 ?_
  refine r_istore_n dX9_sumOf_7 (Nat.le_of_ble_eq_true rfl) ?_
  exact m_sum1_3 M σ1 c1 hw (nS M).toNat 0 _ (by omega) _ rfl

theorem m_sum2_4 (M σ : rl_S) (c : IH M σ) (hw : WF M) : ∀ (n : Nat) (t s : Int) (l4 : Value), t + n = 400 → 0 ≤ t → 0 ≤ s → s ≤ 400 - n → ∀ z, z = s + cnt (hi M) n t → Rn mW mX9_sumOf 38 [.ref 0, .int (iI 4), .int (iI s), .int (iI t), l4] [] σ (pH M z) := by
  intro n
  induction n with
  | zero =>
    intro t s l4 ht t0 s0 s1 z hz
    refine r_iload_n dX9_sumOf_38 rfl ?_
    refine i_sipush dX9_sumOf_39 (by decide) ?_
    refine i_icmp_ge 106 dX9_sumOf_42 rfl ⟨by omega, by omega⟩ ⟨by omega, by omega⟩ (fun q42 => ?_) (fun q42 => ?_)
    · skip
      refine r_iload_n dX9_sumOf_106 rfl ?_
      refine i_if_ne 117 dX9_sumOf_107 rfl ⟨by omega, by omega⟩ (fun q107 => ?_) (fun q107 => ?_)
      · skip
        refine r_iload_n dX9_sumOf_117 rfl ?_
        refine r_iret rfl dX9_sumOf_118 ?_
        exact ⟨_, rfl, by rw [hz]; simp [cnt], c⟩
      · exfalso
        omega
    · exfalso
      omega
  | succ n ih =>
    intro t s l4 ht t0 s0 s1 z hz
    have b1 := wf_hb hw t t0 (by omega)
    have mb := mv_bd (hi M) t
    simp only [cnt] at hz
    refine r_iload_n dX9_sumOf_38 rfl ?_
    refine i_sipush dX9_sumOf_39 (by decide) ?_
    refine i_icmp_ge 106 dX9_sumOf_42 rfl ⟨by omega, by omega⟩ ⟨by omega, by omega⟩ (fun q42 => ?_) (fun q42 => ?_)
    · exfalso
      omega
    · skip
      refine r_iload_n dX9_sumOf_45 rfl ?_
      refine i_const dX9_sumOf_46 ?_
      refine i_icmp_le 106 dX9_sumOf_47 rfl ⟨by omega, by omega⟩ ⟨by omega, by omega⟩ (fun q47 => ?_) (fun q47 => ?_)
      · exfalso
        omega
      · skip
        refine r_aload_n dX9_sumOf_50 rfl ?_
        refine r_get (k := 0) lfX9_28 dX9_sumOf_51 (Nat.le_of_ble_eq_true rfl) rfl rfl ?_
        refine r_iload_n dX9_sumOf_54 rfl ?_
        refine i_ald (k := 7) dX9_sumOf_55 (Nat.le_of_ble_eq_true rfl) rfl rfl ⟨by omega, by omega⟩ (by decide) ?_
        rw [c.2 t t0 (by omega)]
        refine r_iload_n dX9_sumOf_56 rfl ?_
        refine i_icmp_le 69 dX9_sumOf_57 rfl ⟨by omega, by omega⟩ ⟨by omega, by omega⟩ (fun q57 => ?_) (fun q57 => ?_)
        · skip
          refine r_iload_n dX9_sumOf_69 rfl ?_
          refine r_istore dX9_sumOf_70 (Nat.le_of_ble_eq_true rfl) ?_
          refine r_iload_n dX9_sumOf_72 rfl ?_
          refine i_bipush dX9_sumOf_73 (by decide) ?_
          refine i_icmp_ne 83 dX9_sumOf_75 rfl ⟨by omega, by omega⟩ ⟨by omega, by omega⟩ (fun q75 => ?_) (fun q75 => ?_)
          · skip
            refine r_iload_n dX9_sumOf_83 rfl ?_
            refine r_aload_n dX9_sumOf_84 rfl ?_
            refine r_iload_n dX9_sumOf_85 rfl ?_
            refine i_cvP (m_doesNow σ (hi M) c.2 (wf_hb hw) t t0 (by omega)) lmX9_120 dX9_sumOf_86 (Nat.le_of_ble_eq_true rfl) rfl ⟨_, _, rfl⟩ (by decide) (by decide) rfl rfl (Nat.le_of_ble_eq_true rfl) ?_
            refine i_const dX9_sumOf_89 ?_
            refine i_icmp_ne 97 dX9_sumOf_90 rfl ⟨by omega, by omega⟩ ⟨by omega, by omega⟩ (fun q90 => ?_) (fun q90 => ?_)
            · skip
              refine i_const dX9_sumOf_97 ?_
              refine i_iadd dX9_sumOf_98 ?_
              refine r_istore_n dX9_sumOf_99 (Nat.le_of_ble_eq_true rfl) ?_
              refine i_iinc dX9_sumOf_100 rfl (Nat.le_of_ble_eq_true rfl) ?_
              refine r_goto 38 dX9_sumOf_103 rfl ?_
              first
                | (rw [if_pos (by omega)] at hz; exact ih _ _ _ (by omega) (by omega) (by omega) (by omega) z (by omega))
                | (rw [if_neg (by omega)] at hz; exact ih _ _ _ (by omega) (by omega) (by omega) (by omega) z (by omega))
            · skip
              refine i_const dX9_sumOf_93 ?_
              refine r_goto 98 dX9_sumOf_94 rfl ?_
              refine i_iadd dX9_sumOf_98 ?_
              refine r_istore_n dX9_sumOf_99 (Nat.le_of_ble_eq_true rfl) ?_
              refine i_iinc dX9_sumOf_100 rfl (Nat.le_of_ble_eq_true rfl) ?_
              refine r_goto 38 dX9_sumOf_103 rfl ?_
              first
                | (rw [if_pos (by omega)] at hz; exact ih _ _ _ (by omega) (by omega) (by omega) (by omega) z (by omega))
                | (rw [if_neg (by omega)] at hz; exact ih _ _ _ (by omega) (by omega) (by omega) (by omega) z (by omega))
          · exfalso
            omega
        · skip
          refine r_aload_n dX9_sumOf_60 rfl ?_
          refine r_get (k := 0) lfX9_28 dX9_sumOf_61 (Nat.le_of_ble_eq_true rfl) rfl rfl ?_
          refine r_iload_n dX9_sumOf_64 rfl ?_
          refine i_ald (k := 7) dX9_sumOf_65 (Nat.le_of_ble_eq_true rfl) rfl rfl ⟨by omega, by omega⟩ (by decide) ?_
          rw [c.2 t t0 (by omega)]
          refine r_goto 70 dX9_sumOf_66 rfl ?_
          refine r_istore dX9_sumOf_70 (Nat.le_of_ble_eq_true rfl) ?_
          refine r_iload_n dX9_sumOf_72 rfl ?_
          refine i_bipush dX9_sumOf_73 (by decide) ?_
          refine i_icmp_ne 83 dX9_sumOf_75 rfl ⟨by omega, by omega⟩ ⟨by omega, by omega⟩ (fun q75 => ?_) (fun q75 => ?_)
          · skip
            refine r_iload_n dX9_sumOf_83 rfl ?_
            refine r_aload_n dX9_sumOf_84 rfl ?_
            refine r_iload_n dX9_sumOf_85 rfl ?_
            refine i_cvP (m_doesNow σ (hi M) c.2 (wf_hb hw) t t0 (by omega)) lmX9_120 dX9_sumOf_86 (Nat.le_of_ble_eq_true rfl) rfl ⟨_, _, rfl⟩ (by decide) (by decide) rfl rfl (Nat.le_of_ble_eq_true rfl) ?_
            refine i_const dX9_sumOf_89 ?_
            refine i_icmp_ne 97 dX9_sumOf_90 rfl ⟨by omega, by omega⟩ ⟨by omega, by omega⟩ (fun q90 => ?_) (fun q90 => ?_)
            · skip
              refine i_const dX9_sumOf_97 ?_
              refine i_iadd dX9_sumOf_98 ?_
              refine r_istore_n dX9_sumOf_99 (Nat.le_of_ble_eq_true rfl) ?_
              refine i_iinc dX9_sumOf_100 rfl (Nat.le_of_ble_eq_true rfl) ?_
              refine r_goto 38 dX9_sumOf_103 rfl ?_
              first
                | (rw [if_pos (by omega)] at hz; exact ih _ _ _ (by omega) (by omega) (by omega) (by omega) z (by omega))
                | (rw [if_neg (by omega)] at hz; exact ih _ _ _ (by omega) (by omega) (by omega) (by omega) z (by omega))
            · skip
              refine i_const dX9_sumOf_93 ?_
              refine r_goto 98 dX9_sumOf_94 rfl ?_
              refine i_iadd dX9_sumOf_98 ?_
              refine r_istore_n dX9_sumOf_99 (Nat.le_of_ble_eq_true rfl) ?_
              refine i_iinc dX9_sumOf_100 rfl (Nat.le_of_ble_eq_true rfl) ?_
              refine r_goto 38 dX9_sumOf_103 rfl ?_
              first
                | (rw [if_pos (by omega)] at hz; exact ih _ _ _ (by omega) (by omega) (by omega) (by omega) z (by omega))
                | (rw [if_neg (by omega)] at hz; exact ih _ _ _ (by omega) (by omega) (by omega) (by omega) z (by omega))
          · exfalso
            omega

set_option maxRecDepth 20000 in
theorem m_sumOf_4 (M σ : rl_S) (c : IM M σ) (hw : WF M)  : Ct mW mX9_sumOf [.ref 0, .int (iI 4)] σ (pH M (cnt (hi M) 400 0)) := by
  refine Ct.of plX9 (Nat.le_of_ble_eq_true rfl) ?_
  have nb := wf_nS hw
  refine r_aload_n dX9_sumOf_0 rfl ?_
  refine i_cvV (m_lays M σ c hw) lmX9_117 dX9_sumOf_1 (Nat.le_of_ble_eq_true rfl) rfl ⟨_, _, rfl⟩ (by decide) (by decide) rfl rfl (Nat.le_of_ble_eq_true rfl) (fun σ1 c1 => ?_)
  refine i_const dX9_sumOf_4 ?_
  refine r_istore_n dX9_sumOf_5 (Nat.le_of_ble_eq_true rfl) ?_
  refine i_const dX9_sumOf_6 ?_
  refine r_istore_n dX9_sumOf_7 (Nat.le_of_ble_eq_true rfl) ?_
  refine r_iload_n dX9_sumOf_8 rfl ?_
  refine r_aload_n dX9_sumOf_9 rfl ?_
  refine r_get (k := 0) lfX9_63 dX9_sumOf_10 (Nat.le_of_ble_eq_true rfl) rfl rfl ?_
  rw [c1.1.2.1]
  refine i_icmp_ge 36 dX9_sumOf_13 rfl ⟨by omega, by omega⟩ ⟨by omega, by omega⟩ (fun q13 => ?_) (fun q13 => ?_)
  · skip
    refine i_const dX9_sumOf_36 ?_
    refine r_istore_n dX9_sumOf_37 (Nat.le_of_ble_eq_true rfl) ?_
    exact m_sum2_4 M σ1 c1 hw 400 0 0 _ (by omega) (by omega) (by omega) (by omega) _ (by omega)
  · skip
    refine r_iload_n dX9_sumOf_16 rfl ?_
    refine i_const dX9_sumOf_17 ?_
    refine i_icmp_ne 36 dX9_sumOf_18 rfl ⟨by omega, by omega⟩ ⟨by omega, by omega⟩ (fun q18 => ?_) (fun q18 => ?_)
    · skip
      refine i_const dX9_sumOf_36 ?_
      refine r_istore_n dX9_sumOf_37 (Nat.le_of_ble_eq_true rfl) ?_
      exact m_sum2_4 M σ1 c1 hw 400 0 0 _ (by omega) (by omega) (by omega) (by omega) _ (by omega)
    · exfalso
      omega

theorem m_sum2_7 (M σ : rl_S) (c : IH M σ) (hw : WF M) : ∀ (n : Nat) (t s : Int) (l4 : Value), t + n = 400 → 0 ≤ t → 0 ≤ s → s ≤ 3000 → ∀ z, z = mxU (hi M) n t s → Rn mW mX9_sumOf 38 [.ref 0, .int (iI 7), .int (iI s), .int (iI t), l4] [] σ (pH M z) := by
  intro n
  induction n with
  | zero =>
    intro t s l4 ht t0 s0 s1 z hz
    refine r_iload_n dX9_sumOf_38 rfl ?_
    refine i_sipush dX9_sumOf_39 (by decide) ?_
    refine i_icmp_ge 106 dX9_sumOf_42 rfl ⟨by omega, by omega⟩ ⟨by omega, by omega⟩ (fun q42 => ?_) (fun q42 => ?_)
    · skip
      refine r_iload_n dX9_sumOf_106 rfl ?_
      refine i_if_ne 117 dX9_sumOf_107 rfl ⟨by omega, by omega⟩ (fun q107 => ?_) (fun q107 => ?_)
      · skip
        refine r_iload_n dX9_sumOf_117 rfl ?_
        refine r_iret rfl dX9_sumOf_118 ?_
        exact ⟨_, rfl, by rw [hz]; simp [mxU], c⟩
      · exfalso
        omega
    · exfalso
      omega
  | succ n ih =>
    intro t s l4 ht t0 s0 s1 z hz
    have b1 := wf_hb hw t t0 (by omega)
    have mb := mv_bd (hi M) t
    simp only [mxU] at hz
    refine r_iload_n dX9_sumOf_38 rfl ?_
    refine i_sipush dX9_sumOf_39 (by decide) ?_
    refine i_icmp_ge 106 dX9_sumOf_42 rfl ⟨by omega, by omega⟩ ⟨by omega, by omega⟩ (fun q42 => ?_) (fun q42 => ?_)
    · exfalso
      omega
    · skip
      refine r_iload_n dX9_sumOf_45 rfl ?_
      refine i_const dX9_sumOf_46 ?_
      refine i_icmp_le 106 dX9_sumOf_47 rfl ⟨by omega, by omega⟩ ⟨by omega, by omega⟩ (fun q47 => ?_) (fun q47 => ?_)
      · exfalso
        omega
      · skip
        refine r_aload_n dX9_sumOf_50 rfl ?_
        refine r_get (k := 0) lfX9_28 dX9_sumOf_51 (Nat.le_of_ble_eq_true rfl) rfl rfl ?_
        refine r_iload_n dX9_sumOf_54 rfl ?_
        refine i_ald (k := 7) dX9_sumOf_55 (Nat.le_of_ble_eq_true rfl) rfl rfl ⟨by omega, by omega⟩ (by decide) ?_
        rw [c.2 t t0 (by omega)]
        refine r_iload_n dX9_sumOf_56 rfl ?_
        refine i_icmp_le 69 dX9_sumOf_57 rfl ⟨by omega, by omega⟩ ⟨by omega, by omega⟩ (fun q57 => ?_) (fun q57 => ?_)
        · skip
          refine r_iload_n dX9_sumOf_69 rfl ?_
          refine r_istore dX9_sumOf_70 (Nat.le_of_ble_eq_true rfl) ?_
          refine r_iload_n dX9_sumOf_72 rfl ?_
          refine i_bipush dX9_sumOf_73 (by decide) ?_
          refine i_icmp_ne 83 dX9_sumOf_75 rfl ⟨by omega, by omega⟩ ⟨by omega, by omega⟩ (fun q75 => ?_) (fun q75 => ?_)
          · exfalso
            omega
          · skip
            refine r_iload dX9_sumOf_78 rfl ?_
            refine r_goto 99 dX9_sumOf_80 rfl ?_
            refine r_istore_n dX9_sumOf_99 (Nat.le_of_ble_eq_true rfl) ?_
            refine i_iinc dX9_sumOf_100 rfl (Nat.le_of_ble_eq_true rfl) ?_
            refine r_goto 38 dX9_sumOf_103 rfl ?_
            exact ih _ _ _ (by omega) (by omega) (by omega) (by omega) z (by rw [hz]; congr 1; omega)
        · skip
          refine r_aload_n dX9_sumOf_60 rfl ?_
          refine r_get (k := 0) lfX9_28 dX9_sumOf_61 (Nat.le_of_ble_eq_true rfl) rfl rfl ?_
          refine r_iload_n dX9_sumOf_64 rfl ?_
          refine i_ald (k := 7) dX9_sumOf_65 (Nat.le_of_ble_eq_true rfl) rfl rfl ⟨by omega, by omega⟩ (by decide) ?_
          rw [c.2 t t0 (by omega)]
          refine r_goto 70 dX9_sumOf_66 rfl ?_
          refine r_istore dX9_sumOf_70 (Nat.le_of_ble_eq_true rfl) ?_
          refine r_iload_n dX9_sumOf_72 rfl ?_
          refine i_bipush dX9_sumOf_73 (by decide) ?_
          refine i_icmp_ne 83 dX9_sumOf_75 rfl ⟨by omega, by omega⟩ ⟨by omega, by omega⟩ (fun q75 => ?_) (fun q75 => ?_)
          · exfalso
            omega
          · skip
            refine r_iload dX9_sumOf_78 rfl ?_
            refine r_goto 99 dX9_sumOf_80 rfl ?_
            refine r_istore_n dX9_sumOf_99 (Nat.le_of_ble_eq_true rfl) ?_
            refine i_iinc dX9_sumOf_100 rfl (Nat.le_of_ble_eq_true rfl) ?_
            refine r_goto 38 dX9_sumOf_103 rfl ?_
            exact ih _ _ _ (by omega) (by omega) (by omega) (by omega) z (by rw [hz]; congr 1; omega)

set_option maxRecDepth 20000 in
theorem m_sumOf_7 (M σ : rl_S) (c : IM M σ) (hw : WF M)  : Ct mW mX9_sumOf [.ref 0, .int (iI 7)] σ (pH M (mxU (hi M) 400 0 0)) := by
  refine Ct.of plX9 (Nat.le_of_ble_eq_true rfl) ?_
  have nb := wf_nS hw
  refine r_aload_n dX9_sumOf_0 rfl ?_
  refine i_cvV (m_lays M σ c hw) lmX9_117 dX9_sumOf_1 (Nat.le_of_ble_eq_true rfl) rfl ⟨_, _, rfl⟩ (by decide) (by decide) rfl rfl (Nat.le_of_ble_eq_true rfl) (fun σ1 c1 => ?_)
  refine i_const dX9_sumOf_4 ?_
  refine r_istore_n dX9_sumOf_5 (Nat.le_of_ble_eq_true rfl) ?_
  refine i_const dX9_sumOf_6 ?_
  refine r_istore_n dX9_sumOf_7 (Nat.le_of_ble_eq_true rfl) ?_
  refine r_iload_n dX9_sumOf_8 rfl ?_
  refine r_aload_n dX9_sumOf_9 rfl ?_
  refine r_get (k := 0) lfX9_63 dX9_sumOf_10 (Nat.le_of_ble_eq_true rfl) rfl rfl ?_
  rw [c1.1.2.1]
  refine i_icmp_ge 36 dX9_sumOf_13 rfl ⟨by omega, by omega⟩ ⟨by omega, by omega⟩ (fun q13 => ?_) (fun q13 => ?_)
  · skip
    refine i_const dX9_sumOf_36 ?_
    refine r_istore_n dX9_sumOf_37 (Nat.le_of_ble_eq_true rfl) ?_
    exact m_sum2_7 M σ1 c1 hw 400 0 0 _ (by omega) (by omega) (by omega) (by omega) _ rfl
  · skip
    refine r_iload_n dX9_sumOf_16 rfl ?_
    refine i_const dX9_sumOf_17 ?_
    refine i_icmp_ne 36 dX9_sumOf_18 rfl ⟨by omega, by omega⟩ ⟨by omega, by omega⟩ (fun q18 => ?_) (fun q18 => ?_)
    · skip
      refine i_const dX9_sumOf_36 ?_
      refine r_istore_n dX9_sumOf_37 (Nat.le_of_ble_eq_true rfl) ?_
      exact m_sum2_7 M σ1 c1 hw 400 0 0 _ (by omega) (by omega) (by omega) (by omega) _ rfl
    · exfalso
      omega

theorem qc_0 (M : rl_S) : q_count M 0 = nS M := by unfold q_count; rw [if_pos rfl]
theorem qc_1 (M : rl_S) : q_count M 1 = M 1 0 := by unfold q_count; rw [if_neg (by decide), if_pos rfl]
theorem qc_2 (M : rl_S) : q_count M 2 = M 1 1 := by unfold q_count; rw [if_neg (by decide), if_neg (by decide), if_pos rfl]
theorem qc_3 (M : rl_S) : q_count M 3 = sm (hS M) (nS M).toNat := by unfold q_count; rw [if_neg (by decide), if_neg (by decide), if_neg (by decide), if_pos rfl]
theorem qc_4 (M : rl_S) : q_count M 4 = cnt (hi M) 400 0 := by unfold q_count; rw [if_neg (by decide), if_neg (by decide), if_neg (by decide), if_neg (by decide), if_pos rfl]
theorem qc_5 (M : rl_S) : q_count M 5 = M 0 12 := by unfold q_count; rw [if_neg (by decide), if_neg (by decide), if_neg (by decide), if_neg (by decide), if_neg (by decide), if_pos rfl]
theorem qc_6 (M : rl_S) : q_count M 6 = M 6 0 := by unfold q_count; rw [if_neg (by decide), if_neg (by decide), if_neg (by decide), if_neg (by decide), if_neg (by decide), if_neg (by decide), if_pos rfl]
theorem qc_7 (M : rl_S) : q_count M 7 = mxU (hi M) 400 0 0 := by unfold q_count; rw [if_neg (by decide), if_neg (by decide), if_neg (by decide), if_neg (by decide), if_neg (by decide), if_neg (by decide), if_neg (by decide), if_pos rfl]
theorem qc_8 (M : rl_S) : q_count M 8 = M 0 21 := by unfold q_count; rw [if_neg (by decide), if_neg (by decide), if_neg (by decide), if_neg (by decide), if_neg (by decide), if_neg (by decide), if_neg (by decide), if_neg (by decide), if_pos rfl]
set_option maxRecDepth 20000 in
theorem m_count (M σ : rl_S) (c : IM M σ) (hw : WF M) (w : Int) (hww : -2147483648 ≤ w ∧ w < 2147483648) : Ct mW mX9_count [.ref 0, .int (iI w)] σ (pM M (q_count M w)) := by
  refine Ct.of plX9 (Nat.le_of_ble_eq_true rfl) ?_
  refine r_iload_n dX9_count_0 rfl ?_
  rcases (show w = 0 ∨ w = 1 ∨ w = 2 ∨ w = 3 ∨ w = 4 ∨ w = 5 ∨ w = 6 ∨ w = 7 ∨ w = 8 ∨ (w < 0 ∨ 8 < w) by omega) with rfl | rfl | rfl | rfl | rfl | rfl | rfl | rfl | rfl | hn
  · refine r_tableIn 52 dX9_count_1 (by decide) (by decide) rfl rfl ?_
    refine r_aload_n dX9_count_52 rfl ?_
    refine r_iload_n dX9_count_53 rfl ?_
    refine i_cvI (m_sumOf_0 M σ c hw) lmX9_242 dX9_count_54 (Nat.le_of_ble_eq_true rfl) rfl ⟨_, _, rfl⟩ (by decide) (by decide) rfl rfl (Nat.le_of_ble_eq_true rfl) (fun z1 σ1 hd => ?_)
    refine r_iret rfl dX9_count_57 ?_
    exact ⟨_, rfl, hd.1.trans (qc_0 M).symm, hd.2.1.1⟩
  · refine r_tableIn 58 dX9_count_1 (by decide) (by decide) rfl rfl ?_
    refine r_aload_n dX9_count_58 rfl ?_
    refine r_get (k := 0) lfX9_7 dX9_count_59 (Nat.le_of_ble_eq_true rfl) rfl rfl ?_
    refine r_iload_n dX9_count_62 rfl ?_
    refine i_const dX9_count_63 ?_
    refine i_isub dX9_count_64 ?_
    refine i_ald (k := 1) dX9_count_65 (Nat.le_of_ble_eq_true rfl) rfl rfl ⟨by omega, by omega⟩ (by decide) ?_
    refine r_iret rfl dX9_count_66 ?_
    refine ⟨_, rfl, ?_, c⟩
    rw [qc_1]
    exact c.1 1 0 (by decide)
  · refine r_tableIn 58 dX9_count_1 (by decide) (by decide) rfl rfl ?_
    refine r_aload_n dX9_count_58 rfl ?_
    refine r_get (k := 0) lfX9_7 dX9_count_59 (Nat.le_of_ble_eq_true rfl) rfl rfl ?_
    refine r_iload_n dX9_count_62 rfl ?_
    refine i_const dX9_count_63 ?_
    refine i_isub dX9_count_64 ?_
    refine i_ald (k := 1) dX9_count_65 (Nat.le_of_ble_eq_true rfl) rfl rfl ⟨by omega, by omega⟩ (by decide) ?_
    refine r_iret rfl dX9_count_66 ?_
    refine ⟨_, rfl, ?_, c⟩
    rw [qc_2]
    exact c.1 1 1 (by decide)
  · refine r_tableIn 52 dX9_count_1 (by decide) (by decide) rfl rfl ?_
    refine r_aload_n dX9_count_52 rfl ?_
    refine r_iload_n dX9_count_53 rfl ?_
    refine i_cvI (m_sumOf_3 M σ c hw) lmX9_242 dX9_count_54 (Nat.le_of_ble_eq_true rfl) rfl ⟨_, _, rfl⟩ (by decide) (by decide) rfl rfl (Nat.le_of_ble_eq_true rfl) (fun z1 σ1 hd => ?_)
    refine r_iret rfl dX9_count_57 ?_
    exact ⟨_, rfl, hd.1.trans (qc_3 M).symm, hd.2.1.1⟩
  · refine r_tableIn 52 dX9_count_1 (by decide) (by decide) rfl rfl ?_
    refine r_aload_n dX9_count_52 rfl ?_
    refine r_iload_n dX9_count_53 rfl ?_
    refine i_cvI (m_sumOf_4 M σ c hw) lmX9_242 dX9_count_54 (Nat.le_of_ble_eq_true rfl) rfl ⟨_, _, rfl⟩ (by decide) (by decide) rfl rfl (Nat.le_of_ble_eq_true rfl) (fun z1 σ1 hd => ?_)
    refine r_iret rfl dX9_count_57 ?_
    exact ⟨_, rfl, hd.1.trans (qc_4 M).symm, hd.2.1.1⟩
  · refine r_tableIn 67 dX9_count_1 (by decide) (by decide) rfl rfl ?_
    refine r_aload_n dX9_count_67 rfl ?_
    refine r_get (k := 0) lfX9_206 dX9_count_68 (Nat.le_of_ble_eq_true rfl) rfl rfl ?_
    refine r_iret rfl dX9_count_71 ?_
    refine ⟨_, rfl, ?_, c⟩
    rw [qc_5]
    exact c.2.2.2.1
  · refine r_tableIn 72 dX9_count_1 (by decide) (by decide) rfl rfl ?_
    refine r_aload_n dX9_count_72 rfl ?_
    refine r_get (k := 0) lfX9_25 dX9_count_73 (Nat.le_of_ble_eq_true rfl) rfl rfl ?_
    refine i_const dX9_count_76 ?_
    refine i_ald (k := 6) dX9_count_77 (Nat.le_of_ble_eq_true rfl) rfl rfl ⟨by omega, by omega⟩ (by decide) ?_
    refine r_iret rfl dX9_count_78 ?_
    refine ⟨_, rfl, ?_, c⟩
    rw [qc_6]
    exact c.1 6 0 (by decide)
  · refine r_tableIn 52 dX9_count_1 (by decide) (by decide) rfl rfl ?_
    refine r_aload_n dX9_count_52 rfl ?_
    refine r_iload_n dX9_count_53 rfl ?_
    refine i_cvI (m_sumOf_7 M σ c hw) lmX9_242 dX9_count_54 (Nat.le_of_ble_eq_true rfl) rfl ⟨_, _, rfl⟩ (by decide) (by decide) rfl rfl (Nat.le_of_ble_eq_true rfl) (fun z1 σ1 hd => ?_)
    refine r_iret rfl dX9_count_57 ?_
    exact ⟨_, rfl, hd.1.trans (qc_7 M).symm, hd.2.1.1⟩
  · refine r_tableIn 79 dX9_count_1 (by decide) (by decide) rfl rfl ?_
    refine r_aload_n dX9_count_79 rfl ?_
    refine r_get (k := 0) lfX9_231 dX9_count_80 (Nat.le_of_ble_eq_true rfl) rfl rfl ?_
    refine r_iret rfl dX9_count_83 ?_
    refine ⟨_, rfl, ?_, c⟩
    rw [qc_8]
    exact c.2.2.2.2
  · refine r_tableOut 84 dX9_count_1 (by rw [iI_toInt hww]; omega) rfl ?_
    refine i_bipush dX9_count_84 (by decide) ?_
    refine r_iret rfl dX9_count_86 ?_
    exact ⟨_, rfl, by unfold q_count; (repeat (rw [if_neg (by omega)])), c⟩
  
