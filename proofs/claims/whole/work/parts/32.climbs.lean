set_option maxRecDepth 20000 in
theorem m_isMany (σ : rl_S) (m : Int) (hm : -2147483648 ≤ m ∧ m < 2147483648) : Ct mW mX9_isMany [.int (iI m)] σ (pR (.int (iI (ob (decide (1 ≤ m ∧ m ≤ 100))))) σ) := by
  refine Ct.of plX9 (Nat.le_of_ble_eq_true rfl) ?_
  refine r_iload_n dX9_isMany_0 rfl ?_
  refine i_const dX9_isMany_1 ?_
  refine i_bipush dX9_isMany_2 (by decide) ?_
  refine i_csP (m_in σ m 1 100 hm (by decide) (by decide)) lmX9_55 dX9_isMany_4 (by decide) (by decide) rfl rfl (Nat.le_of_ble_eq_true rfl) ?_
  refine r_zret rfl dX9_isMany_7 (by first | rfl | exact ob_nar _) ?_
  exact ⟨rfl, rfl⟩

theorem m_lull_in (σ : rl_S) (h : Int → Int) (hh : SM σ h) (hb : HB h) (t m w b l a : Int) (m0 : 1 ≤ m ∧ m ≤ 100) (a0 : 0 ≤ a) (am : a + m ≤ 400) (Post : Option Value → rl_S → Prop)
    (K : Rn mW mX9_lullOf 112 [.ref 0, .int (iI t), .int (iI m), .int (iI w), .int (iI b), .int (iI l), .int (iI a), .int (iI (hg h (m - 1).toNat a)), .int (iI (lo h (m - 1).toNat a)), .int (iI (a + m))] [] σ Post) : ∀ (n : Nat) (x : Int) (j : Nat) (p q : Int), x + n = a + m → ((x = a + j + 1) ∨ (x = a ∧ j = 0)) → p = hg h j a → q = lo h j a → Rn mW mX9_lullOf 45 [.ref 0, .int (iI t), .int (iI m), .int (iI w), .int (iI b), .int (iI l), .int (iI a), .int (iI p), .int (iI q), .int (iI x)] [] σ Post := by
  intro n
  induction n with
  | zero =>
    intro x j p q hx hj hp hq
    have b1 := hg_bd hb j a a0 (by omega)
    have b2 := lo_bd hb j a a0 (by omega)
    have ej : (m - 1).toNat = j := by omega
    have ex : x = a + m := by omega
    rw [ej, ← hp, ← hq, ← ex] at K
    refine r_iload dX9_lullOf_45 rfl ?_
    refine r_iload dX9_lullOf_47 rfl ?_
    refine r_iload_n dX9_lullOf_49 rfl ?_
    refine i_iadd dX9_lullOf_50 ?_
    refine i_icmp_ge 112 dX9_lullOf_51 rfl ⟨by omega, by omega⟩ ⟨by omega, by omega⟩ (fun q51 => ?_) (fun q51 => ?_)
    · skip
      exact K
    · exfalso
      omega
  | succ n ih =>
    intro x j p q hx hj hp hq
    have b1 := hg_bd hb j a a0 (by omega)
    have b2 := lo_bd hb j a a0 (by omega)
    have b3 := hb x (by omega) (by omega)
    rcases hj with hj | ⟨hj, hj0⟩
    · have e1 : hg h (j + 1) a = max (hg h j a) (h x) := by rw [show x = a + ((j + 1 : Nat) : Int) by omega]; rfl
      have e2 : lo h (j + 1) a = min (lo h j a) (h x) := by rw [show x = a + ((j + 1 : Nat) : Int) by omega]; rfl
      refine r_iload dX9_lullOf_45 rfl ?_
      refine r_iload dX9_lullOf_47 rfl ?_
      refine r_iload_n dX9_lullOf_49 rfl ?_
      refine i_iadd dX9_lullOf_50 ?_
      refine i_icmp_ge 112 dX9_lullOf_51 rfl ⟨by omega, by omega⟩ ⟨by omega, by omega⟩ (fun q51 => ?_) (fun q51 => ?_)
      · exfalso
        omega
      · skip
        refine r_aload_n dX9_lullOf_54 rfl ?_
        refine r_get (k := 0) lfX9_28 dX9_lullOf_55 (Nat.le_of_ble_eq_true rfl) rfl rfl ?_
        refine r_iload dX9_lullOf_58 rfl ?_
        refine i_ald (k := 7) dX9_lullOf_60 (Nat.le_of_ble_eq_true rfl) rfl rfl ⟨by omega, by omega⟩ (by decide) ?_
        rw [hh x (by omega) (by omega)]
        refine r_iload dX9_lullOf_61 rfl ?_
        refine i_icmp_le 76 dX9_lullOf_63 rfl ⟨by omega, by omega⟩ ⟨by omega, by omega⟩ (fun q63 => ?_) (fun q63 => ?_)
        · skip
          refine r_iload dX9_lullOf_76 rfl ?_
          refine r_istore dX9_lullOf_78 (Nat.le_of_ble_eq_true rfl) ?_
          refine r_aload_n dX9_lullOf_80 rfl ?_
          refine r_get (k := 0) lfX9_28 dX9_lullOf_81 (Nat.le_of_ble_eq_true rfl) rfl rfl ?_
          refine r_iload dX9_lullOf_84 rfl ?_
          refine i_ald (k := 7) dX9_lullOf_86 (Nat.le_of_ble_eq_true rfl) rfl rfl ⟨by omega, by omega⟩ (by decide) ?_
          rw [hh x (by omega) (by omega)]
          refine r_iload dX9_lullOf_87 rfl ?_
          refine i_icmp_ge 102 dX9_lullOf_89 rfl ⟨by omega, by omega⟩ ⟨by omega, by omega⟩ (fun q89 => ?_) (fun q89 => ?_)
          · skip
            refine r_iload dX9_lullOf_102 rfl ?_
            refine r_istore dX9_lullOf_104 (Nat.le_of_ble_eq_true rfl) ?_
            refine i_iinc dX9_lullOf_106 rfl (Nat.le_of_ble_eq_true rfl) ?_
            refine r_goto 45 dX9_lullOf_109 rfl ?_
            exact ih _ (j + 1) _ _ (by omega) (by omega) (by omega) (by omega)
          · skip
            refine r_aload_n dX9_lullOf_92 rfl ?_
            refine r_get (k := 0) lfX9_28 dX9_lullOf_93 (Nat.le_of_ble_eq_true rfl) rfl rfl ?_
            refine r_iload dX9_lullOf_96 rfl ?_
            refine i_ald (k := 7) dX9_lullOf_98 (Nat.le_of_ble_eq_true rfl) rfl rfl ⟨by omega, by omega⟩ (by decide) ?_
            rw [hh x (by omega) (by omega)]
            refine r_goto 104 dX9_lullOf_99 rfl ?_
            refine r_istore dX9_lullOf_104 (Nat.le_of_ble_eq_true rfl) ?_
            refine i_iinc dX9_lullOf_106 rfl (Nat.le_of_ble_eq_true rfl) ?_
            refine r_goto 45 dX9_lullOf_109 rfl ?_
            exact ih _ (j + 1) _ _ (by omega) (by omega) (by omega) (by omega)
        · skip
          refine r_aload_n dX9_lullOf_66 rfl ?_
          refine r_get (k := 0) lfX9_28 dX9_lullOf_67 (Nat.le_of_ble_eq_true rfl) rfl rfl ?_
          refine r_iload dX9_lullOf_70 rfl ?_
          refine i_ald (k := 7) dX9_lullOf_72 (Nat.le_of_ble_eq_true rfl) rfl rfl ⟨by omega, by omega⟩ (by decide) ?_
          rw [hh x (by omega) (by omega)]
          refine r_goto 78 dX9_lullOf_73 rfl ?_
          refine r_istore dX9_lullOf_78 (Nat.le_of_ble_eq_true rfl) ?_
          refine r_aload_n dX9_lullOf_80 rfl ?_
          refine r_get (k := 0) lfX9_28 dX9_lullOf_81 (Nat.le_of_ble_eq_true rfl) rfl rfl ?_
          refine r_iload dX9_lullOf_84 rfl ?_
          refine i_ald (k := 7) dX9_lullOf_86 (Nat.le_of_ble_eq_true rfl) rfl rfl ⟨by omega, by omega⟩ (by decide) ?_
          rw [hh x (by omega) (by omega)]
          refine r_iload dX9_lullOf_87 rfl ?_
          refine i_icmp_ge 102 dX9_lullOf_89 rfl ⟨by omega, by omega⟩ ⟨by omega, by omega⟩ (fun q89 => ?_) (fun q89 => ?_)
          · skip
            refine r_iload dX9_lullOf_102 rfl ?_
            refine r_istore dX9_lullOf_104 (Nat.le_of_ble_eq_true rfl) ?_
            refine i_iinc dX9_lullOf_106 rfl (Nat.le_of_ble_eq_true rfl) ?_
            refine r_goto 45 dX9_lullOf_109 rfl ?_
            exact ih _ (j + 1) _ _ (by omega) (by omega) (by omega) (by omega)
          · skip
            refine r_aload_n dX9_lullOf_92 rfl ?_
            refine r_get (k := 0) lfX9_28 dX9_lullOf_93 (Nat.le_of_ble_eq_true rfl) rfl rfl ?_
            refine r_iload dX9_lullOf_96 rfl ?_
            refine i_ald (k := 7) dX9_lullOf_98 (Nat.le_of_ble_eq_true rfl) rfl rfl ⟨by omega, by omega⟩ (by decide) ?_
            rw [hh x (by omega) (by omega)]
            refine r_goto 104 dX9_lullOf_99 rfl ?_
            refine r_istore dX9_lullOf_104 (Nat.le_of_ble_eq_true rfl) ?_
            refine i_iinc dX9_lullOf_106 rfl (Nat.le_of_ble_eq_true rfl) ?_
            refine r_goto 45 dX9_lullOf_109 rfl ?_
            exact ih _ (j + 1) _ _ (by omega) (by omega) (by omega) (by omega)
    · subst hj0
      subst hj
      have e1 : hg h 0 x = h x := rfl
      have e2 : lo h 0 x = h x := rfl
      refine r_iload dX9_lullOf_45 rfl ?_
      refine r_iload dX9_lullOf_47 rfl ?_
      refine r_iload_n dX9_lullOf_49 rfl ?_
      refine i_iadd dX9_lullOf_50 ?_
      refine i_icmp_ge 112 dX9_lullOf_51 rfl ⟨by omega, by omega⟩ ⟨by omega, by omega⟩ (fun q51 => ?_) (fun q51 => ?_)
      · exfalso
        omega
      · skip
        refine r_aload_n dX9_lullOf_54 rfl ?_
        refine r_get (k := 0) lfX9_28 dX9_lullOf_55 (Nat.le_of_ble_eq_true rfl) rfl rfl ?_
        refine r_iload dX9_lullOf_58 rfl ?_
        refine i_ald (k := 7) dX9_lullOf_60 (Nat.le_of_ble_eq_true rfl) rfl rfl ⟨by omega, by omega⟩ (by decide) ?_
        rw [hh x (by omega) (by omega)]
        refine r_iload dX9_lullOf_61 rfl ?_
        refine i_icmp_le 76 dX9_lullOf_63 rfl ⟨by omega, by omega⟩ ⟨by omega, by omega⟩ (fun q63 => ?_) (fun q63 => ?_)
        · skip
          refine r_iload dX9_lullOf_76 rfl ?_
          refine r_istore dX9_lullOf_78 (Nat.le_of_ble_eq_true rfl) ?_
          refine r_aload_n dX9_lullOf_80 rfl ?_
          refine r_get (k := 0) lfX9_28 dX9_lullOf_81 (Nat.le_of_ble_eq_true rfl) rfl rfl ?_
          refine r_iload dX9_lullOf_84 rfl ?_
          refine i_ald (k := 7) dX9_lullOf_86 (Nat.le_of_ble_eq_true rfl) rfl rfl ⟨by omega, by omega⟩ (by decide) ?_
          rw [hh x (by omega) (by omega)]
          refine r_iload dX9_lullOf_87 rfl ?_
          refine i_icmp_ge 102 dX9_lullOf_89 rfl ⟨by omega, by omega⟩ ⟨by omega, by omega⟩ (fun q89 => ?_) (fun q89 => ?_)
          · skip
            refine r_iload dX9_lullOf_102 rfl ?_
            refine r_istore dX9_lullOf_104 (Nat.le_of_ble_eq_true rfl) ?_
            refine i_iinc dX9_lullOf_106 rfl (Nat.le_of_ble_eq_true rfl) ?_
            refine r_goto 45 dX9_lullOf_109 rfl ?_
            exact ih _ 0 _ _ (by omega) (by omega) hp hq
          · exfalso
            omega
        · exfalso
          omega

theorem m_lull_l (M σ : rl_S) (c : IH M σ) (hw : WF M) (t m w : Int) (m0 : 1 ≤ m ∧ m ≤ 100) (hw2 : w = 0 ∨ w = 1) : ∀ (n : Nat) (a b l : Int) (l7 l8 l9 : Value), ((a + m + n = 401) ∨ (n = 0 ∧ 400 < a + m ∧ a ≤ 400)) → 0 ≤ a → ((b = -1 ∧ l = -1) ∨ (0 ≤ b ∧ b < 400 ∧ 0 ≤ l ∧ l ≤ 3000)) → ∀ z, z = lu (fun x => spr (hi M) (m - 1).toNat x) n a b l → Rn mW mX9_lullOf 13 [.ref 0, .int (iI t), .int (iI m), .int (iI w), .int (iI b), .int (iI l), .int (iI a), l7, l8, l9] [] σ (pH M (if w = 0 then z.1 else z.2)) := by
  intro n
  induction n with
  | zero =>
    intro a b l l7 l8 l9 ha a0 hbl z hz
    refine r_iload dX9_lullOf_13 rfl ?_
    refine r_iload_n dX9_lullOf_15 rfl ?_
    refine i_iadd dX9_lullOf_16 ?_
    refine i_sipush dX9_lullOf_17 (by decide) ?_
    refine i_icmp_gt 172 dX9_lullOf_20 rfl ⟨by omega, by omega⟩ ⟨by omega, by omega⟩ (fun q20 => ?_) (fun q20 => ?_)
    · skip
      refine r_iload_n dX9_lullOf_172 rfl ?_
      refine i_if_ne 181 dX9_lullOf_173 rfl ⟨by omega, by omega⟩ (fun q173 => ?_) (fun q173 => ?_)
      · skip
        refine r_iload dX9_lullOf_181 rfl ?_
        refine r_iret rfl dX9_lullOf_183 ?_
        exact ⟨_, rfl, by rw [hz]; simp only [lu]; first | (rw [if_pos (by omega)]; done) | (rw [if_neg (by omega)]; done), c⟩
      · skip
        refine r_iload dX9_lullOf_176 rfl ?_
        refine r_goto 183 dX9_lullOf_178 rfl ?_
        refine r_iret rfl dX9_lullOf_183 ?_
        exact ⟨_, rfl, by rw [hz]; simp only [lu]; first | (rw [if_pos (by omega)]; done) | (rw [if_neg (by omega)]; done), c⟩
    · exfalso
      omega
  | succ n ih =>
    intro a b l l7 l8 l9 ha a0 hbl z hz
    simp only [lu] at hz
    have hb := wf_hb hw
    have es : spr (hi M) (m - 1).toNat a = hg (hi M) (m - 1).toNat a - lo (hi M) (m - 1).toNat a := rfl
    have b1 := hg_bd hb (m - 1).toNat a a0 (by omega)
    have b2 := lo_bd hb (m - 1).toNat a a0 (by omega)
    have b3 := lo_hg (hi M) (m - 1).toNat a
    refine r_iload dX9_lullOf_13 rfl ?_
    refine r_iload_n dX9_lullOf_15 rfl ?_
    refine i_iadd dX9_lullOf_16 ?_
    refine i_sipush dX9_lullOf_17 (by decide) ?_
    refine i_icmp_gt 172 dX9_lullOf_20 rfl ⟨by omega, by omega⟩ ⟨by omega, by omega⟩ (fun q20 => ?_) (fun q20 => ?_)
    · exfalso
      omega
    · skip
      refine r_aload_n dX9_lullOf_23 rfl ?_
      refine r_get (k := 0) lfX9_28 dX9_lullOf_24 (Nat.le_of_ble_eq_true rfl) rfl rfl ?_
      refine r_iload dX9_lullOf_27 rfl ?_
      refine i_ald (k := 7) dX9_lullOf_29 (Nat.le_of_ble_eq_true rfl) rfl rfl ⟨by omega, by omega⟩ (by decide) ?_
      rw [c.2 a (by omega) (by omega)]
      refine r_istore dX9_lullOf_30 (Nat.le_of_ble_eq_true rfl) ?_
      refine r_aload_n dX9_lullOf_32 rfl ?_
      refine r_get (k := 0) lfX9_28 dX9_lullOf_33 (Nat.le_of_ble_eq_true rfl) rfl rfl ?_
      refine r_iload dX9_lullOf_36 rfl ?_
      refine i_ald (k := 7) dX9_lullOf_38 (Nat.le_of_ble_eq_true rfl) rfl rfl ⟨by omega, by omega⟩ (by decide) ?_
      rw [c.2 a (by omega) (by omega)]
      refine r_istore dX9_lullOf_39 (Nat.le_of_ble_eq_true rfl) ?_
      refine r_iload dX9_lullOf_41 rfl ?_
      refine r_istore dX9_lullOf_43 (Nat.le_of_ble_eq_true rfl) ?_
      refine m_lull_in σ (hi M) c.2 hb t m w b l a m0 a0 (by omega) _ ?_ m.toNat a 0 _ _ (by omega) (Or.inr ⟨rfl, rfl⟩) rfl rfl
      refine r_iload dX9_lullOf_112 rfl ?_
      refine i_const dX9_lullOf_114 ?_
      refine i_icmp_eq 128 dX9_lullOf_115 rfl ⟨by omega, by omega⟩ ⟨by omega, by omega⟩ (fun q115 => ?_) (fun q115 => ?_)
      · skip
        refine i_const dX9_lullOf_128 ?_
        refine r_goto 133 dX9_lullOf_129 rfl ?_
        refine r_istore dX9_lullOf_133 (Nat.le_of_ble_eq_true rfl) ?_
        refine r_iload dX9_lullOf_135 rfl ?_
        refine i_if_eq 145 dX9_lullOf_137 rfl ⟨by omega, by omega⟩ (fun q137 => ?_) (fun q137 => ?_)
        · exfalso
          omega
        · skip
          refine r_iload dX9_lullOf_140 rfl ?_
          refine r_goto 147 dX9_lullOf_142 rfl ?_
          refine r_istore dX9_lullOf_147 (Nat.le_of_ble_eq_true rfl) ?_
          refine r_iload dX9_lullOf_149 rfl ?_
          refine i_if_eq 162 dX9_lullOf_151 rfl ⟨by omega, by omega⟩ (fun q151 => ?_) (fun q151 => ?_)
          · exfalso
            omega
          · skip
            refine r_iload dX9_lullOf_154 rfl ?_
            refine r_iload dX9_lullOf_156 rfl ?_
            refine i_isub dX9_lullOf_158 ?_
            refine r_goto 164 dX9_lullOf_159 rfl ?_
            refine r_istore dX9_lullOf_164 (Nat.le_of_ble_eq_true rfl) ?_
            refine i_iinc dX9_lullOf_166 rfl (Nat.le_of_ble_eq_true rfl) ?_
            refine r_goto 13 dX9_lullOf_169 rfl ?_
            first
              | (rw [if_pos (by omega)] at hz; exact ih _ _ _ _ _ _ (by omega) (by omega) (by omega) z hz)
              | (rw [if_neg (by omega)] at hz; exact ih _ _ _ _ _ _ (by omega) (by omega) (by omega) z hz)
      · skip
        refine r_iload dX9_lullOf_118 rfl ?_
        refine r_iload dX9_lullOf_120 rfl ?_
        refine i_isub dX9_lullOf_122 ?_
        refine r_iload dX9_lullOf_123 rfl ?_
        refine i_icmp_ge 132 dX9_lullOf_125 rfl ⟨by omega, by omega⟩ ⟨by omega, by omega⟩ (fun q125 => ?_) (fun q125 => ?_)
        · skip
          refine i_const dX9_lullOf_132 ?_
          refine r_istore dX9_lullOf_133 (Nat.le_of_ble_eq_true rfl) ?_
          refine r_iload dX9_lullOf_135 rfl ?_
          refine i_if_eq 145 dX9_lullOf_137 rfl ⟨by omega, by omega⟩ (fun q137 => ?_) (fun q137 => ?_)
          · skip
            refine r_iload dX9_lullOf_145 rfl ?_
            refine r_istore dX9_lullOf_147 (Nat.le_of_ble_eq_true rfl) ?_
            refine r_iload dX9_lullOf_149 rfl ?_
            refine i_if_eq 162 dX9_lullOf_151 rfl ⟨by omega, by omega⟩ (fun q151 => ?_) (fun q151 => ?_)
            · skip
              refine r_iload dX9_lullOf_162 rfl ?_
              refine r_istore dX9_lullOf_164 (Nat.le_of_ble_eq_true rfl) ?_
              refine i_iinc dX9_lullOf_166 rfl (Nat.le_of_ble_eq_true rfl) ?_
              refine r_goto 13 dX9_lullOf_169 rfl ?_
              first
                | (rw [if_pos (by omega)] at hz; exact ih _ _ _ _ _ _ (by omega) (by omega) (by omega) z hz)
                | (rw [if_neg (by omega)] at hz; exact ih _ _ _ _ _ _ (by omega) (by omega) (by omega) z hz)
            · exfalso
              omega
          · exfalso
            omega
        · skip
          refine i_const dX9_lullOf_128 ?_
          refine r_goto 133 dX9_lullOf_129 rfl ?_
          refine r_istore dX9_lullOf_133 (Nat.le_of_ble_eq_true rfl) ?_
          refine r_iload dX9_lullOf_135 rfl ?_
          refine i_if_eq 145 dX9_lullOf_137 rfl ⟨by omega, by omega⟩ (fun q137 => ?_) (fun q137 => ?_)
          · exfalso
            omega
          · skip
            refine r_iload dX9_lullOf_140 rfl ?_
            refine r_goto 147 dX9_lullOf_142 rfl ?_
            refine r_istore dX9_lullOf_147 (Nat.le_of_ble_eq_true rfl) ?_
            refine r_iload dX9_lullOf_149 rfl ?_
            refine i_if_eq 162 dX9_lullOf_151 rfl ⟨by omega, by omega⟩ (fun q151 => ?_) (fun q151 => ?_)
            · exfalso
              omega
            · skip
              refine r_iload dX9_lullOf_154 rfl ?_
              refine r_iload dX9_lullOf_156 rfl ?_
              refine i_isub dX9_lullOf_158 ?_
              refine r_goto 164 dX9_lullOf_159 rfl ?_
              refine r_istore dX9_lullOf_164 (Nat.le_of_ble_eq_true rfl) ?_
              refine i_iinc dX9_lullOf_166 rfl (Nat.le_of_ble_eq_true rfl) ?_
              refine r_goto 13 dX9_lullOf_169 rfl ?_
              first
                | (rw [if_pos (by omega)] at hz; exact ih _ _ _ _ _ _ (by omega) (by omega) (by omega) z hz)
                | (rw [if_neg (by omega)] at hz; exact ih _ _ _ _ _ _ (by omega) (by omega) (by omega) z hz)

set_option maxRecDepth 20000 in
theorem m_lullOf (M σ : rl_S) (c : IM M σ) (hw : WF M) (t : Int) (t0 : 0 ≤ t) (t1 : t < 400) (m w : Int) (m0 : 1 ≤ m ∧ m ≤ 100) (hw2 : w = 0 ∨ w = 1) : Ct mW mX9_lullOf [.ref 0, .int (iI t), .int (iI m), .int (iI w)] σ (pH M (if w = 0 then (luM M t m).1 else (luM M t m).2)) := by
  refine Ct.of plX9 (Nat.le_of_ble_eq_true rfl) ?_
  refine r_aload_n dX9_lullOf_0 rfl ?_
  refine i_cvV (m_lays M σ c hw) lmX9_117 dX9_lullOf_1 (Nat.le_of_ble_eq_true rfl) rfl ⟨_, _, rfl⟩ (by decide) (by decide) rfl rfl (Nat.le_of_ble_eq_true rfl) (fun σ1 c1 => ?_)
  refine i_const dX9_lullOf_4 ?_
  refine r_istore dX9_lullOf_5 (Nat.le_of_ble_eq_true rfl) ?_
  refine i_const dX9_lullOf_7 ?_
  refine r_istore dX9_lullOf_8 (Nat.le_of_ble_eq_true rfl) ?_
  refine r_iload_n dX9_lullOf_10 rfl ?_
  refine r_istore dX9_lullOf_11 (Nat.le_of_ble_eq_true rfl) ?_
  exact m_lull_l M σ1 c1 hw t m w m0 hw2 (401 - m - t).toNat t (-1) (-1) _ _ _ (by omega) t0 (Or.inl ⟨rfl, rfl⟩) _ rfl

set_option maxRecDepth 20000 in
theorem m_lull (M σ : rl_S) (c : IM M σ) (hw : WF M) (t m w : Int) (ht : -2147483648 ≤ t ∧ t < 2147483648) (hm : -2147483648 ≤ m ∧ m < 2147483648) (hw2 : -2147483648 ≤ w ∧ w < 2147483648) : Ct mW mX9_lull [.ref 0, .int (iI t), .int (iI m), .int (iI w)] σ (pM M (q_lull M t m w)) := by
  refine Ct.of plX9 (Nat.le_of_ble_eq_true rfl) ?_
  have ob1 := ob_bd (decide (0 ≤ t ∧ t ≤ 399))
  have ob2 := ob_bd (decide (1 ≤ m ∧ m ≤ 100))
  have ob3 := ob_bd (decide (0 ≤ w ∧ w ≤ 1))
  refine r_iload_n dX9_lull_0 rfl ?_
  refine i_csP (m_isTenth _ t ht) lmX9_90 dX9_lull_1 (by decide) (by decide) rfl rfl (Nat.le_of_ble_eq_true rfl) ?_
  refine i_if_eq 33 dX9_lull_4 rfl (ob_i32 _) (fun q4 => ?_) (fun q4 => ?_)
  · have e4 := ob_df q4
    refine i_bipush dX9_lull_33 (by decide) ?_
    refine r_iret rfl dX9_lull_35 ?_
    first
      | exact ⟨_, rfl, by rw [hd.1]; exact (if_pos (by omega)).symm, hd.2.1.1⟩
      | exact ⟨_, rfl, by unfold q_lull; rw [if_neg (by omega)], c⟩
  · have e4 := ob_dt q4
    refine r_iload_n dX9_lull_7 rfl ?_
    refine i_csP (m_isMany _ m hm) lmX9_141 dX9_lull_8 (by decide) (by decide) rfl rfl (Nat.le_of_ble_eq_true rfl) ?_
    refine i_if_eq 33 dX9_lull_11 rfl (ob_i32 _) (fun q11 => ?_) (fun q11 => ?_)
    · have e11 := ob_df q11
      refine i_bipush dX9_lull_33 (by decide) ?_
      refine r_iret rfl dX9_lull_35 ?_
      first
        | exact ⟨_, rfl, by rw [hd.1]; exact (if_pos (by omega)).symm, hd.2.1.1⟩
        | exact ⟨_, rfl, by unfold q_lull; rw [if_neg (by omega)], c⟩
    · have e11 := ob_dt q11
      refine r_iload_n dX9_lull_14 rfl ?_
      refine i_const dX9_lull_15 ?_
      refine i_const dX9_lull_16 ?_
      refine i_csP (m_in σ w 0 1 hw2 (by decide) (by decide)) lmX9_55 dX9_lull_17 (by decide) (by decide) rfl rfl (Nat.le_of_ble_eq_true rfl) ?_
      refine i_if_eq 33 dX9_lull_20 rfl (ob_i32 _) (fun q20 => ?_) (fun q20 => ?_)
      · have e20 := ob_df q20
        refine i_bipush dX9_lull_33 (by decide) ?_
        refine r_iret rfl dX9_lull_35 ?_
        first
          | exact ⟨_, rfl, by rw [hd.1]; exact (if_pos (by omega)).symm, hd.2.1.1⟩
          | exact ⟨_, rfl, by unfold q_lull; rw [if_neg (by omega)], c⟩
      · have e20 := ob_dt q20
        refine r_aload_n dX9_lull_23 rfl ?_
        refine r_iload_n dX9_lull_24 rfl ?_
        refine r_iload_n dX9_lull_25 rfl ?_
        refine r_iload_n dX9_lull_26 rfl ?_
        refine i_cvI (m_lullOf M σ c hw t (by omega) (by omega) m w (by omega) (by omega)) lmX9_144 dX9_lull_27 (Nat.le_of_ble_eq_true rfl) rfl ⟨_, _, rfl⟩ (by decide) (by decide) rfl rfl (Nat.le_of_ble_eq_true rfl) (fun z1 σ1 hd => ?_)
        refine r_goto 35 dX9_lull_30 rfl ?_
        refine r_iret rfl dX9_lull_35 ?_
        first
          | exact ⟨_, rfl, by rw [hd.1]; exact (if_pos (by omega)).symm, hd.2.1.1⟩
          | exact ⟨_, rfl, by unfold q_lull; rw [if_neg (by omega)], c⟩

set_option maxRecDepth 20000 in
theorem m_stepNow (M σ : rl_S) (c : IH M σ) (hw : WF M) (t : Int) (t0 : 0 ≤ t) (t1 : t < 400) : Ct mW mX9_stepNow [.ref 0, .int (iI t)] σ (pR (.int (iI (stp M t))) σ) := by
  refine Ct.of plX9 (Nat.le_of_ble_eq_true rfl) ?_
  have st := wf_set hw
  have b1 := wf_hb hw t t0 t1
  have k0 : σ 6 (0 : Int).toNat = M 6 0 := c.1.1.1 6 0 (by decide)
  have k3 : σ 6 (3 : Int).toNat = M 6 3 := c.1.1.1 6 3 (by decide)
  refine r_aload_n dX9_stepNow_0 rfl ?_
  refine r_get (k := 0) lfX9_25 dX9_stepNow_1 (Nat.le_of_ble_eq_true rfl) rfl rfl ?_
  refine i_const dX9_stepNow_4 ?_
  refine i_ald (k := 6) dX9_stepNow_5 (Nat.le_of_ble_eq_true rfl) rfl rfl ⟨by omega, by omega⟩ (by decide) ?_
  rw [k0]
  refine r_aload_n dX9_stepNow_6 rfl ?_
  refine r_get (k := 0) lfX9_28 dX9_stepNow_7 (Nat.le_of_ble_eq_true rfl) rfl rfl ?_
  refine r_iload_n dX9_stepNow_10 rfl ?_
  refine i_ald (k := 7) dX9_stepNow_11 (Nat.le_of_ble_eq_true rfl) rfl rfl ⟨by omega, by omega⟩ (by decide) ?_
  rw [c.2 t t0 t1]
  refine i_isub dX9_stepNow_12 ?_
  refine r_aload_n dX9_stepNow_13 rfl ?_
  refine r_get (k := 0) lfX9_25 dX9_stepNow_14 (Nat.le_of_ble_eq_true rfl) rfl rfl ?_
  refine i_const dX9_stepNow_17 ?_
  refine i_ald (k := 6) dX9_stepNow_18 (Nat.le_of_ble_eq_true rfl) rfl rfl ⟨by omega, by omega⟩ (by decide) ?_
  rw [k3]
  refine i_icmp_le 26 dX9_stepNow_19 rfl ⟨by omega, by omega⟩ ⟨by omega, by omega⟩ (fun q19 => ?_) (fun q19 => ?_)
  · skip
    refine r_aload_n dX9_stepNow_26 rfl ?_
    refine r_iload_n dX9_stepNow_27 rfl ?_
    refine i_cvP (m_doesNow σ (hi M) c.2 (wf_hb hw) t t0 t1) lmX9_120 dX9_stepNow_28 (Nat.le_of_ble_eq_true rfl) rfl ⟨_, _, rfl⟩ (by decide) (by decide) rfl rfl (Nat.le_of_ble_eq_true rfl) ?_
    refine r_iret rfl dX9_stepNow_31 ?_
    refine ⟨?_, rfl⟩
    unfold stp
    first
      | (rw [if_pos (by omega)])
      | (rw [if_neg (by omega)])
  · skip
    refine i_const dX9_stepNow_22 ?_
    refine r_goto 31 dX9_stepNow_23 rfl ?_
    refine r_iret rfl dX9_stepNow_31 ?_
    refine ⟨?_, rfl⟩
    unfold stp
    first
      | (rw [if_pos (by omega)])
      | (rw [if_neg (by omega)])

set_option maxRecDepth 20000 in
theorem m_stepOf (M σ : rl_S) (c : IM M σ) (hw : WF M) (t : Int) (t0 : 0 ≤ t) (t1 : t < 400) : Ct mW mX9_stepOf [.ref 0, .int (iI t)] σ (pH M (stp M t)) := by
  refine Ct.of plX9 (Nat.le_of_ble_eq_true rfl) ?_
  refine r_aload_n dX9_stepOf_0 rfl ?_
  refine i_cvV (m_lays M σ c hw) lmX9_117 dX9_stepOf_1 (Nat.le_of_ble_eq_true rfl) rfl ⟨_, _, rfl⟩ (by decide) (by decide) rfl rfl (Nat.le_of_ble_eq_true rfl) (fun σ1 c1 => ?_)
  refine r_aload_n dX9_stepOf_4 rfl ?_
  refine r_iload_n dX9_stepOf_5 rfl ?_
  refine i_cvP (m_stepNow M σ1 c1 hw t t0 t1) lmX9_148 dX9_stepOf_6 (Nat.le_of_ble_eq_true rfl) rfl ⟨_, _, rfl⟩ (by decide) (by decide) rfl rfl (Nat.le_of_ble_eq_true rfl) ?_
  refine r_iret rfl dX9_stepOf_9 ?_
  exact ⟨_, rfl, rfl, c1⟩

set_option maxRecDepth 20000 in
theorem m_step (M σ : rl_S) (c : IM M σ) (hw : WF M) (t : Int) (ht : -2147483648 ≤ t ∧ t < 2147483648) : Ct mW mX9_step [.ref 0, .int (iI t)] σ (pM M (q_step M t)) := by
  refine Ct.of plX9 (Nat.le_of_ble_eq_true rfl) ?_
  have ob1 := ob_bd (decide (0 ≤ t ∧ t ≤ 399))
  refine r_iload_n dX9_step_0 rfl ?_
  refine i_csP (m_isTenth _ t ht) lmX9_90 dX9_step_1 (by decide) (by decide) rfl rfl (Nat.le_of_ble_eq_true rfl) ?_
  refine i_if_eq 15 dX9_step_4 rfl (ob_i32 _) (fun q4 => ?_) (fun q4 => ?_)
  · have e4 := ob_df q4
    refine i_bipush dX9_step_15 (by decide) ?_
    refine r_iret rfl dX9_step_17 ?_
    first
      | exact ⟨_, rfl, by rw [hd.1]; exact (if_pos (by omega)).symm, hd.2.1.1⟩
      | exact ⟨_, rfl, by unfold q_step; rw [if_neg (by omega)], c⟩
  · have e4 := ob_dt q4
    refine r_aload_n dX9_step_7 rfl ?_
    refine r_iload_n dX9_step_8 rfl ?_
    refine i_cvI (m_stepOf M σ c hw t (by omega) (by omega)) lmX9_151 dX9_step_9 (Nat.le_of_ble_eq_true rfl) rfl ⟨_, _, rfl⟩ (by decide) (by decide) rfl rfl (Nat.le_of_ble_eq_true rfl) (fun z1 σ1 hd => ?_)
    refine r_goto 17 dX9_step_12 rfl ?_
    refine r_iret rfl dX9_step_17 ?_
    first
      | exact ⟨_, rfl, by rw [hd.1]; exact (if_pos (by omega)).symm, hd.2.1.1⟩
      | exact ⟨_, rfl, by unfold q_step; rw [if_neg (by omega)], c⟩

set_option maxRecDepth 20000 in
theorem m_fallNow (M σ : rl_S) (c : IH M σ) (hw : WF M) (t : Int) (t0 : 0 ≤ t) (t1 : t < 400) : Ct mW mX9_fallNow [.ref 0, .int (iI t)] σ (pR (.int (iI (fll M t))) σ) := by
  refine Ct.of plX9 (Nat.le_of_ble_eq_true rfl) ?_
  have st := wf_set hw
  have sb := stp_bd M t
  have k4 : σ 6 (4 : Int).toNat = M 6 4 := c.1.1.1 6 4 (by decide)
  have k5 : σ 6 (5 : Int).toNat = M 6 5 := c.1.1.1 6 5 (by decide)
  have k6 : σ 6 (6 : Int).toNat = M 6 6 := c.1.1.1 6 6 (by decide)
  have k7 : σ 6 (7 : Int).toNat = M 6 7 := c.1.1.1 6 7 (by decide)
  have k9 : σ 6 (9 : Int).toNat = M 6 9 := c.1.1.1 6 9 (by decide)
  refine r_aload_n dX9_fallNow_0 rfl ?_
  refine r_iload_n dX9_fallNow_1 rfl ?_
  refine i_cvP (m_stepNow M σ c hw t t0 t1) lmX9_148 dX9_fallNow_2 (Nat.le_of_ble_eq_true rfl) rfl ⟨_, _, rfl⟩ (by decide) (by decide) rfl rfl (Nat.le_of_ble_eq_true rfl) ?_
  refine r_istore_n dX9_fallNow_5 (Nat.le_of_ble_eq_true rfl) ?_
  refine r_aload_n dX9_fallNow_6 rfl ?_
  refine r_get (k := 0) lfX9_25 dX9_fallNow_7 (Nat.le_of_ble_eq_true rfl) rfl rfl ?_
  refine r_iload_n dX9_fallNow_10 rfl ?_
  refine i_if_ne 19 dX9_fallNow_11 rfl ⟨by omega, by omega⟩ (fun q11 => ?_) (fun q11 => ?_)
  · skip
    refine r_iload_n dX9_fallNow_19 rfl ?_
    refine i_const dX9_fallNow_20 ?_
    refine i_icmp_ne 28 dX9_fallNow_21 rfl ⟨by omega, by omega⟩ ⟨by omega, by omega⟩ (fun q21 => ?_) (fun q21 => ?_)
    · skip
      refine r_iload_n dX9_fallNow_28 rfl ?_
      refine i_const dX9_fallNow_29 ?_
      refine i_icmp_ne 37 dX9_fallNow_30 rfl ⟨by omega, by omega⟩ ⟨by omega, by omega⟩ (fun q30 => ?_) (fun q30 => ?_)
      · skip
        refine i_bipush dX9_fallNow_37 (by decide) ?_
        refine i_ald (k := 6) dX9_fallNow_39 (Nat.le_of_ble_eq_true rfl) rfl rfl ⟨by omega, by omega⟩ (by decide) ?_
        first | rw [k7] | rw [k4] | rw [k5] | rw [k6]
        refine r_aload_n dX9_fallNow_40 rfl ?_
        refine r_get (k := 0) lfX9_25 dX9_fallNow_41 (Nat.le_of_ble_eq_true rfl) rfl rfl ?_
        refine i_bipush dX9_fallNow_44 (by decide) ?_
        refine i_ald (k := 6) dX9_fallNow_46 (Nat.le_of_ble_eq_true rfl) rfl rfl ⟨by omega, by omega⟩ (by decide) ?_
        rw [k9]
        refine i_iadd dX9_fallNow_47 ?_
        refine r_istore_n dX9_fallNow_48 (Nat.le_of_ble_eq_true rfl) ?_
        refine r_iload_n dX9_fallNow_49 rfl ?_
        refine i_const dX9_fallNow_50 ?_
        refine i_icmp_eq 60 dX9_fallNow_51 rfl ⟨by omega, by omega⟩ ⟨by omega, by omega⟩ (fun q51 => ?_) (fun q51 => ?_)
        · skip
          refine i_bipush dX9_fallNow_60 (by decide) ?_
          refine r_goto 66 dX9_fallNow_62 rfl ?_
          refine r_iret rfl dX9_fallNow_66 ?_
          refine ⟨?_, rfl⟩
          unfold fll
          (repeat (first | (rw [if_pos (by omega)]) | (rw [if_neg (by omega)])))
          all_goals (congr 3; omega)
        · skip
          refine r_iload_n dX9_fallNow_54 rfl ?_
          refine i_bipush dX9_fallNow_55 (by decide) ?_
          refine i_icmp_le 65 dX9_fallNow_57 rfl ⟨by omega, by omega⟩ ⟨by omega, by omega⟩ (fun q57 => ?_) (fun q57 => ?_)
          · skip
            refine r_iload_n dX9_fallNow_65 rfl ?_
            refine r_iret rfl dX9_fallNow_66 ?_
            refine ⟨?_, rfl⟩
            unfold fll
            (repeat (first | (rw [if_pos (by omega)]) | (rw [if_neg (by omega)])))
            all_goals (congr 3; omega)
          · skip
            refine i_bipush dX9_fallNow_60 (by decide) ?_
            refine r_goto 66 dX9_fallNow_62 rfl ?_
            refine r_iret rfl dX9_fallNow_66 ?_
            refine ⟨?_, rfl⟩
            unfold fll
            (repeat (first | (rw [if_pos (by omega)]) | (rw [if_neg (by omega)])))
            all_goals (congr 3; omega)
      · skip
        refine i_const dX9_fallNow_33 ?_
        refine r_goto 39 dX9_fallNow_34 rfl ?_
        refine i_ald (k := 6) dX9_fallNow_39 (Nat.le_of_ble_eq_true rfl) rfl rfl ⟨by omega, by omega⟩ (by decide) ?_
        first | rw [k7] | rw [k4] | rw [k5] | rw [k6]
        refine r_aload_n dX9_fallNow_40 rfl ?_
        refine r_get (k := 0) lfX9_25 dX9_fallNow_41 (Nat.le_of_ble_eq_true rfl) rfl rfl ?_
        refine i_bipush dX9_fallNow_44 (by decide) ?_
        refine i_ald (k := 6) dX9_fallNow_46 (Nat.le_of_ble_eq_true rfl) rfl rfl ⟨by omega, by omega⟩ (by decide) ?_
        rw [k9]
        refine i_iadd dX9_fallNow_47 ?_
        refine r_istore_n dX9_fallNow_48 (Nat.le_of_ble_eq_true rfl) ?_
        refine r_iload_n dX9_fallNow_49 rfl ?_
        refine i_const dX9_fallNow_50 ?_
        refine i_icmp_eq 60 dX9_fallNow_51 rfl ⟨by omega, by omega⟩ ⟨by omega, by omega⟩ (fun q51 => ?_) (fun q51 => ?_)
        · skip
          refine i_bipush dX9_fallNow_60 (by decide) ?_
          refine r_goto 66 dX9_fallNow_62 rfl ?_
          refine r_iret rfl dX9_fallNow_66 ?_
          refine ⟨?_, rfl⟩
          unfold fll
          (repeat (first | (rw [if_pos (by omega)]) | (rw [if_neg (by omega)])))
          all_goals (congr 3; omega)
        · skip
          refine r_iload_n dX9_fallNow_54 rfl ?_
          refine i_bipush dX9_fallNow_55 (by decide) ?_
          refine i_icmp_le 65 dX9_fallNow_57 rfl ⟨by omega, by omega⟩ ⟨by omega, by omega⟩ (fun q57 => ?_) (fun q57 => ?_)
          · skip
            refine r_iload_n dX9_fallNow_65 rfl ?_
            refine r_iret rfl dX9_fallNow_66 ?_
            refine ⟨?_, rfl⟩
            unfold fll
            (repeat (first | (rw [if_pos (by omega)]) | (rw [if_neg (by omega)])))
            all_goals (congr 3; omega)
          · skip
            refine i_bipush dX9_fallNow_60 (by decide) ?_
            refine r_goto 66 dX9_fallNow_62 rfl ?_
            refine r_iret rfl dX9_fallNow_66 ?_
            refine ⟨?_, rfl⟩
            unfold fll
            (repeat (first | (rw [if_pos (by omega)]) | (rw [if_neg (by omega)])))
            all_goals (congr 3; omega)
    · skip
      refine i_const dX9_fallNow_24 ?_
      refine r_goto 39 dX9_fallNow_25 rfl ?_
      refine i_ald (k := 6) dX9_fallNow_39 (Nat.le_of_ble_eq_true rfl) rfl rfl ⟨by omega, by omega⟩ (by decide) ?_
      first | rw [k7] | rw [k4] | rw [k5] | rw [k6]
      refine r_aload_n dX9_fallNow_40 rfl ?_
      refine r_get (k := 0) lfX9_25 dX9_fallNow_41 (Nat.le_of_ble_eq_true rfl) rfl rfl ?_
      refine i_bipush dX9_fallNow_44 (by decide) ?_
      refine i_ald (k := 6) dX9_fallNow_46 (Nat.le_of_ble_eq_true rfl) rfl rfl ⟨by omega, by omega⟩ (by decide) ?_
      rw [k9]
      refine i_iadd dX9_fallNow_47 ?_
      refine r_istore_n dX9_fallNow_48 (Nat.le_of_ble_eq_true rfl) ?_
      refine r_iload_n dX9_fallNow_49 rfl ?_
      refine i_const dX9_fallNow_50 ?_
      refine i_icmp_eq 60 dX9_fallNow_51 rfl ⟨by omega, by omega⟩ ⟨by omega, by omega⟩ (fun q51 => ?_) (fun q51 => ?_)
      · skip
        refine i_bipush dX9_fallNow_60 (by decide) ?_
        refine r_goto 66 dX9_fallNow_62 rfl ?_
        refine r_iret rfl dX9_fallNow_66 ?_
        refine ⟨?_, rfl⟩
        unfold fll
        (repeat (first | (rw [if_pos (by omega)]) | (rw [if_neg (by omega)])))
        all_goals (congr 3; omega)
      · skip
        refine r_iload_n dX9_fallNow_54 rfl ?_
        refine i_bipush dX9_fallNow_55 (by decide) ?_
        refine i_icmp_le 65 dX9_fallNow_57 rfl ⟨by omega, by omega⟩ ⟨by omega, by omega⟩ (fun q57 => ?_) (fun q57 => ?_)
        · skip
          refine r_iload_n dX9_fallNow_65 rfl ?_
          refine r_iret rfl dX9_fallNow_66 ?_
          refine ⟨?_, rfl⟩
          unfold fll
          (repeat (first | (rw [if_pos (by omega)]) | (rw [if_neg (by omega)])))
          all_goals (congr 3; omega)
        · skip
          refine i_bipush dX9_fallNow_60 (by decide) ?_
          refine r_goto 66 dX9_fallNow_62 rfl ?_
          refine r_iret rfl dX9_fallNow_66 ?_
          refine ⟨?_, rfl⟩
          unfold fll
          (repeat (first | (rw [if_pos (by omega)]) | (rw [if_neg (by omega)])))
          all_goals (congr 3; omega)
  · skip
    refine i_bipush dX9_fallNow_14 (by decide) ?_
    refine r_goto 39 dX9_fallNow_16 rfl ?_
    refine i_ald (k := 6) dX9_fallNow_39 (Nat.le_of_ble_eq_true rfl) rfl rfl ⟨by omega, by omega⟩ (by decide) ?_
    first | rw [k7] | rw [k4] | rw [k5] | rw [k6]
    refine r_aload_n dX9_fallNow_40 rfl ?_
    refine r_get (k := 0) lfX9_25 dX9_fallNow_41 (Nat.le_of_ble_eq_true rfl) rfl rfl ?_
    refine i_bipush dX9_fallNow_44 (by decide) ?_
    refine i_ald (k := 6) dX9_fallNow_46 (Nat.le_of_ble_eq_true rfl) rfl rfl ⟨by omega, by omega⟩ (by decide) ?_
    rw [k9]
    refine i_iadd dX9_fallNow_47 ?_
    refine r_istore_n dX9_fallNow_48 (Nat.le_of_ble_eq_true rfl) ?_
    refine r_iload_n dX9_fallNow_49 rfl ?_
    refine i_const dX9_fallNow_50 ?_
    refine i_icmp_eq 60 dX9_fallNow_51 rfl ⟨by omega, by omega⟩ ⟨by omega, by omega⟩ (fun q51 => ?_) (fun q51 => ?_)
    · skip
      refine i_bipush dX9_fallNow_60 (by decide) ?_
      refine r_goto 66 dX9_fallNow_62 rfl ?_
      refine r_iret rfl dX9_fallNow_66 ?_
      refine ⟨?_, rfl⟩
      unfold fll
      (repeat (first | (rw [if_pos (by omega)]) | (rw [if_neg (by omega)])))
      all_goals (congr 3; omega)
    · skip
      refine r_iload_n dX9_fallNow_54 rfl ?_
      refine i_bipush dX9_fallNow_55 (by decide) ?_
      refine i_icmp_le 65 dX9_fallNow_57 rfl ⟨by omega, by omega⟩ ⟨by omega, by omega⟩ (fun q57 => ?_) (fun q57 => ?_)
      · skip
        refine r_iload_n dX9_fallNow_65 rfl ?_
        refine r_iret rfl dX9_fallNow_66 ?_
        refine ⟨?_, rfl⟩
        unfold fll
        (repeat (first | (rw [if_pos (by omega)]) | (rw [if_neg (by omega)])))
        all_goals (congr 3; omega)
      · skip
        refine i_bipush dX9_fallNow_60 (by decide) ?_
        refine r_goto 66 dX9_fallNow_62 rfl ?_
        refine r_iret rfl dX9_fallNow_66 ?_
        refine ⟨?_, rfl⟩
        unfold fll
        (repeat (first | (rw [if_pos (by omega)]) | (rw [if_neg (by omega)])))
        all_goals (congr 3; omega)

set_option maxRecDepth 20000 in
theorem m_fallOf (M σ : rl_S) (c : IM M σ) (hw : WF M) (t : Int) (t0 : 0 ≤ t) (t1 : t < 400) : Ct mW mX9_fallOf [.ref 0, .int (iI t)] σ (pH M (fll M t)) := by
  refine Ct.of plX9 (Nat.le_of_ble_eq_true rfl) ?_
  refine r_aload_n dX9_fallOf_0 rfl ?_
  refine i_cvV (m_lays M σ c hw) lmX9_117 dX9_fallOf_1 (Nat.le_of_ble_eq_true rfl) rfl ⟨_, _, rfl⟩ (by decide) (by decide) rfl rfl (Nat.le_of_ble_eq_true rfl) (fun σ1 c1 => ?_)
  refine r_aload_n dX9_fallOf_4 rfl ?_
  refine r_iload_n dX9_fallOf_5 rfl ?_
  refine i_cvP (m_fallNow M σ1 c1 hw t t0 t1) lmX9_154 dX9_fallOf_6 (Nat.le_of_ble_eq_true rfl) rfl ⟨_, _, rfl⟩ (by decide) (by decide) rfl rfl (Nat.le_of_ble_eq_true rfl) ?_
  refine r_iret rfl dX9_fallOf_9 ?_
  exact ⟨_, rfl, rfl, c1⟩

set_option maxRecDepth 20000 in
theorem m_fall (M σ : rl_S) (c : IM M σ) (hw : WF M) (t : Int) (ht : -2147483648 ≤ t ∧ t < 2147483648) : Ct mW mX9_fall [.ref 0, .int (iI t)] σ (pM M (q_fall M t)) := by
  refine Ct.of plX9 (Nat.le_of_ble_eq_true rfl) ?_
  have ob1 := ob_bd (decide (0 ≤ t ∧ t ≤ 399))
  refine r_iload_n dX9_fall_0 rfl ?_
  refine i_csP (m_isTenth _ t ht) lmX9_90 dX9_fall_1 (by decide) (by decide) rfl rfl (Nat.le_of_ble_eq_true rfl) ?_
  refine i_if_eq 15 dX9_fall_4 rfl (ob_i32 _) (fun q4 => ?_) (fun q4 => ?_)
  · have e4 := ob_df q4
    refine i_bipush dX9_fall_15 (by decide) ?_
    refine r_iret rfl dX9_fall_17 ?_
    first
      | exact ⟨_, rfl, by rw [hd.1]; exact (if_pos (by omega)).symm, hd.2.1.1⟩
      | exact ⟨_, rfl, by unfold q_fall; rw [if_neg (by omega)], c⟩
  · have e4 := ob_dt q4
    refine r_aload_n dX9_fall_7 rfl ?_
    refine r_iload_n dX9_fall_8 rfl ?_
    refine i_cvI (m_fallOf M σ c hw t (by omega) (by omega)) lmX9_157 dX9_fall_9 (Nat.le_of_ble_eq_true rfl) rfl ⟨_, _, rfl⟩ (by decide) (by decide) rfl rfl (Nat.le_of_ble_eq_true rfl) (fun z1 σ1 hd => ?_)
    refine r_goto 17 dX9_fall_12 rfl ?_
    refine r_iret rfl dX9_fall_17 ?_
    first
      | exact ⟨_, rfl, by rw [hd.1]; exact (if_pos (by omega)).symm, hd.2.1.1⟩
      | exact ⟨_, rfl, by unfold q_fall; rw [if_neg (by omega)], c⟩

/-- what a climb changes -/
def frB (σ σ' : rl_S) : Prop := ∀ k i, (k = 0 → i ≠ 11) → σ' k i = σ k i
theorem ih_b {M σ σ' : rl_S} (h : IH M σ) (f : frB σ σ') : IH M σ' := ih_k h (fun k i g _ => f k i (fun q => (g q).1))
theorem frB_sup {σ σ' : rl_S} (f : frB σ σ') (x : Int) : frB σ (sup σ' 0 11 x) := fun k i g => by
  by_cases hk : k = 0
  · subst hk; rw [sup_i _ _ _ _ (g rfl)]; exact f 0 i g
  · rw [sup_k _ _ _ _ _ hk]; exact f k i g

theorem m_out (M σ : rl_S) (c : IH M σ) (hw : WF M) (t k : Int) (Post : Option Value → rl_S → Prop) : ∀ (n : Nat) (x : Int), ((x + n = 400) ∨ (n = 0 ∧ 400 ≤ x)) → 0 ≤ x → x ≤ 409 → (∀ y, x ≤ y → (y < 400 ∧ y = nout (len M) n x ∨ 400 ≤ y ∧ y ≤ 409 ∧ nout (len M) n x = 400) → Rn mW mX9_climbs 51 [.ref 0, .int (iI t), .int (iI y), .int (iI k)] [] σ Post) → Rn mW mX9_climbs 29 [.ref 0, .int (iI t), .int (iI x), .int (iI k)] [] σ Post := by
  intro n
  induction n with
  | zero =>
    intro x hx x0 x1 K
    refine r_iload_n dX9_climbs_29 rfl ?_
    refine i_sipush dX9_climbs_30 (by decide) ?_
    refine i_icmp_ge 51 dX9_climbs_33 rfl ⟨by omega, by omega⟩ ⟨by omega, by omega⟩ (fun q33 => ?_) (fun q33 => ?_)
    · skip
      exact K x (by omega) (Or.inr ⟨by omega, x1, rfl⟩)
    · exfalso
      omega
  | succ n ih =>
    intro x hx x0 x1 K
    have lb := ln_bd (gR M) (lR M) x
    change 0 ≤ len M x ∧ len M x ≤ 2 at lb
    have en : nout (len M) (n + 1) x = if len M x = 1 then nout (len M) n (x + 1) else x := rfl
    refine r_iload_n dX9_climbs_29 rfl ?_
    refine i_sipush dX9_climbs_30 (by decide) ?_
    refine i_icmp_ge 51 dX9_climbs_33 rfl ⟨by omega, by omega⟩ ⟨by omega, by omega⟩ (fun q33 => ?_) (fun q33 => ?_)
    · exfalso
      omega
    · skip
      refine r_aload_n dX9_climbs_36 rfl ?_
      refine r_iload_n dX9_climbs_37 rfl ?_
      refine i_cvP (m_leansNow M σ c.1 hw x (by omega) (by omega)) lmX9_126 dX9_climbs_38 (Nat.le_of_ble_eq_true rfl) rfl ⟨_, _, rfl⟩ (by decide) (by decide) rfl rfl (Nat.le_of_ble_eq_true rfl) ?_
      refine i_const dX9_climbs_41 ?_
      refine i_icmp_ne 51 dX9_climbs_42 rfl ⟨by omega, by omega⟩ ⟨by omega, by omega⟩ (fun q42 => ?_) (fun q42 => ?_)
      · skip
        rw [if_neg (by omega)] at en
        exact K x (by omega) (Or.inl ⟨by omega, by omega⟩)
      · skip
        refine i_iinc dX9_climbs_45 rfl (Nat.le_of_ble_eq_true rfl) ?_
        refine r_goto 29 dX9_climbs_48 rfl ?_
        rw [if_pos (by omega)] at en
        exact ih (x + 1) (by omega) (by omega) (by omega) (fun y y0 y1 => K y (by omega) (by omega))

theorem m_climb_l (M σ : rl_S) (c : IH M σ) (hw : WF M) (t : Int) : ∀ (n : Nat) (k a b : Int) (σ2 : rl_S), k + n = M 6 1 + 1 → 1 ≤ k → 0 ≤ a → a < 400 → frB σ σ2 → σ2 0 11 = b → ∀ r, r = clm (len M) (hi M) (M 6 0) (M 6 2) (M 6 10) n k a b → Rn mW mX9_climbs 9 [.ref 0, .int (iI t), .int (iI a), .int (iI k)] [] σ2 (qI (fun z σ' => z = r.1 ∧ σ' 0 11 = r.2 ∧ frB σ σ')) := by
  intro n
  have st := wf_set hw
  induction n with
  | zero =>
    intro k a b σ2 hk k1 a0 a1 hf eb r hr
    have c2 := ih_b c hf
    have k_1 : σ2 6 (1 : Int).toNat = M 6 1 := c2.1.1.1 6 1 (by decide)
    refine r_iload_n dX9_climbs_9 rfl ?_
    refine r_aload_n dX9_climbs_10 rfl ?_
    refine r_get (k := 0) lfX9_25 dX9_climbs_11 (Nat.le_of_ble_eq_true rfl) rfl rfl ?_
    refine i_const dX9_climbs_14 ?_
    refine i_ald (k := 6) dX9_climbs_15 (Nat.le_of_ble_eq_true rfl) rfl rfl ⟨by omega, by omega⟩ (by decide) ?_
    rw [k_1]
    refine i_icmp_gt 113 dX9_climbs_16 rfl ⟨by omega, by omega⟩ ⟨by omega, by omega⟩ (fun q16 => ?_) (fun q16 => ?_)
    · skip
      refine r_iload_n dX9_climbs_113 rfl ?_
      refine r_iret rfl dX9_climbs_114 ?_
      exact ⟨_, rfl, by rw [hr]; rfl, by rw [hr]; exact eb, hf⟩
    · exfalso
      omega
  | succ n ih =>
    intro k a b σ2 hk k1 a0 a1 hf eb r hr
    have c2 := ih_b c hf
    have k_1 : σ2 6 (1 : Int).toNat = M 6 1 := c2.1.1.1 6 1 (by decide)
    have k_10 : σ2 6 (10 : Int).toNat = M 6 10 := c2.1.1.1 6 10 (by decide)
    have k_0 : σ2 6 (0 : Int).toNat = M 6 0 := c2.1.1.1 6 0 (by decide)
    have k_2 : σ2 6 (2 : Int).toNat = M 6 2 := c2.1.1.1 6 2 (by decide)
    have kb : 0 ≤ k * M 6 2 ∧ k * M 6 2 ≤ 360 := ⟨Int.mul_nonneg (by omega) (by omega), by
      have := Int.mul_le_mul (show k ≤ 12 by omega) (show M 6 2 ≤ 30 by omega) (by omega) (by decide : (0 : Int) ≤ 12)
      omega⟩
    simp only [clm] at hr
    refine r_iload_n dX9_climbs_9 rfl ?_
    refine r_aload_n dX9_climbs_10 rfl ?_
    refine r_get (k := 0) lfX9_25 dX9_climbs_11 (Nat.le_of_ble_eq_true rfl) rfl rfl ?_
    refine i_const dX9_climbs_14 ?_
    refine i_ald (k := 6) dX9_climbs_15 (Nat.le_of_ble_eq_true rfl) rfl rfl ⟨by omega, by omega⟩ (by decide) ?_
    rw [k_1]
    refine i_icmp_gt 113 dX9_climbs_16 rfl ⟨by omega, by omega⟩ ⟨by omega, by omega⟩ (fun q16 => ?_) (fun q16 => ?_)
    · exfalso
      omega
    · skip
      refine r_iload_n dX9_climbs_19 rfl ?_
      refine r_aload_n dX9_climbs_20 rfl ?_
      refine r_get (k := 0) lfX9_25 dX9_climbs_21 (Nat.le_of_ble_eq_true rfl) rfl rfl ?_
      refine i_bipush dX9_climbs_24 (by decide) ?_
      refine i_ald (k := 6) dX9_climbs_26 (Nat.le_of_ble_eq_true rfl) rfl rfl ⟨by omega, by omega⟩ (by decide) ?_
      rw [k_10]
      refine i_iadd dX9_climbs_27 ?_
      refine r_istore_n dX9_climbs_28 (Nat.le_of_ble_eq_true rfl) ?_
      refine m_out M σ2 c2 hw t k _ (400 - (a + M 6 10)).toNat (a + M 6 10) (by omega) (by omega) (by omega) (fun y y0 hy => ?_)
      have b1 : y < 400 → 0 ≤ hi M y ∧ hi M y ≤ 3000 := fun q => wf_hb hw y (by omega) q
      have lb := ln_bd (gR M) (lR M) y
      change 0 ≤ len M y ∧ len M y ≤ 2 at lb
      refine r_iload_n dX9_climbs_51 rfl ?_
      refine i_sipush dX9_climbs_52 (by decide) ?_
      refine i_icmp_gt 82 dX9_climbs_55 rfl ⟨by omega, by omega⟩ ⟨by omega, by omega⟩ (fun q55 => ?_) (fun q55 => ?_)
      · skip
        refine i_const dX9_climbs_82 ?_
        refine r_iret rfl dX9_climbs_83 ?_
        exact ⟨_, rfl, by rw [hr, if_pos (by omega)], by rw [hr, if_pos (by omega)]; exact eb, hf⟩
      · skip
        have b1 := b1 (by omega)
        have ey : nout (len M) (400 - (a + M 6 10)).toNat (a + M 6 10) = y := by omega
        rw [ey] at hr
        refine r_aload_n dX9_climbs_58 rfl ?_
        refine r_get (k := 0) lfX9_28 dX9_climbs_59 (Nat.le_of_ble_eq_true rfl) rfl rfl ?_
        refine r_iload_n dX9_climbs_62 rfl ?_
        refine i_ald (k := 7) dX9_climbs_63 (Nat.le_of_ble_eq_true rfl) rfl rfl ⟨by omega, by omega⟩ (by decide) ?_
        rw [c2.2 y (by omega) (by omega)]
        refine r_aload_n dX9_climbs_64 rfl ?_
        refine r_get (k := 0) lfX9_25 dX9_climbs_65 (Nat.le_of_ble_eq_true rfl) rfl rfl ?_
        refine i_const dX9_climbs_68 ?_
        refine i_ald (k := 6) dX9_climbs_69 (Nat.le_of_ble_eq_true rfl) rfl rfl ⟨by omega, by omega⟩ (by decide) ?_
        rw [k_0]
        refine r_iload_n dX9_climbs_70 rfl ?_
        refine r_aload_n dX9_climbs_71 rfl ?_
        refine r_get (k := 0) lfX9_25 dX9_climbs_72 (Nat.le_of_ble_eq_true rfl) rfl rfl ?_
        refine i_const dX9_climbs_75 ?_
        refine i_ald (k := 6) dX9_climbs_76 (Nat.le_of_ble_eq_true rfl) rfl rfl ⟨by omega, by omega⟩ (by decide) ?_
        rw [k_2]
        refine i_imul dX9_climbs_77 ?_
        refine i_iadd dX9_climbs_78 ?_
        refine i_icmp_le 84 dX9_climbs_79 rfl ⟨by omega, by omega⟩ ⟨by omega, by omega⟩ (fun q79 => ?_) (fun q79 => ?_)
        · skip
          refine r_aload_n dX9_climbs_84 rfl ?_
          refine r_dup dX9_climbs_85 rfl ?_
          refine r_get (k := 0) lfX9_160 dX9_climbs_86 (Nat.le_of_ble_eq_true rfl) rfl rfl ?_
          rw [eb]
          refine r_aload_n dX9_climbs_89 rfl ?_
          refine r_iload_n dX9_climbs_90 rfl ?_
          refine i_cvP (m_leansNow M σ2 c2.1 hw y (by omega) (by omega)) lmX9_126 dX9_climbs_91 (Nat.le_of_ble_eq_true rfl) rfl ⟨_, _, rfl⟩ (by decide) (by decide) rfl rfl (Nat.le_of_ble_eq_true rfl) ?_
          refine i_const dX9_climbs_94 ?_
          refine i_icmp_ne 102 dX9_climbs_95 rfl ⟨by omega, by omega⟩ ⟨by omega, by omega⟩ (fun q95 => ?_) (fun q95 => ?_)
          · skip
            refine i_const dX9_climbs_102 ?_
            refine i_iadd dX9_climbs_103 ?_
            refine i_put (k := 0) lpX9_160 dX9_climbs_104 (Nat.le_of_ble_eq_true rfl) rfl rfl ?_
            refine i_iinc dX9_climbs_107 rfl (Nat.le_of_ble_eq_true rfl) ?_
            refine r_goto 9 dX9_climbs_110 rfl ?_
            rw [if_neg (by omega)] at hr
            first
              | (rw [if_pos (by omega)] at hr; exact ih (k + 1) y _ _ (by omega) (by omega) (by omega) (by omega) (frB_sup hf _) (sup_h _ _ _ _) r hr)
              | (rw [if_neg (by omega)] at hr; exact ih (k + 1) y _ _ (by omega) (by omega) (by omega) (by omega) (frB_sup hf _) (sup_h _ _ _ _) r hr)
          · skip
            refine i_const dX9_climbs_98 ?_
            refine r_goto 103 dX9_climbs_99 rfl ?_
            refine i_iadd dX9_climbs_103 ?_
            refine i_put (k := 0) lpX9_160 dX9_climbs_104 (Nat.le_of_ble_eq_true rfl) rfl rfl ?_
            refine i_iinc dX9_climbs_107 rfl (Nat.le_of_ble_eq_true rfl) ?_
            refine r_goto 9 dX9_climbs_110 rfl ?_
            rw [if_neg (by omega)] at hr
            first
              | (rw [if_pos (by omega)] at hr; exact ih (k + 1) y _ _ (by omega) (by omega) (by omega) (by omega) (frB_sup hf _) (sup_h _ _ _ _) r hr)
              | (rw [if_neg (by omega)] at hr; exact ih (k + 1) y _ _ (by omega) (by omega) (by omega) (by omega) (frB_sup hf _) (sup_h _ _ _ _) r hr)
        · skip
          refine i_const dX9_climbs_82 ?_
          refine r_iret rfl dX9_climbs_83 ?_
          exact ⟨_, rfl, by rw [hr, if_pos (by omega)], by rw [hr, if_pos (by omega)]; exact eb, hf⟩

set_option maxRecDepth 20000 in
theorem m_climbs (M σ : rl_S) (c : IH M σ) (hw : WF M) (t : Int) (t0 : 0 ≤ t) (t1 : t < 400) : Ct mW mX9_climbs [.ref 0, .int (iI t)] σ (qI (fun z σ' => z = (clM M t).1 ∧ σ' 0 11 = (clM M t).2 ∧ frB σ σ')) := by
  refine Ct.of plX9 (Nat.le_of_ble_eq_true rfl) ?_
  have st := wf_set hw
  refine r_iload_n dX9_climbs_0 rfl ?_
  refine r_istore_n dX9_climbs_1 (Nat.le_of_ble_eq_true rfl) ?_
  refine r_aload_n dX9_climbs_2 rfl ?_
  refine i_const dX9_climbs_3 ?_
  refine i_put (k := 0) lpX9_160 dX9_climbs_4 (Nat.le_of_ble_eq_true rfl) rfl rfl ?_
  refine i_const dX9_climbs_7 ?_
  refine r_istore_n dX9_climbs_8 (Nat.le_of_ble_eq_true rfl) ?_
  exact m_climb_l M σ c hw t (M 6 1).toNat 1 t 0 _ (by omega) (by omega) t0 t1 (frB_sup (fun _ _ _ => rfl) 0) (sup_h _ _ _ _) _ rfl

set_option maxRecDepth 20000 in
theorem m_climbOf (M σ : rl_S) (c : IM M σ) (hw : WF M) (t : Int) (t0 : 0 ≤ t) (t1 : t < 400) : Ct mW mX9_climbOf [.ref 0, .int (iI t)] σ (qI (fun z σ' => z = (clM M t).1 ∧ σ' 0 11 = (clM M t).2 ∧ IH M σ')) := by
  refine Ct.of plX9 (Nat.le_of_ble_eq_true rfl) ?_
  refine r_aload_n dX9_climbOf_0 rfl ?_
  refine i_cvV (m_lays M σ c hw) lmX9_117 dX9_climbOf_1 (Nat.le_of_ble_eq_true rfl) rfl ⟨_, _, rfl⟩ (by decide) (by decide) rfl rfl (Nat.le_of_ble_eq_true rfl) (fun σ1 c1 => ?_)
  refine r_aload_n dX9_climbOf_4 rfl ?_
  refine r_iload_n dX9_climbOf_5 rfl ?_
  refine i_cvI (m_climbs M σ1 c1 hw t t0 t1) lmX9_163 dX9_climbOf_6 (Nat.le_of_ble_eq_true rfl) rfl ⟨_, _, rfl⟩ (by decide) (by decide) rfl rfl (Nat.le_of_ble_eq_true rfl) (fun z2 σ2 hc => ?_)
  refine r_iret rfl dX9_climbOf_9 ?_
  exact ⟨_, rfl, hc.1, hc.2.1, ih_b c1 hc.2.2⟩

set_option maxRecDepth 20000 in
theorem m_climb (M σ : rl_S) (c : IM M σ) (hw : WF M) (t : Int) (ht : -2147483648 ≤ t ∧ t < 2147483648) : Ct mW mX9_climb [.ref 0, .int (iI t)] σ (pM M (q_climb M t)) := by
  refine Ct.of plX9 (Nat.le_of_ble_eq_true rfl) ?_
  have ob1 := ob_bd (decide (0 ≤ t ∧ t ≤ 399))
  refine r_iload_n dX9_climb_0 rfl ?_
  refine i_csP (m_isTenth _ t ht) lmX9_90 dX9_climb_1 (by decide) (by decide) rfl rfl (Nat.le_of_ble_eq_true rfl) ?_
  refine i_if_eq 15 dX9_climb_4 rfl (ob_i32 _) (fun q4 => ?_) (fun q4 => ?_)
  · have e4 := ob_df q4
    refine i_bipush dX9_climb_15 (by decide) ?_
    refine r_iret rfl dX9_climb_17 ?_
    first
      | exact ⟨_, rfl, by rw [hd.1]; exact (if_pos (by omega)).symm, hd.2.2.1.1⟩
      | exact ⟨_, rfl, by unfold q_climb; rw [if_neg (by omega)], c⟩
  · have e4 := ob_dt q4
    refine r_aload_n dX9_climb_7 rfl ?_
    refine r_iload_n dX9_climb_8 rfl ?_
    refine i_cvI (m_climbOf M σ c hw t (by omega) (by omega)) lmX9_166 dX9_climb_9 (Nat.le_of_ble_eq_true rfl) rfl ⟨_, _, rfl⟩ (by decide) (by decide) rfl rfl (Nat.le_of_ble_eq_true rfl) (fun z1 σ1 hd => ?_)
    refine r_goto 17 dX9_climb_12 rfl ?_
    refine r_iret rfl dX9_climb_17 ?_
    first
      | exact ⟨_, rfl, by rw [hd.1]; exact (if_pos (by omega)).symm, hd.2.2.1.1⟩
      | exact ⟨_, rfl, by unfold q_climb; rw [if_neg (by omega)], c⟩

set_option maxRecDepth 20000 in
theorem m_bangsOf (M σ : rl_S) (c : IM M σ) (hw : WF M) (t : Int) (t0 : 0 ≤ t) (t1 : t < 400) : Ct mW mX9_bangsOf [.ref 0, .int (iI t)] σ (pH M (clM M t).2) := by
  refine Ct.of plX9 (Nat.le_of_ble_eq_true rfl) ?_
  refine r_aload_n dX9_bangsOf_0 rfl ?_
  refine r_iload_n dX9_bangsOf_1 rfl ?_
  refine i_cvI (m_climbOf M σ c hw t t0 t1) lmX9_166 dX9_bangsOf_2 (Nat.le_of_ble_eq_true rfl) rfl ⟨_, _, rfl⟩ (by decide) (by decide) rfl rfl (Nat.le_of_ble_eq_true rfl) (fun z1 σ1 hd => ?_)
  refine r_istore_n dX9_bangsOf_5 (Nat.le_of_ble_eq_true rfl) ?_
  refine r_aload_n dX9_bangsOf_6 rfl ?_
  refine r_get (k := 0) lfX9_160 dX9_bangsOf_7 (Nat.le_of_ble_eq_true rfl) rfl rfl ?_
  refine r_iret rfl dX9_bangsOf_10 ?_
  exact ⟨_, rfl, hd.2.1, hd.2.2⟩

set_option maxRecDepth 20000 in
theorem m_bangs (M σ : rl_S) (c : IM M σ) (hw : WF M) (t : Int) (ht : -2147483648 ≤ t ∧ t < 2147483648) : Ct mW mX9_bangs [.ref 0, .int (iI t)] σ (pM M (q_bangs M t)) := by
  refine Ct.of plX9 (Nat.le_of_ble_eq_true rfl) ?_
  have ob1 := ob_bd (decide (0 ≤ t ∧ t ≤ 399))
  refine r_iload_n dX9_bangs_0 rfl ?_
  refine i_csP (m_isTenth _ t ht) lmX9_90 dX9_bangs_1 (by decide) (by decide) rfl rfl (Nat.le_of_ble_eq_true rfl) ?_
  refine i_if_eq 15 dX9_bangs_4 rfl (ob_i32 _) (fun q4 => ?_) (fun q4 => ?_)
  · have e4 := ob_df q4
    refine i_bipush dX9_bangs_15 (by decide) ?_
    refine r_iret rfl dX9_bangs_17 ?_
    first
      | exact ⟨_, rfl, by rw [hd.1]; exact (if_pos (by omega)).symm, hd.2.1.1⟩
      | exact ⟨_, rfl, by unfold q_bangs; rw [if_neg (by omega)], c⟩
  · have e4 := ob_dt q4
    refine r_aload_n dX9_bangs_7 rfl ?_
    refine r_iload_n dX9_bangs_8 rfl ?_
    refine i_cvI (m_bangsOf M σ c hw t (by omega) (by omega)) lmX9_169 dX9_bangs_9 (Nat.le_of_ble_eq_true rfl) rfl ⟨_, _, rfl⟩ (by decide) (by decide) rfl rfl (Nat.le_of_ble_eq_true rfl) (fun z1 σ1 hd => ?_)
    refine r_goto 17 dX9_bangs_12 rfl ?_
    refine r_iret rfl dX9_bangs_17 ?_
    first
      | exact ⟨_, rfl, by rw [hd.1]; exact (if_pos (by omega)).symm, hd.2.1.1⟩
      | exact ⟨_, rfl, by unfold q_bangs; rw [if_neg (by omega)], c⟩
