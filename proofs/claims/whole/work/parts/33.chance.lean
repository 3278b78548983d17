/-! chances -/
theorem prd_le (B b : Int) : ∀ n : Nat, (n : Int) ≤ b → prd B b n = (16 - B) ^ n
  | 0, _ => by rw [Int.pow_zero]; rfl
  | n + 1, h => by
    simp only [prd]
    rw [prd_le B b n (by omega), if_pos (by omega), Int.pow_succ]
theorem prd_ge (B : Int) (b : Nat) : ∀ j : Nat, prd B b (b + j) = (16 - B) ^ b * 16 ^ j
  | 0 => by rw [Nat.add_zero, prd_le B b b (by omega), Int.pow_zero, Int.mul_one]
  | j + 1 => by
    rw [show b + (j + 1) = (b + j) + 1 from rfl]
    simp only [prd]
    rw [prd_ge B b j, if_neg (by omega), Int.pow_succ, Int.mul_assoc]
theorem prd_12 (B : Int) {b : Int} (h : 0 ≤ b ∧ b ≤ 12) : prd B b 12 = (16 - B) ^ b.toNat * 16 ^ (12 - b).toNat := by
  obtain ⟨n, rfl⟩ := Int.eq_ofNat_of_zero_le h.1
  have := prd_ge B n (12 - n)
  rw [show n + (12 - n) = 12 by omega] at this
  rw [this, show ((n : Int)).toNat = n by omega, show (12 - (n : Int)).toNat = 12 - n by omega]
theorem red_gcd : ∀ (n a : Nat), red n (a : Int) ((2 ^ n : Nat) : Int) = (((a / Nat.gcd a (2 ^ n) : Nat) : Int), ((2 ^ n / Nat.gcd a (2 ^ n) : Nat) : Int))
  | 0, a => by
    rw [Nat.pow_zero, Nat.gcd_one_right, Nat.div_one]
    rfl
  | n + 1, a => by
    simp only [red]
    by_cases h : (a : Int) % 2 = 0
    · rw [if_pos h]
      have ha : a = 2 * (a / 2) := by omega
      generalize a / 2 = c at ha
      subst ha
      have e1 : ((2 * c : Nat) : Int) / 2 = (c : Int) := by omega
      have e2 : ((2 ^ (n + 1) : Nat) : Int) / 2 = ((2 ^ n : Nat) : Int) := by rw [Nat.pow_succ]; omega
      rw [e1, e2, red_gcd n c, Nat.pow_succ, Nat.mul_comm (2 ^ n) 2, Nat.gcd_mul_left, Nat.mul_div_mul_left _ _ (by decide), Nat.mul_div_mul_left _ _ (by decide)]
    · rw [if_neg h]
      have g : Nat.gcd a (2 ^ (n + 1)) = 1 := Nat.Coprime.pow_right (n + 1) (show Nat.gcd a 2 = 1 by
        rw [Nat.gcd_comm, Nat.gcd_rec, show a % 2 = 1 by omega, Nat.gcd_one_left])
      rw [g, Nat.div_one, Nat.div_one]
theorem red52 (a : Nat) : red 52 (a : Int) 4503599627370496 = (((a / Nat.gcd a 4503599627370496 : Nat) : Int), ((4503599627370496 / Nat.gcd a 4503599627370496 : Nat) : Int)) := by
  have e := red_gcd 52 a
  have p : (2 : Nat) ^ 52 = 4503599627370496 := by decide +kernel
  rw [p] at e
  have c : ((4503599627370496 : Nat) : Int) = 4503599627370496 := by omega
  rw [c] at e
  exact e
theorem m_power_l (σ : rl_S) (x m : Int) (x0 : 0 ≤ x ∧ x ≤ 16) (m0 : 0 ≤ m ∧ m ≤ 13) : ∀ (n : Nat) (k : Nat), (k : Int) + n = m → Rn mW mX9_power 5 [.int (iI x), .int (iI m), .long (lI (x ^ k)), .float 0, .int (iI (k : Int))] [] σ (pR (.long (lI (x ^ m.toNat))) σ) := by
  intro n
  induction n with
  | zero =>
    intro k hk
    refine r_iload dX9_power_5 rfl ?_
    refine r_iload_n dX9_power_7 rfl ?_
    refine i_icmp_ge 22 dX9_power_8 rfl ⟨by omega, by omega⟩ ⟨by omega, by omega⟩ (fun q8 => ?_) (fun q8 => ?_)
    · skip
      refine r_lload_n dX9_power_22 rfl ?_
      refine r_lret rfl dX9_power_23 ?_
      exact ⟨by rw [show m.toNat = k by omega], rfl⟩
    · exfalso
      omega
  | succ n ih =>
    intro k hk
    refine r_iload dX9_power_5 rfl ?_
    refine r_iload_n dX9_power_7 rfl ?_
    refine i_icmp_ge 22 dX9_power_8 rfl ⟨by omega, by omega⟩ ⟨by omega, by omega⟩ (fun q8 => ?_) (fun q8 => ?_)
    · exfalso
      omega
    · skip
      refine r_lload_n dX9_power_11 rfl ?_
      refine r_iload_n dX9_power_12 rfl ?_
      refine l_i2l dX9_power_13 ⟨by omega, by omega⟩ ?_
      refine l_mul dX9_power_14 ?_
      refine r_lstore_n dX9_power_15 (Nat.le_of_ble_eq_true rfl) ?_
      refine i_iinc dX9_power_16 rfl (Nat.le_of_ble_eq_true rfl) ?_
      refine r_goto 5 dX9_power_19 rfl ?_
      rw [show x ^ k * x = x ^ (k + 1) from (Int.pow_succ x k).symm, show (k : Int) + 1 = ((k + 1 : Nat) : Int) by omega]
      exact ih (k + 1) (by omega)

set_option maxRecDepth 20000 in
theorem m_power (σ : rl_S) (x m : Int) (x0 : 0 ≤ x ∧ x ≤ 16) (m0 : 0 ≤ m ∧ m ≤ 13) : Ct mW mX9_power [.int (iI x), .int (iI m)] σ (pR (.long (lI (x ^ m.toNat))) σ) := by
  refine Ct.of plX9 (Nat.le_of_ble_eq_true rfl) ?_
  refine l_const (v := 1) rfl dX9_power_0 ?_
  refine r_lstore_n dX9_power_1 (Nat.le_of_ble_eq_true rfl) ?_
  refine i_const dX9_power_2 ?_
  refine r_istore dX9_power_3 (Nat.le_of_ble_eq_true rfl) ?_
  have e1 := m_power_l σ x m x0 m0 m.toNat 0 (by omega)
  rw [Int.pow_zero] at e1
  exact e1

theorem m_lowest_l (σ : rl_S) (a b w : Int) (a0 : 0 ≤ a ∧ a ≤ 4503599627370496) (b0 : 0 ≤ b ∧ b ≤ 4503599627370496) (hw2 : -2147483648 ≤ w ∧ w < 2147483648) (g : Nat) (g0 : 0 < g) : ∀ (n : Nat) (y x : Nat) (l9 l10 : Value), y ≤ n → x ≤ 4503599627370496 → y ≤ 4503599627370496 → Nat.gcd x y = g → Rn mW mX9_lowest 6 [.long (lI a), .float 0, .long (lI b), .float 0, .int (iI w), .long (lI (x : Int)), .float 0, .long (lI (y : Int)), .float 0, l9, l10] [] σ (pR (.long (if w = 0 then lI (a / g) else lI (b / g))) σ) := by
  intro n
  have z0 : ∀ (x : Nat), Nat.gcd x 0 = g → x = g := fun x h => by rw [Nat.gcd_zero_right] at h; exact h
  induction n with
  | zero =>
    intro y x l9 l10 hy hx hy2 hg
    have hy0 : y = 0 := by omega
    subst hy0
    have ex := z0 x hg
    subst ex
    have hc : cmp ((0 : Nat) : Int) 0 = 0 := rfl
    refine r_lload dX9_lowest_6 rfl ?_
    refine l_const (v := 0) rfl dX9_lowest_8 ?_
    refine l_cmp dX9_lowest_9 ⟨by omega, by omega⟩ ⟨by omega, by omega⟩ ?_
    refine i_if_eq 31 dX9_lowest_10 rfl ⟨by omega, by omega⟩ (fun q10 => ?_) (fun q10 => ?_)
    · skip
      refine r_iload dX9_lowest_31 rfl ?_
      refine i_if_ne 43 dX9_lowest_33 rfl ⟨by omega, by omega⟩ (fun q33 => ?_) (fun q33 => ?_)
      · skip
        refine r_lload_n dX9_lowest_43 rfl ?_
        refine r_lload dX9_lowest_44 rfl ?_
        refine l_div dX9_lowest_46 ⟨by omega, by omega⟩ ⟨by omega, by omega⟩ ?_
        refine r_lret rfl dX9_lowest_47 ?_
        exact ⟨by first | (rw [if_pos (by omega)]; done) | (rw [if_neg (by omega)]; done), rfl⟩
      · skip
        refine r_lload_n dX9_lowest_36 rfl ?_
        refine r_lload dX9_lowest_37 rfl ?_
        refine l_div dX9_lowest_39 ⟨by omega, by omega⟩ ⟨by omega, by omega⟩ ?_
        refine r_goto 47 dX9_lowest_40 rfl ?_
        refine r_lret rfl dX9_lowest_47 ?_
        exact ⟨by first | (rw [if_pos (by omega)]; done) | (rw [if_neg (by omega)]; done), rfl⟩
    · exfalso
      omega
  | succ n ih =>
    intro y x l9 l10 hy hx hy2 hg
    have hb := cmp_bd (y : Int) 0
    have hc : cmp (y : Int) 0 = 0 ↔ y = 0 := by
      unfold cmp
      by_cases h : (0 : Int) < y
      · rw [if_pos h]; omega
      · rw [if_neg h]; split <;> omega
    by_cases hy0 : y = 0
    · subst hy0
      have ex := z0 x hg
      subst ex
      refine r_lload dX9_lowest_6 rfl ?_
      refine l_const (v := 0) rfl dX9_lowest_8 ?_
      refine l_cmp dX9_lowest_9 ⟨by omega, by omega⟩ ⟨by omega, by omega⟩ ?_
      refine i_if_eq 31 dX9_lowest_10 rfl ⟨by omega, by omega⟩ (fun q10 => ?_) (fun q10 => ?_)
      · skip
        refine r_iload dX9_lowest_31 rfl ?_
        refine i_if_ne 43 dX9_lowest_33 rfl ⟨by omega, by omega⟩ (fun q33 => ?_) (fun q33 => ?_)
        · skip
          refine r_lload_n dX9_lowest_43 rfl ?_
          refine r_lload dX9_lowest_44 rfl ?_
          refine l_div dX9_lowest_46 ⟨by omega, by omega⟩ ⟨by omega, by omega⟩ ?_
          refine r_lret rfl dX9_lowest_47 ?_
          exact ⟨by first | (rw [if_pos (by omega)]; done) | (rw [if_neg (by omega)]; done), rfl⟩
        · skip
          refine r_lload_n dX9_lowest_36 rfl ?_
          refine r_lload dX9_lowest_37 rfl ?_
          refine l_div dX9_lowest_39 ⟨by omega, by omega⟩ ⟨by omega, by omega⟩ ?_
          refine r_goto 47 dX9_lowest_40 rfl ?_
          refine r_lret rfl dX9_lowest_47 ?_
          exact ⟨by first | (rw [if_pos (by omega)]; done) | (rw [if_neg (by omega)]; done), rfl⟩
      · exfalso
        omega
    · have hm := Nat.mod_lt x (show 0 < y by omega)
      refine r_lload dX9_lowest_6 rfl ?_
      refine l_const (v := 0) rfl dX9_lowest_8 ?_
      refine l_cmp dX9_lowest_9 ⟨by omega, by omega⟩ ⟨by omega, by omega⟩ ?_
      refine i_if_eq 31 dX9_lowest_10 rfl ⟨by omega, by omega⟩ (fun q10 => ?_) (fun q10 => ?_)
      · exfalso
        omega
      · skip
        refine r_lload dX9_lowest_13 rfl ?_
        refine r_lload dX9_lowest_15 rfl ?_
        refine l_rem dX9_lowest_17 ⟨by omega, by omega⟩ ⟨by omega, by omega⟩ ?_
        rw [← Int.natCast_emod]
        refine r_lstore dX9_lowest_18 (Nat.le_of_ble_eq_true rfl) ?_
        refine r_lload dX9_lowest_20 rfl ?_
        refine r_lstore dX9_lowest_22 (Nat.le_of_ble_eq_true rfl) ?_
        refine r_lload dX9_lowest_24 rfl ?_
        refine r_lstore dX9_lowest_26 (Nat.le_of_ble_eq_true rfl) ?_
        refine r_goto 6 dX9_lowest_28 rfl ?_
        exact ih (x % y) y _ _ (by omega) (by omega) (by omega) (by rw [← hg, Nat.gcd_comm x y, Nat.gcd_rec y x, Nat.gcd_comm])

set_option maxRecDepth 20000 in
theorem m_lowest (σ : rl_S) (a : Nat) (w : Int) (a0 : a ≤ 4503599627370496) (hw2 : w = 0 ∨ w = 1) : Ct mW mX9_lowest [.long (lI (a : Int)), .long (lI 4503599627370496), .int (iI w)] σ (pR (.long (if w = 0 then lI (red 52 a 4503599627370496).1 else lI (red 52 a 4503599627370496).2)) σ) := by
  refine Ct.of plX9 (Nat.le_of_ble_eq_true rfl) ?_
  refine r_lload_n dX9_lowest_0 rfl ?_
  refine r_lstore dX9_lowest_1 (Nat.le_of_ble_eq_true rfl) ?_
  refine r_lload_n dX9_lowest_3 rfl ?_
  refine r_lstore dX9_lowest_4 (Nat.le_of_ble_eq_true rfl) ?_
  have e2 := red52 a
  rw [e2]
  exact m_lowest_l σ a 4503599627370496 w (by omega) (by decide) (by omega) (Nat.gcd a 4503599627370496) (Nat.gcd_pos_of_pos_right _ (by decide)) 4503599627370496 4503599627370496 a _ _ (by omega) a0 (by omega) rfl

set_option maxRecDepth 20000 in
theorem m_safeNow (M σ : rl_S) (c : IH M σ) (hw : WF M) (t : Int) (t0 : 0 ≤ t) (t1 : t < 400) : Ct mW mX9_safeNow [.ref 0, .int (iI t)] σ (qL (fun z σ' => z = lI (chn M t) ∧ IH M σ')) := by
  refine Ct.of plX9 (Nat.le_of_ble_eq_true rfl) ?_
  have st := wf_set hw
  have cb := clM_bd hw t0 t1
  have fb := fll_bd hw t
  refine r_aload_n dX9_safeNow_0 rfl ?_
  refine r_iload_n dX9_safeNow_1 rfl ?_
  refine i_cvI (m_climbs M σ c hw t t0 t1) lmX9_163 dX9_safeNow_2 (Nat.le_of_ble_eq_true rfl) rfl ⟨_, _, rfl⟩ (by decide) (by decide) rfl rfl (Nat.le_of_ble_eq_true rfl) (fun z1 σ1 hc => ?_)
  obtain ⟨rfl, eb, hf⟩ := hc
  have c1 := ih_b c hf
  have k8 : σ1 6 (8 : Int).toNat = M 6 8 := c1.1.1.1 6 8 (by decide)
  refine i_const dX9_safeNow_5 ?_
  refine i_icmp_eq 13 dX9_safeNow_6 rfl ⟨by omega, by omega⟩ ⟨by omega, by omega⟩ (fun q6 => ?_) (fun q6 => ?_)
  · skip
    refine i_const dX9_safeNow_13 ?_
    refine r_istore_n dX9_safeNow_14 (Nat.le_of_ble_eq_true rfl) ?_
    refine r_iload_n dX9_safeNow_15 rfl ?_
    refine i_if_eq 62 dX9_safeNow_16 rfl ⟨by omega, by omega⟩ (fun q16 => ?_) (fun q16 => ?_)
    · skip
      refine l_const (v := 0) rfl dX9_safeNow_62 ?_
      refine r_lret rfl dX9_safeNow_63 ?_
      first
        | exact ⟨_, rfl, by unfold chn; rw [if_neg (by omega), prd_12 _ (by omega), ← Int.mul_assoc], c1⟩
        | exact ⟨_, rfl, by unfold chn; rw [if_pos (by omega)], c1⟩
    · exfalso
      omega
  · skip
    refine i_const dX9_safeNow_9 ?_
    refine r_goto 14 dX9_safeNow_10 rfl ?_
    refine r_istore_n dX9_safeNow_14 (Nat.le_of_ble_eq_true rfl) ?_
    refine r_iload_n dX9_safeNow_15 rfl ?_
    refine i_if_eq 62 dX9_safeNow_16 rfl ⟨by omega, by omega⟩ (fun q16 => ?_) (fun q16 => ?_)
    · exfalso
      omega
    · skip
      refine i_bipush dX9_safeNow_19 (by decide) ?_
      refine r_aload_n dX9_safeNow_21 rfl ?_
      refine r_iload_n dX9_safeNow_22 rfl ?_
      refine i_cvP (m_fallNow M σ1 c1 hw t t0 t1) lmX9_154 dX9_safeNow_23 (Nat.le_of_ble_eq_true rfl) rfl ⟨_, _, rfl⟩ (by decide) (by decide) rfl rfl (Nat.le_of_ble_eq_true rfl) ?_
      refine i_isub dX9_safeNow_26 ?_
      refine l_i2l dX9_safeNow_27 ⟨by omega, by omega⟩ ?_
      refine i_bipush dX9_safeNow_28 (by decide) ?_
      refine r_aload_n dX9_safeNow_30 rfl ?_
      refine r_get (k := 0) lfX9_25 dX9_safeNow_31 (Nat.le_of_ble_eq_true rfl) rfl rfl ?_
      refine i_bipush dX9_safeNow_34 (by decide) ?_
      refine i_ald (k := 6) dX9_safeNow_36 (Nat.le_of_ble_eq_true rfl) rfl rfl ⟨by omega, by omega⟩ (by decide) ?_
      rw [k8]
      refine i_isub dX9_safeNow_37 ?_
      refine r_aload_n dX9_safeNow_38 rfl ?_
      refine r_get (k := 0) lfX9_160 dX9_safeNow_39 (Nat.le_of_ble_eq_true rfl) rfl rfl ?_
      rw [eb]
      refine i_csP (m_power σ1 (16 - M 6 8) (clM M t).2 (by omega) (by omega)) lmX9_172 dX9_safeNow_42 (by decide) (by decide) rfl rfl (Nat.le_of_ble_eq_true rfl) ?_
      refine l_mul dX9_safeNow_45 ?_
      refine i_bipush dX9_safeNow_46 (by decide) ?_
      refine i_bipush dX9_safeNow_48 (by decide) ?_
      refine r_aload_n dX9_safeNow_50 rfl ?_
      refine r_get (k := 0) lfX9_160 dX9_safeNow_51 (Nat.le_of_ble_eq_true rfl) rfl rfl ?_
      rw [eb]
      refine i_isub dX9_safeNow_54 ?_
      refine i_csP (m_power σ1 16 (12 - (clM M t).2) (by omega) (by omega)) lmX9_172 dX9_safeNow_55 (by decide) (by decide) rfl rfl (Nat.le_of_ble_eq_true rfl) ?_
      refine l_mul dX9_safeNow_58 ?_
      refine r_goto 63 dX9_safeNow_59 rfl ?_
      refine r_lret rfl dX9_safeNow_63 ?_
      first
        | exact ⟨_, rfl, by unfold chn; rw [if_neg (by omega), prd_12 _ (by omega), ← Int.mul_assoc], c1⟩
        | exact ⟨_, rfl, by unfold chn; rw [if_pos (by omega)], c1⟩

set_option maxRecDepth 20000 in
theorem m_safeOf (M σ : rl_S) (c : IM M σ) (hw : WF M) (t : Int) (t0 : 0 ≤ t) (t1 : t < 400) (w : Int) (hw2 : w = 0 ∨ w = 1) : Ct mW mX9_safeOf [.ref 0, .int (iI t), .int (iI w)] σ (qL (fun z σ' => z = (if w = 0 then lI (red 52 (chn M t) 4503599627370496).1 else lI (red 52 (chn M t) 4503599627370496).2) ∧ IH M σ')) := by
  refine Ct.of plX9 (Nat.le_of_ble_eq_true rfl) ?_
  have cb := chn_bd hw t
  have ec : chn M t = (((chn M t).toNat : Nat) : Int) := by omega
  refine r_aload_n dX9_safeOf_0 rfl ?_
  refine i_cvV (m_lays M σ c hw) lmX9_117 dX9_safeOf_1 (Nat.le_of_ble_eq_true rfl) rfl ⟨_, _, rfl⟩ (by decide) (by decide) rfl rfl (Nat.le_of_ble_eq_true rfl) (fun σ1 c1 => ?_)
  refine r_aload_n dX9_safeOf_4 rfl ?_
  refine r_iload_n dX9_safeOf_5 rfl ?_
  refine i_cvL (m_safeNow M σ1 c1 hw t t0 t1) lmX9_176 dX9_safeOf_6 (Nat.le_of_ble_eq_true rfl) rfl ⟨_, _, rfl⟩ (by decide) (by decide) rfl rfl (Nat.le_of_ble_eq_true rfl) (fun z2 σ2 hc => ?_)
  obtain ⟨rfl, c2⟩ := hc
  refine i_bipush dX9_safeOf_9 (by decide) ?_
  refine i_bipush dX9_safeOf_11 (by decide) ?_
  refine i_csP (m_power σ2 16 13 (by decide) (by decide)) lmX9_172 dX9_safeOf_13 (by decide) (by decide) rfl rfl (Nat.le_of_ble_eq_true rfl) ?_
  rw [show lI ((16 : Int) ^ (13 : Int).toNat) = lI 4503599627370496 from by decide +kernel, ec]
  refine r_iload_n dX9_safeOf_16 rfl ?_
  refine i_csP (m_lowest σ2 (chn M t).toNat w (by omega) hw2) lmX9_180 dX9_safeOf_17 (by decide) (by decide) rfl rfl (Nat.le_of_ble_eq_true rfl) ?_
  refine r_lret rfl dX9_safeOf_20 ?_
  exact ⟨_, rfl, by rw [← ec], c2⟩

set_option maxRecDepth 20000 in
theorem m_no (σ : rl_S) : Ct mW mX9_no [.int (iI (-2))] σ (pR (.long (-9223372036854775806)) σ) := by
  refine Ct.of plX9 (Nat.le_of_ble_eq_true rfl) ?_
  refine r_ldc2 dX9_no_0 lcX9_53 ?_
  refine r_iload_n dX9_no_3 rfl ?_
  refine r_i2l dX9_no_4 ?_
  refine r_lsub dX9_no_5 ?_
  refine r_lret rfl dX9_no_6 ?_
  exact ⟨congrArg some (congrArg Value.long (by decide +kernel)), rfl⟩

set_option maxRecDepth 20000 in
theorem m_safe (M σ : rl_S) (c : IM M σ) (hw : WF M) (t w : Int) (ht : -2147483648 ≤ t ∧ t < 2147483648) (hw2 : -2147483648 ≤ w ∧ w < 2147483648) : Ct mW mX9_safe [.ref 0, .int (iI t), .int (iI w)] σ (qL (fun z σ' => z = q_safe M t w ∧ IM M σ')) := by
  refine Ct.of plX9 (Nat.le_of_ble_eq_true rfl) ?_
  have ob1 := ob_bd (decide (0 ≤ t ∧ t ≤ 399))
  have ob3 := ob_bd (decide (0 ≤ w ∧ w ≤ 1))
  refine r_iload_n dX9_safe_0 rfl ?_
  refine i_csP (m_isTenth _ t ht) lmX9_90 dX9_safe_1 (by decide) (by decide) rfl rfl (Nat.le_of_ble_eq_true rfl) ?_
  refine i_if_eq 25 dX9_safe_4 rfl (ob_i32 _) (fun q4 => ?_) (fun q4 => ?_)
  · have e4 := ob_df q4
    refine i_bipush dX9_safe_25 (by decide) ?_
    refine i_csP (m_no σ) lmX9_187 dX9_safe_27 (by decide) (by decide) rfl rfl (Nat.le_of_ble_eq_true rfl) ?_
    refine r_lret rfl dX9_safe_30 ?_
    first
      | exact ⟨_, rfl, by rw [hd.1]; exact (if_pos (by omega)).symm, hd.2.1.1⟩
      | exact ⟨_, rfl, by unfold q_safe; rw [if_neg (by omega)], c⟩
  · have e4 := ob_dt q4
    refine r_iload_n dX9_safe_7 rfl ?_
    refine i_const dX9_safe_8 ?_
    refine i_const dX9_safe_9 ?_
    refine i_csP (m_in σ w 0 1 hw2 (by decide) (by decide)) lmX9_55 dX9_safe_10 (by decide) (by decide) rfl rfl (Nat.le_of_ble_eq_true rfl) ?_
    refine i_if_eq 25 dX9_safe_13 rfl (ob_i32 _) (fun q13 => ?_) (fun q13 => ?_)
    · have e13 := ob_df q13
      refine i_bipush dX9_safe_25 (by decide) ?_
      refine i_csP (m_no σ) lmX9_187 dX9_safe_27 (by decide) (by decide) rfl rfl (Nat.le_of_ble_eq_true rfl) ?_
      refine r_lret rfl dX9_safe_30 ?_
      first
        | exact ⟨_, rfl, by rw [hd.1]; exact (if_pos (by omega)).symm, hd.2.1.1⟩
        | exact ⟨_, rfl, by unfold q_safe; rw [if_neg (by omega)], c⟩
    · have e13 := ob_dt q13
      refine r_aload_n dX9_safe_16 rfl ?_
      refine r_iload_n dX9_safe_17 rfl ?_
      refine r_iload_n dX9_safe_18 rfl ?_
      refine i_cvL (m_safeOf M σ c hw t (by omega) (by omega) w (by omega)) lmX9_184 dX9_safe_19 (Nat.le_of_ble_eq_true rfl) rfl ⟨_, _, rfl⟩ (by decide) (by decide) rfl rfl (Nat.le_of_ble_eq_true rfl) (fun z1 σ1 hd => ?_)
      refine r_goto 30 dX9_safe_22 rfl ?_
      refine r_lret rfl dX9_safe_30 ?_
      first
        | exact ⟨_, rfl, by rw [hd.1]; exact (if_pos (by omega)).symm, hd.2.1.1⟩
        | exact ⟨_, rfl, by unfold q_safe; rw [if_neg (by omega)], c⟩

theorem m_best_l (M : rl_S) (hw : WF M) (a m : Int) (a0 : 0 ≤ a ∧ a ≤ 399) (m0 : 1 ≤ m ∧ m ≤ 100) : ∀ (n : Nat) (t b g : Int) (l7 l8 : Value) (σ2 : rl_S), IH M σ2 → 0 ≤ t → t + n = min 400 (a + m) → 0 ≤ b → b < 400 → 0 ≤ g → g ≤ 4503599627370496 → ∀ z, z = bst (chn M) n t b g → Rn mW mX9_bestOf 18 [.ref 0, .int (iI a), .int (iI m), .int (iI b), .long (lI g), .float 0, .int (iI t), l7, l8] [] σ2 (pH M z) := by
  intro n
  induction n with
  | zero =>
    intro t b g l7 l8 σ2 c t0 ht b0 b1 g0 g1 z hz
    refine r_iload dX9_bestOf_18 rfl ?_
    refine r_iload_n dX9_bestOf_20 rfl ?_
    refine r_iload_n dX9_bestOf_21 rfl ?_
    refine i_iadd dX9_bestOf_22 ?_
    refine i_icmp_ge 80 dX9_bestOf_23 rfl ⟨by omega, by omega⟩ ⟨by omega, by omega⟩ (fun q23 => ?_) (fun q23 => ?_)
    · skip
      refine r_iload_n dX9_bestOf_80 rfl ?_
      refine r_iret rfl dX9_bestOf_81 ?_
      exact ⟨_, rfl, by rw [hz]; rfl, c⟩
    · skip
      refine r_iload dX9_bestOf_26 rfl ?_
      refine i_sipush dX9_bestOf_28 (by decide) ?_
      refine i_icmp_ge 80 dX9_bestOf_31 rfl ⟨by omega, by omega⟩ ⟨by omega, by omega⟩ (fun q31 => ?_) (fun q31 => ?_)
      · skip
        refine r_iload_n dX9_bestOf_80 rfl ?_
        refine r_iret rfl dX9_bestOf_81 ?_
        exact ⟨_, rfl, by rw [hz]; rfl, c⟩
      · exfalso
        omega
  | succ n ih =>
    intro t b g l7 l8 σ2 c t0 ht b0 b1 g0 g1 z hz
    have cb := chn_bd hw t
    have hc := cmp_bd (chn M t) g
    have hc2 : ∀ a b : Int, cmp a b ≤ 0 ↔ ¬ b < a := by
      intro a b
      unfold cmp
      by_cases h1 : b < a
      · rw [if_pos h1]; omega
      · rw [if_neg h1]; split <;> omega
    have hc3 := hc2 (chn M t) g
    simp only [bst] at hz
    refine r_iload dX9_bestOf_18 rfl ?_
    refine r_iload_n dX9_bestOf_20 rfl ?_
    refine r_iload_n dX9_bestOf_21 rfl ?_
    refine i_iadd dX9_bestOf_22 ?_
    refine i_icmp_ge 80 dX9_bestOf_23 rfl ⟨by omega, by omega⟩ ⟨by omega, by omega⟩ (fun q23 => ?_) (fun q23 => ?_)
    · exfalso
      omega
    · skip
      refine r_iload dX9_bestOf_26 rfl ?_
      refine i_sipush dX9_bestOf_28 (by decide) ?_
      refine i_icmp_ge 80 dX9_bestOf_31 rfl ⟨by omega, by omega⟩ ⟨by omega, by omega⟩ (fun q31 => ?_) (fun q31 => ?_)
      · exfalso
        omega
      · skip
        refine r_aload_n dX9_bestOf_34 rfl ?_
        refine r_iload dX9_bestOf_35 rfl ?_
        refine i_cvL (m_safeNow M σ2 c hw t (by omega) (by omega)) lmX9_176 dX9_bestOf_37 (Nat.le_of_ble_eq_true rfl) rfl ⟨_, _, rfl⟩ (by decide) (by decide) rfl rfl (Nat.le_of_ble_eq_true rfl) (fun z1 σ1 h1 => ?_)
        obtain ⟨rfl, c1⟩ := h1
        refine r_lstore dX9_bestOf_40 (Nat.le_of_ble_eq_true rfl) ?_
        refine r_lload dX9_bestOf_42 rfl ?_
        refine r_lload dX9_bestOf_44 rfl ?_
        refine l_cmp dX9_bestOf_46 ⟨by omega, by omega⟩ ⟨by omega, by omega⟩ ?_
        refine i_if_le 55 dX9_bestOf_47 rfl ⟨by omega, by omega⟩ (fun q47 => ?_) (fun q47 => ?_)
        · skip
          refine r_iload_n dX9_bestOf_55 rfl ?_
          refine r_istore_n dX9_bestOf_56 (Nat.le_of_ble_eq_true rfl) ?_
          refine r_lload dX9_bestOf_57 rfl ?_
          refine r_lload dX9_bestOf_59 rfl ?_
          refine l_cmp dX9_bestOf_61 ⟨by omega, by omega⟩ ⟨by omega, by omega⟩ ?_
          refine i_if_le 70 dX9_bestOf_62 rfl ⟨by omega, by omega⟩ (fun q62 => ?_) (fun q62 => ?_)
          · skip
            refine r_lload dX9_bestOf_70 rfl ?_
            refine r_lstore dX9_bestOf_72 (Nat.le_of_ble_eq_true rfl) ?_
            refine i_iinc dX9_bestOf_74 rfl (Nat.le_of_ble_eq_true rfl) ?_
            refine r_goto 18 dX9_bestOf_77 rfl ?_
            first
              | (rw [if_neg (by omega)] at hz; exact ih (t + 1) b g _ _ σ1 c1 (by omega) (by omega) b0 b1 g0 g1 z hz)
              | (rw [if_pos (by omega)] at hz; exact ih (t + 1) t (chn M t) _ _ σ1 c1 (by omega) (by omega) (by omega) (by omega) cb.1 cb.2 z hz)
              | (exfalso; omega)
          · skip
            refine r_lload dX9_bestOf_65 rfl ?_
            refine r_goto 72 dX9_bestOf_67 rfl ?_
            refine r_lstore dX9_bestOf_72 (Nat.le_of_ble_eq_true rfl) ?_
            refine i_iinc dX9_bestOf_74 rfl (Nat.le_of_ble_eq_true rfl) ?_
            refine r_goto 18 dX9_bestOf_77 rfl ?_
            first
              | (rw [if_neg (by omega)] at hz; exact ih (t + 1) b g _ _ σ1 c1 (by omega) (by omega) b0 b1 g0 g1 z hz)
              | (rw [if_pos (by omega)] at hz; exact ih (t + 1) t (chn M t) _ _ σ1 c1 (by omega) (by omega) (by omega) (by omega) cb.1 cb.2 z hz)
              | (exfalso; omega)
        · skip
          refine r_iload dX9_bestOf_50 rfl ?_
          refine r_goto 56 dX9_bestOf_52 rfl ?_
          refine r_istore_n dX9_bestOf_56 (Nat.le_of_ble_eq_true rfl) ?_
          refine r_lload dX9_bestOf_57 rfl ?_
          refine r_lload dX9_bestOf_59 rfl ?_
          refine l_cmp dX9_bestOf_61 ⟨by omega, by omega⟩ ⟨by omega, by omega⟩ ?_
          refine i_if_le 70 dX9_bestOf_62 rfl ⟨by omega, by omega⟩ (fun q62 => ?_) (fun q62 => ?_)
          · skip
            refine r_lload dX9_bestOf_70 rfl ?_
            refine r_lstore dX9_bestOf_72 (Nat.le_of_ble_eq_true rfl) ?_
            refine i_iinc dX9_bestOf_74 rfl (Nat.le_of_ble_eq_true rfl) ?_
            refine r_goto 18 dX9_bestOf_77 rfl ?_
            first
              | (rw [if_neg (by omega)] at hz; exact ih (t + 1) b g _ _ σ1 c1 (by omega) (by omega) b0 b1 g0 g1 z hz)
              | (rw [if_pos (by omega)] at hz; exact ih (t + 1) t (chn M t) _ _ σ1 c1 (by omega) (by omega) (by omega) (by omega) cb.1 cb.2 z hz)
              | (exfalso; omega)
          · skip
            refine r_lload dX9_bestOf_65 rfl ?_
            refine r_goto 72 dX9_bestOf_67 rfl ?_
            refine r_lstore dX9_bestOf_72 (Nat.le_of_ble_eq_true rfl) ?_
            refine i_iinc dX9_bestOf_74 rfl (Nat.le_of_ble_eq_true rfl) ?_
            refine r_goto 18 dX9_bestOf_77 rfl ?_
            first
              | (rw [if_neg (by omega)] at hz; exact ih (t + 1) b g _ _ σ1 c1 (by omega) (by omega) b0 b1 g0 g1 z hz)
              | (rw [if_pos (by omega)] at hz; exact ih (t + 1) t (chn M t) _ _ σ1 c1 (by omega) (by omega) (by omega) (by omega) cb.1 cb.2 z hz)
              | (exfalso; omega)

set_option maxRecDepth 20000 in
theorem m_bestOf (M σ : rl_S) (c : IM M σ) (hw : WF M) (t : Int) (t0 : 0 ≤ t) (t1 : t < 400) (m : Int) (m0 : 1 ≤ m ∧ m ≤ 100) : Ct mW mX9_bestOf [.ref 0, .int (iI t), .int (iI m)] σ (pH M (beM M t m)) := by
  refine Ct.of plX9 (Nat.le_of_ble_eq_true rfl) ?_
  refine r_aload_n dX9_bestOf_0 rfl ?_
  refine i_cvV (m_lays M σ c hw) lmX9_117 dX9_bestOf_1 (Nat.le_of_ble_eq_true rfl) rfl ⟨_, _, rfl⟩ (by decide) (by decide) rfl rfl (Nat.le_of_ble_eq_true rfl) (fun σ1 c1 => ?_)
  refine r_iload_n dX9_bestOf_4 rfl ?_
  refine r_istore_n dX9_bestOf_5 (Nat.le_of_ble_eq_true rfl) ?_
  refine r_aload_n dX9_bestOf_6 rfl ?_
  refine r_iload_n dX9_bestOf_7 rfl ?_
  refine i_cvL (m_safeNow M σ1 c1 hw t t0 t1) lmX9_176 dX9_bestOf_8 (Nat.le_of_ble_eq_true rfl) rfl ⟨_, _, rfl⟩ (by decide) (by decide) rfl rfl (Nat.le_of_ble_eq_true rfl) (fun z2 σ2 hc => ?_)
  obtain ⟨rfl, c2⟩ := hc
  refine r_lstore dX9_bestOf_11 (Nat.le_of_ble_eq_true rfl) ?_
  refine r_iload_n dX9_bestOf_13 rfl ?_
  refine i_const dX9_bestOf_14 ?_
  refine i_iadd dX9_bestOf_15 ?_
  refine r_istore dX9_bestOf_16 (Nat.le_of_ble_eq_true rfl) ?_
  have cb := chn_bd hw t
  exact m_best_l M hw t m (by omega) m0 (min 400 (t + m) - t - 1).toNat (t + 1) t (chn M t) _ _ σ2 c2 (by omega) (by omega) (by omega) (by omega) cb.1 cb.2 _ rfl

set_option maxRecDepth 20000 in
theorem m_best (M σ : rl_S) (c : IM M σ) (hw : WF M) (t m : Int) (ht : -2147483648 ≤ t ∧ t < 2147483648) (hm : -2147483648 ≤ m ∧ m < 2147483648) : Ct mW mX9_best [.ref 0, .int (iI t), .int (iI m)] σ (pM M (q_best M t m)) := by
  refine Ct.of plX9 (Nat.le_of_ble_eq_true rfl) ?_
  have ob1 := ob_bd (decide (0 ≤ t ∧ t ≤ 399))
  have ob2 := ob_bd (decide (1 ≤ m ∧ m ≤ 100))
  refine r_iload_n dX9_best_0 rfl ?_
  refine i_csP (m_isTenth _ t ht) lmX9_90 dX9_best_1 (by decide) (by decide) rfl rfl (Nat.le_of_ble_eq_true rfl) ?_
  refine i_if_eq 23 dX9_best_4 rfl (ob_i32 _) (fun q4 => ?_) (fun q4 => ?_)
  · have e4 := ob_df q4
    refine i_bipush dX9_best_23 (by decide) ?_
    refine r_iret rfl dX9_best_25 ?_
    first
      | exact ⟨_, rfl, by rw [hd.1]; exact (if_pos (by omega)).symm, hd.2.1.1⟩
      | exact ⟨_, rfl, by unfold q_best; rw [if_neg (by omega)], c⟩
  · have e4 := ob_dt q4
    refine r_iload_n dX9_best_7 rfl ?_
    refine i_csP (m_isMany _ m hm) lmX9_141 dX9_best_8 (by decide) (by decide) rfl rfl (Nat.le_of_ble_eq_true rfl) ?_
    refine i_if_eq 23 dX9_best_11 rfl (ob_i32 _) (fun q11 => ?_) (fun q11 => ?_)
    · have e11 := ob_df q11
      refine i_bipush dX9_best_23 (by decide) ?_
      refine r_iret rfl dX9_best_25 ?_
      first
        | exact ⟨_, rfl, by rw [hd.1]; exact (if_pos (by omega)).symm, hd.2.1.1⟩
        | exact ⟨_, rfl, by unfold q_best; rw [if_neg (by omega)], c⟩
    · have e11 := ob_dt q11
      refine r_aload_n dX9_best_14 rfl ?_
      refine r_iload_n dX9_best_15 rfl ?_
      refine r_iload_n dX9_best_16 rfl ?_
      refine i_cvI (m_bestOf M σ c hw t (by omega) (by omega) m (by omega)) lmX9_190 dX9_best_17 (Nat.le_of_ble_eq_true rfl) rfl ⟨_, _, rfl⟩ (by decide) (by decide) rfl rfl (Nat.le_of_ble_eq_true rfl) (fun z1 σ1 hd => ?_)
      refine r_goto 25 dX9_best_20 rfl ?_
      refine r_iret rfl dX9_best_25 ?_
      first
        | exact ⟨_, rfl, by rw [hd.1]; exact (if_pos (by omega)).symm, hd.2.1.1⟩
        | exact ⟨_, rfl, by unfold q_best; rw [if_neg (by omega)], c⟩

set_option maxRecDepth 20000 in
theorem m_callOf (M σ : rl_S) (c : IM M σ) (hw : WF M) (t : Int) (t0 : 0 ≤ t) (t1 : t < 400) (m : Int) (m0 : 1 ≤ m ∧ m ≤ 100) : Ct mW mX9_callOf [.ref 0, .int (iI t), .int (iI m)] σ (pH M (if beM M t m < M 6 11 then -1 else beM M t m - M 6 11)) := by
  refine Ct.of plX9 (Nat.le_of_ble_eq_true rfl) ?_
  have st := wf_set hw
  have bb := bst_bd (chn M) (min 400 (t + m) - t - 1).toNat (t + 1) t (chn M t) (by omega)
  change t ≤ beM M t m ∧ beM M t m < _ at bb
  refine r_aload_n dX9_callOf_0 rfl ?_
  refine r_iload_n dX9_callOf_1 rfl ?_
  refine r_iload_n dX9_callOf_2 rfl ?_
  refine i_cvI (m_bestOf M σ c hw t t0 t1 m m0) lmX9_190 dX9_callOf_3 (Nat.le_of_ble_eq_true rfl) rfl ⟨_, _, rfl⟩ (by decide) (by decide) rfl rfl (Nat.le_of_ble_eq_true rfl) (fun z1 σ1 hd => ?_)
  obtain ⟨rfl, c1⟩ := hd
  have k11 : σ1 6 (11 : Int).toNat = M 6 11 := c1.1.1.1 6 11 (by decide)
  refine r_istore_n dX9_callOf_6 (Nat.le_of_ble_eq_true rfl) ?_
  refine r_iload_n dX9_callOf_7 rfl ?_
  refine r_aload_n dX9_callOf_8 rfl ?_
  refine r_get (k := 0) lfX9_25 dX9_callOf_9 (Nat.le_of_ble_eq_true rfl) rfl rfl ?_
  refine i_bipush dX9_callOf_12 (by decide) ?_
  refine i_ald (k := 6) dX9_callOf_14 (Nat.le_of_ble_eq_true rfl) rfl rfl ⟨by omega, by omega⟩ (by decide) ?_
  rw [k11]
  refine i_icmp_ge 22 dX9_callOf_15 rfl ⟨by omega, by omega⟩ ⟨by omega, by omega⟩ (fun q15 => ?_) (fun q15 => ?_)
  · skip
    refine r_iload_n dX9_callOf_22 rfl ?_
    refine r_aload_n dX9_callOf_23 rfl ?_
    refine r_get (k := 0) lfX9_25 dX9_callOf_24 (Nat.le_of_ble_eq_true rfl) rfl rfl ?_
    refine i_bipush dX9_callOf_27 (by decide) ?_
    refine i_ald (k := 6) dX9_callOf_29 (Nat.le_of_ble_eq_true rfl) rfl rfl ⟨by omega, by omega⟩ (by decide) ?_
    rw [k11]
    refine i_isub dX9_callOf_30 ?_
    refine r_iret rfl dX9_callOf_31 ?_
    first
      | exact ⟨_, rfl, by rw [if_pos (by omega)], c1⟩
      | exact ⟨_, rfl, by rw [if_neg (by omega)], c1⟩
  · skip
    refine i_const dX9_callOf_18 ?_
    refine r_goto 31 dX9_callOf_19 rfl ?_
    refine r_iret rfl dX9_callOf_31 ?_
    first
      | exact ⟨_, rfl, by rw [if_pos (by omega)], c1⟩
      | exact ⟨_, rfl, by rw [if_neg (by omega)], c1⟩

set_option maxRecDepth 20000 in
theorem m_call (M σ : rl_S) (c : IM M σ) (hw : WF M) (t m : Int) (ht : -2147483648 ≤ t ∧ t < 2147483648) (hm : -2147483648 ≤ m ∧ m < 2147483648) : Ct mW mX9_call [.ref 0, .int (iI t), .int (iI m)] σ (pM M (q_call M t m)) := by
  refine Ct.of plX9 (Nat.le_of_ble_eq_true rfl) ?_
  have ob1 := ob_bd (decide (0 ≤ t ∧ t ≤ 399))
  have ob2 := ob_bd (decide (1 ≤ m ∧ m ≤ 100))
  refine r_iload_n dX9_call_0 rfl ?_
  refine i_csP (m_isTenth _ t ht) lmX9_90 dX9_call_1 (by decide) (by decide) rfl rfl (Nat.le_of_ble_eq_true rfl) ?_
  refine i_if_eq 23 dX9_call_4 rfl (ob_i32 _) (fun q4 => ?_) (fun q4 => ?_)
  · have e4 := ob_df q4
    refine i_bipush dX9_call_23 (by decide) ?_
    refine r_iret rfl dX9_call_25 ?_
    first
      | exact ⟨_, rfl, by rw [hd.1]; exact (if_pos (by omega)).symm, hd.2.1.1⟩
      | exact ⟨_, rfl, by unfold q_call; rw [if_neg (by omega)], c⟩
  · have e4 := ob_dt q4
    refine r_iload_n dX9_call_7 rfl ?_
    refine i_csP (m_isMany _ m hm) lmX9_141 dX9_call_8 (by decide) (by decide) rfl rfl (Nat.le_of_ble_eq_true rfl) ?_
    refine i_if_eq 23 dX9_call_11 rfl (ob_i32 _) (fun q11 => ?_) (fun q11 => ?_)
    · have e11 := ob_df q11
      refine i_bipush dX9_call_23 (by decide) ?_
      refine r_iret rfl dX9_call_25 ?_
      first
        | exact ⟨_, rfl, by rw [hd.1]; exact (if_pos (by omega)).symm, hd.2.1.1⟩
        | exact ⟨_, rfl, by unfold q_call; rw [if_neg (by omega)], c⟩
    · have e11 := ob_dt q11
      refine r_aload_n dX9_call_14 rfl ?_
      refine r_iload_n dX9_call_15 rfl ?_
      refine r_iload_n dX9_call_16 rfl ?_
      refine i_cvI (m_callOf M σ c hw t (by omega) (by omega) m (by omega)) lmX9_193 dX9_call_17 (Nat.le_of_ble_eq_true rfl) rfl ⟨_, _, rfl⟩ (by decide) (by decide) rfl rfl (Nat.le_of_ble_eq_true rfl) (fun z1 σ1 hd => ?_)
      refine r_goto 25 dX9_call_20 rfl ?_
      refine r_iret rfl dX9_call_25 ?_
      first
        | exact ⟨_, rfl, by rw [hd.1]; exact (if_pos (by omega)).symm, hd.2.1.1⟩
        | exact ⟨_, rfl, by unfold q_call; rw [if_neg (by omega)], c⟩

theorem m_down_l (M σ : rl_S) (c : IH M σ) (hw : WF M) (a m w : Int) (a0 : 0 ≤ a ∧ a ≤ 399) (m0 : 1 ≤ m ∧ m ≤ 100) (hw2 : w = 0 ∨ w = 1) : ∀ (n : Nat) (t b l : Int) (l7 l8 : Value), 0 ≤ t → t + n = min 400 (a + m) → ((b = -1 ∧ l = 0) ∨ (0 ≤ b ∧ b < 400 ∧ l = dst M b)) → ∀ z, (b = -1 → n ≠ 0 ∧ z = dn M (n - 1) (t + 1) t) → (b ≠ -1 → z = dn M n t b) → Rn mW mX9_downOf 13 [.ref 0, .int (iI a), .int (iI m), .int (iI w), .int (iI b), .int (iI l), .int (iI t), l7, l8] [] σ (pH M (if w = 0 then z else dst M z)) := by
  intro n
  have st := wf_set hw
  have k0 : σ 6 (0 : Int).toNat = M 6 0 := c.1.1.1 6 0 (by decide)
  have db : ∀ x : Int, 0 ≤ x → x < 400 → 0 ≤ dst M x ∧ dst M x ≤ 4000 := fun x x0 x1 => by
    have := wf_hb hw x x0 x1
    unfold dst; omega
  induction n with
  | zero =>
    intro t b l l7 l8 t0 ht hb z hz1 hz2
    have hb2 : ¬ b = -1 := fun q => (hz1 q).1 rfl
    have hz := hz2 hb2
    have hz3 : z = b := hz
    have hl : l = dst M b := by omega
    have d0 := db b (by omega) (by omega)
    refine r_iload dX9_downOf_13 rfl ?_
    refine r_iload_n dX9_downOf_15 rfl ?_
    refine r_iload_n dX9_downOf_16 rfl ?_
    refine i_iadd dX9_downOf_17 ?_
    refine i_icmp_ge 132 dX9_downOf_18 rfl ⟨by omega, by omega⟩ ⟨by omega, by omega⟩ (fun q18 => ?_) (fun q18 => ?_)
    · skip
      refine r_iload_n dX9_downOf_132 rfl ?_
      refine i_if_ne 141 dX9_downOf_133 rfl ⟨by omega, by omega⟩ (fun q133 => ?_) (fun q133 => ?_)
      · skip
        refine r_iload dX9_downOf_141 rfl ?_
        refine r_iret rfl dX9_downOf_143 ?_
        first
          | exact ⟨_, rfl, by rw [if_pos (by omega)]; omega, c⟩
          | exact ⟨_, rfl, by rw [if_neg (by omega), hz3, hl], c⟩
      · skip
        refine r_iload dX9_downOf_136 rfl ?_
        refine r_goto 143 dX9_downOf_138 rfl ?_
        refine r_iret rfl dX9_downOf_143 ?_
        first
          | exact ⟨_, rfl, by rw [if_pos (by omega)]; omega, c⟩
          | exact ⟨_, rfl, by rw [if_neg (by omega), hz3, hl], c⟩
    · skip
      refine r_iload dX9_downOf_21 rfl ?_
      refine i_sipush dX9_downOf_23 (by decide) ?_
      refine i_icmp_ge 132 dX9_downOf_26 rfl ⟨by omega, by omega⟩ ⟨by omega, by omega⟩ (fun q26 => ?_) (fun q26 => ?_)
      · skip
        refine r_iload_n dX9_downOf_132 rfl ?_
        refine i_if_ne 141 dX9_downOf_133 rfl ⟨by omega, by omega⟩ (fun q133 => ?_) (fun q133 => ?_)
        · skip
          refine r_iload dX9_downOf_141 rfl ?_
          refine r_iret rfl dX9_downOf_143 ?_
          first
            | exact ⟨_, rfl, by rw [if_pos (by omega)]; omega, c⟩
            | exact ⟨_, rfl, by rw [if_neg (by omega), hz3, hl], c⟩
        · skip
          refine r_iload dX9_downOf_136 rfl ?_
          refine r_goto 143 dX9_downOf_138 rfl ?_
          refine r_iret rfl dX9_downOf_143 ?_
          first
            | exact ⟨_, rfl, by rw [if_pos (by omega)]; omega, c⟩
            | exact ⟨_, rfl, by rw [if_neg (by omega), hz3, hl], c⟩
      · exfalso
        omega
  | succ n ih =>
    intro t b l l7 l8 t0 ht hb z hz1 hz2
    have b1 := wf_hb hw t t0 (by omega)
    have d1 := db t t0 (by omega)
    have d2 : 0 ≤ l ∧ l ≤ 4000 := by
      rcases hb with hb | hb
      · omega
      · have := db b hb.1 hb.2.1; omega
    have ed : dst M t = max (hi M t - M 6 0) (-(hi M t - M 6 0)) := rfl
    have hz3 : b ≠ -1 → z = if dst M t < dst M b then dn M n (t + 1) t else dn M n (t + 1) b := hz2
    refine r_iload dX9_downOf_13 rfl ?_
    refine r_iload_n dX9_downOf_15 rfl ?_
    refine r_iload_n dX9_downOf_16 rfl ?_
    refine i_iadd dX9_downOf_17 ?_
    refine i_icmp_ge 132 dX9_downOf_18 rfl ⟨by omega, by omega⟩ ⟨by omega, by omega⟩ (fun q18 => ?_) (fun q18 => ?_)
    · exfalso
      omega
    · skip
      refine r_iload dX9_downOf_21 rfl ?_
      refine i_sipush dX9_downOf_23 (by decide) ?_
      refine i_icmp_ge 132 dX9_downOf_26 rfl ⟨by omega, by omega⟩ ⟨by omega, by omega⟩ (fun q26 => ?_) (fun q26 => ?_)
      · exfalso
        omega
      · skip
        refine r_aload_n dX9_downOf_29 rfl ?_
        refine r_get (k := 0) lfX9_28 dX9_downOf_30 (Nat.le_of_ble_eq_true rfl) rfl rfl ?_
        refine r_iload dX9_downOf_33 rfl ?_
        refine i_ald (k := 7) dX9_downOf_35 (Nat.le_of_ble_eq_true rfl) rfl rfl ⟨by omega, by omega⟩ (by decide) ?_
        rw [c.2 t t0 (by omega)]
        refine r_aload_n dX9_downOf_36 rfl ?_
        refine r_get (k := 0) lfX9_25 dX9_downOf_37 (Nat.le_of_ble_eq_true rfl) rfl rfl ?_
        refine i_const dX9_downOf_40 ?_
        refine i_ald (k := 6) dX9_downOf_41 (Nat.le_of_ble_eq_true rfl) rfl rfl ⟨by omega, by omega⟩ (by decide) ?_
        rw [k0]
        refine i_icmp_le 62 dX9_downOf_42 rfl ⟨by omega, by omega⟩ ⟨by omega, by omega⟩ (fun q42 => ?_) (fun q42 => ?_)
        · skip
          refine r_aload_n dX9_downOf_62 rfl ?_
          refine r_get (k := 0) lfX9_25 dX9_downOf_63 (Nat.le_of_ble_eq_true rfl) rfl rfl ?_
          refine i_const dX9_downOf_66 ?_
          refine i_ald (k := 6) dX9_downOf_67 (Nat.le_of_ble_eq_true rfl) rfl rfl ⟨by omega, by omega⟩ (by decide) ?_
          rw [k0]
          refine r_aload_n dX9_downOf_68 rfl ?_
          refine r_get (k := 0) lfX9_28 dX9_downOf_69 (Nat.le_of_ble_eq_true rfl) rfl rfl ?_
          refine r_iload dX9_downOf_72 rfl ?_
          refine i_ald (k := 7) dX9_downOf_74 (Nat.le_of_ble_eq_true rfl) rfl rfl ⟨by omega, by omega⟩ (by decide) ?_
          rw [c.2 t t0 (by omega)]
          refine i_isub dX9_downOf_75 ?_
          refine r_istore dX9_downOf_76 (Nat.le_of_ble_eq_true rfl) ?_
          refine r_iload dX9_downOf_78 rfl ?_
          refine i_const dX9_downOf_80 ?_
          refine i_icmp_eq 91 dX9_downOf_81 rfl ⟨by omega, by omega⟩ ⟨by omega, by omega⟩ (fun q81 => ?_) (fun q81 => ?_)
          · skip
            refine i_const dX9_downOf_91 ?_
            refine r_goto 96 dX9_downOf_92 rfl ?_
            refine r_istore dX9_downOf_96 (Nat.le_of_ble_eq_true rfl) ?_
            refine r_iload dX9_downOf_98 rfl ?_
            refine i_if_eq 108 dX9_downOf_100 rfl ⟨by omega, by omega⟩ (fun q100 => ?_) (fun q100 => ?_)
            · exfalso
              omega
            · skip
              refine r_iload dX9_downOf_103 rfl ?_
              refine r_goto 110 dX9_downOf_105 rfl ?_
              refine r_istore dX9_downOf_110 (Nat.le_of_ble_eq_true rfl) ?_
              refine r_iload dX9_downOf_112 rfl ?_
              refine i_if_eq 122 dX9_downOf_114 rfl ⟨by omega, by omega⟩ (fun q114 => ?_) (fun q114 => ?_)
              · exfalso
                omega
              · skip
                refine r_iload dX9_downOf_117 rfl ?_
                refine r_goto 124 dX9_downOf_119 rfl ?_
                refine r_istore dX9_downOf_124 (Nat.le_of_ble_eq_true rfl) ?_
                refine i_iinc dX9_downOf_126 rfl (Nat.le_of_ble_eq_true rfl) ?_
                refine r_goto 13 dX9_downOf_129 rfl ?_
                first
                  | exact ih (t + 1) _ _ _ _ (by omega) (by omega) (Or.inr ⟨by omega, by omega, by omega⟩) z (fun q => absurd q (by omega)) (fun _ => (hz1 (by omega)).2)
                  | exact ih (t + 1) _ _ _ _ (by omega) (by omega) (Or.inr ⟨by omega, by omega, by omega⟩) z (fun q => absurd q (by omega)) (fun _ => (hz3 (by omega)).trans (if_pos (by omega)))
                  | exact ih (t + 1) _ _ _ _ (by omega) (by omega) (Or.inr ⟨by omega, by omega, by omega⟩) z (fun q => absurd q (by omega)) (fun _ => (hz3 (by omega)).trans (if_neg (by omega)))
          · skip
            refine r_iload dX9_downOf_84 rfl ?_
            refine r_iload dX9_downOf_86 rfl ?_
            refine i_icmp_ge 95 dX9_downOf_88 rfl ⟨by omega, by omega⟩ ⟨by omega, by omega⟩ (fun q88 => ?_) (fun q88 => ?_)
            · skip
              refine i_const dX9_downOf_95 ?_
              refine r_istore dX9_downOf_96 (Nat.le_of_ble_eq_true rfl) ?_
              refine r_iload dX9_downOf_98 rfl ?_
              refine i_if_eq 108 dX9_downOf_100 rfl ⟨by omega, by omega⟩ (fun q100 => ?_) (fun q100 => ?_)
              · skip
                refine r_iload dX9_downOf_108 rfl ?_
                refine r_istore dX9_downOf_110 (Nat.le_of_ble_eq_true rfl) ?_
                refine r_iload dX9_downOf_112 rfl ?_
                refine i_if_eq 122 dX9_downOf_114 rfl ⟨by omega, by omega⟩ (fun q114 => ?_) (fun q114 => ?_)
                · skip
                  refine r_iload dX9_downOf_122 rfl ?_
                  refine r_istore dX9_downOf_124 (Nat.le_of_ble_eq_true rfl) ?_
                  refine i_iinc dX9_downOf_126 rfl (Nat.le_of_ble_eq_true rfl) ?_
                  refine r_goto 13 dX9_downOf_129 rfl ?_
                  first
                    | exact ih (t + 1) _ _ _ _ (by omega) (by omega) (Or.inr ⟨by omega, by omega, by omega⟩) z (fun q => absurd q (by omega)) (fun _ => (hz1 (by omega)).2)
                    | exact ih (t + 1) _ _ _ _ (by omega) (by omega) (Or.inr ⟨by omega, by omega, by omega⟩) z (fun q => absurd q (by omega)) (fun _ => (hz3 (by omega)).trans (if_pos (by omega)))
                    | exact ih (t + 1) _ _ _ _ (by omega) (by omega) (Or.inr ⟨by omega, by omega, by omega⟩) z (fun q => absurd q (by omega)) (fun _ => (hz3 (by omega)).trans (if_neg (by omega)))
                · exfalso
                  omega
              · exfalso
                omega
            · skip
              refine i_const dX9_downOf_91 ?_
              refine r_goto 96 dX9_downOf_92 rfl ?_
              refine r_istore dX9_downOf_96 (Nat.le_of_ble_eq_true rfl) ?_
              refine r_iload dX9_downOf_98 rfl ?_
              refine i_if_eq 108 dX9_downOf_100 rfl ⟨by omega, by omega⟩ (fun q100 => ?_) (fun q100 => ?_)
              · exfalso
                omega
              · skip
                refine r_iload dX9_downOf_103 rfl ?_
                refine r_goto 110 dX9_downOf_105 rfl ?_
                refine r_istore dX9_downOf_110 (Nat.le_of_ble_eq_true rfl) ?_
                refine r_iload dX9_downOf_112 rfl ?_
                refine i_if_eq 122 dX9_downOf_114 rfl ⟨by omega, by omega⟩ (fun q114 => ?_) (fun q114 => ?_)
                · exfalso
                  omega
                · skip
                  refine r_iload dX9_downOf_117 rfl ?_
                  refine r_goto 124 dX9_downOf_119 rfl ?_
                  refine r_istore dX9_downOf_124 (Nat.le_of_ble_eq_true rfl) ?_
                  refine i_iinc dX9_downOf_126 rfl (Nat.le_of_ble_eq_true rfl) ?_
                  refine r_goto 13 dX9_downOf_129 rfl ?_
                  first
                    | exact ih (t + 1) _ _ _ _ (by omega) (by omega) (Or.inr ⟨by omega, by omega, by omega⟩) z (fun q => absurd q (by omega)) (fun _ => (hz1 (by omega)).2)
                    | exact ih (t + 1) _ _ _ _ (by omega) (by omega) (Or.inr ⟨by omega, by omega, by omega⟩) z (fun q => absurd q (by omega)) (fun _ => (hz3 (by omega)).trans (if_pos (by omega)))
                    | exact ih (t + 1) _ _ _ _ (by omega) (by omega) (Or.inr ⟨by omega, by omega, by omega⟩) z (fun q => absurd q (by omega)) (fun _ => (hz3 (by omega)).trans (if_neg (by omega)))
        · skip
          refine r_aload_n dX9_downOf_45 rfl ?_
          refine r_get (k := 0) lfX9_28 dX9_downOf_46 (Nat.le_of_ble_eq_true rfl) rfl rfl ?_
          refine r_iload dX9_downOf_49 rfl ?_
          refine i_ald (k := 7) dX9_downOf_51 (Nat.le_of_ble_eq_true rfl) rfl rfl ⟨by omega, by omega⟩ (by decide) ?_
          rw [c.2 t t0 (by omega)]
          refine r_aload_n dX9_downOf_52 rfl ?_
          refine r_get (k := 0) lfX9_25 dX9_downOf_53 (Nat.le_of_ble_eq_true rfl) rfl rfl ?_
          refine i_const dX9_downOf_56 ?_
          refine i_ald (k := 6) dX9_downOf_57 (Nat.le_of_ble_eq_true rfl) rfl rfl ⟨by omega, by omega⟩ (by decide) ?_
          rw [k0]
          refine i_isub dX9_downOf_58 ?_
          refine r_goto 76 dX9_downOf_59 rfl ?_
          refine r_istore dX9_downOf_76 (Nat.le_of_ble_eq_true rfl) ?_
          refine r_iload dX9_downOf_78 rfl ?_
          refine i_const dX9_downOf_80 ?_
          refine i_icmp_eq 91 dX9_downOf_81 rfl ⟨by omega, by omega⟩ ⟨by omega, by omega⟩ (fun q81 => ?_) (fun q81 => ?_)
          · skip
            refine i_const dX9_downOf_91 ?_
            refine r_goto 96 dX9_downOf_92 rfl ?_
            refine r_istore dX9_downOf_96 (Nat.le_of_ble_eq_true rfl) ?_
            refine r_iload dX9_downOf_98 rfl ?_
            refine i_if_eq 108 dX9_downOf_100 rfl ⟨by omega, by omega⟩ (fun q100 => ?_) (fun q100 => ?_)
            · exfalso
              omega
            · skip
              refine r_iload dX9_downOf_103 rfl ?_
              refine r_goto 110 dX9_downOf_105 rfl ?_
              refine r_istore dX9_downOf_110 (Nat.le_of_ble_eq_true rfl) ?_
              refine r_iload dX9_downOf_112 rfl ?_
              refine i_if_eq 122 dX9_downOf_114 rfl ⟨by omega, by omega⟩ (fun q114 => ?_) (fun q114 => ?_)
              · exfalso
                omega
              · skip
                refine r_iload dX9_downOf_117 rfl ?_
                refine r_goto 124 dX9_downOf_119 rfl ?_
                refine r_istore dX9_downOf_124 (Nat.le_of_ble_eq_true rfl) ?_
                refine i_iinc dX9_downOf_126 rfl (Nat.le_of_ble_eq_true rfl) ?_
                refine r_goto 13 dX9_downOf_129 rfl ?_
                first
                  | exact ih (t + 1) _ _ _ _ (by omega) (by omega) (Or.inr ⟨by omega, by omega, by omega⟩) z (fun q => absurd q (by omega)) (fun _ => (hz1 (by omega)).2)
                  | exact ih (t + 1) _ _ _ _ (by omega) (by omega) (Or.inr ⟨by omega, by omega, by omega⟩) z (fun q => absurd q (by omega)) (fun _ => (hz3 (by omega)).trans (if_pos (by omega)))
                  | exact ih (t + 1) _ _ _ _ (by omega) (by omega) (Or.inr ⟨by omega, by omega, by omega⟩) z (fun q => absurd q (by omega)) (fun _ => (hz3 (by omega)).trans (if_neg (by omega)))
          · skip
            refine r_iload dX9_downOf_84 rfl ?_
            refine r_iload dX9_downOf_86 rfl ?_
            refine i_icmp_ge 95 dX9_downOf_88 rfl ⟨by omega, by omega⟩ ⟨by omega, by omega⟩ (fun q88 => ?_) (fun q88 => ?_)
            · skip
              refine i_const dX9_downOf_95 ?_
              refine r_istore dX9_downOf_96 (Nat.le_of_ble_eq_true rfl) ?_
              refine r_iload dX9_downOf_98 rfl ?_
              refine i_if_eq 108 dX9_downOf_100 rfl ⟨by omega, by omega⟩ (fun q100 => ?_) (fun q100 => ?_)
              · skip
                refine r_iload dX9_downOf_108 rfl ?_
                refine r_istore dX9_downOf_110 (Nat.le_of_ble_eq_true rfl) ?_
                refine r_iload dX9_downOf_112 rfl ?_
                refine i_if_eq 122 dX9_downOf_114 rfl ⟨by omega, by omega⟩ (fun q114 => ?_) (fun q114 => ?_)
                · skip
                  refine r_iload dX9_downOf_122 rfl ?_
                  refine r_istore dX9_downOf_124 (Nat.le_of_ble_eq_true rfl) ?_
                  refine i_iinc dX9_downOf_126 rfl (Nat.le_of_ble_eq_true rfl) ?_
                  refine r_goto 13 dX9_downOf_129 rfl ?_
                  first
                    | exact ih (t + 1) _ _ _ _ (by omega) (by omega) (Or.inr ⟨by omega, by omega, by omega⟩) z (fun q => absurd q (by omega)) (fun _ => (hz1 (by omega)).2)
                    | exact ih (t + 1) _ _ _ _ (by omega) (by omega) (Or.inr ⟨by omega, by omega, by omega⟩) z (fun q => absurd q (by omega)) (fun _ => (hz3 (by omega)).trans (if_pos (by omega)))
                    | exact ih (t + 1) _ _ _ _ (by omega) (by omega) (Or.inr ⟨by omega, by omega, by omega⟩) z (fun q => absurd q (by omega)) (fun _ => (hz3 (by omega)).trans (if_neg (by omega)))
                · exfalso
                  omega
              · exfalso
                omega
            · skip
              refine i_const dX9_downOf_91 ?_
              refine r_goto 96 dX9_downOf_92 rfl ?_
              refine r_istore dX9_downOf_96 (Nat.le_of_ble_eq_true rfl) ?_
              refine r_iload dX9_downOf_98 rfl ?_
              refine i_if_eq 108 dX9_downOf_100 rfl ⟨by omega, by omega⟩ (fun q100 => ?_) (fun q100 => ?_)
              · exfalso
                omega
              · skip
                refine r_iload dX9_downOf_103 rfl ?_
                refine r_goto 110 dX9_downOf_105 rfl ?_
                refine r_istore dX9_downOf_110 (Nat.le_of_ble_eq_true rfl) ?_
                refine r_iload dX9_downOf_112 rfl ?_
                refine i_if_eq 122 dX9_downOf_114 rfl ⟨by omega, by omega⟩ (fun q114 => ?_) (fun q114 => ?_)
                · exfalso
                  omega
                · skip
                  refine r_iload dX9_downOf_117 rfl ?_
                  refine r_goto 124 dX9_downOf_119 rfl ?_
                  refine r_istore dX9_downOf_124 (Nat.le_of_ble_eq_true rfl) ?_
                  refine i_iinc dX9_downOf_126 rfl (Nat.le_of_ble_eq_true rfl) ?_
                  refine r_goto 13 dX9_downOf_129 rfl ?_
                  first
                    | exact ih (t + 1) _ _ _ _ (by omega) (by omega) (Or.inr ⟨by omega, by omega, by omega⟩) z (fun q => absurd q (by omega)) (fun _ => (hz1 (by omega)).2)
                    | exact ih (t + 1) _ _ _ _ (by omega) (by omega) (Or.inr ⟨by omega, by omega, by omega⟩) z (fun q => absurd q (by omega)) (fun _ => (hz3 (by omega)).trans (if_pos (by omega)))
                    | exact ih (t + 1) _ _ _ _ (by omega) (by omega) (Or.inr ⟨by omega, by omega, by omega⟩) z (fun q => absurd q (by omega)) (fun _ => (hz3 (by omega)).trans (if_neg (by omega)))

set_option maxRecDepth 20000 in
theorem m_downOf (M σ : rl_S) (c : IM M σ) (hw : WF M) (t : Int) (t0 : 0 ≤ t) (t1 : t < 400) (m w : Int) (m0 : 1 ≤ m ∧ m ≤ 100) (hw2 : w = 0 ∨ w = 1) : Ct mW mX9_downOf [.ref 0, .int (iI t), .int (iI m), .int (iI w)] σ (pH M (if w = 0 then dn M (min 400 (t + m) - t - 1).toNat (t + 1) t else dst M (dn M (min 400 (t + m) - t - 1).toNat (t + 1) t))) := by
  refine Ct.of plX9 (Nat.le_of_ble_eq_true rfl) ?_
  refine r_aload_n dX9_downOf_0 rfl ?_
  refine i_cvV (m_lays M σ c hw) lmX9_117 dX9_downOf_1 (Nat.le_of_ble_eq_true rfl) rfl ⟨_, _, rfl⟩ (by decide) (by decide) rfl rfl (Nat.le_of_ble_eq_true rfl) (fun σ1 c1 => ?_)
  refine i_const dX9_downOf_4 ?_
  refine r_istore dX9_downOf_5 (Nat.le_of_ble_eq_true rfl) ?_
  refine i_const dX9_downOf_7 ?_
  refine r_istore dX9_downOf_8 (Nat.le_of_ble_eq_true rfl) ?_
  refine r_iload_n dX9_downOf_10 rfl ?_
  refine r_istore dX9_downOf_11 (Nat.le_of_ble_eq_true rfl) ?_
  exact m_down_l M σ1 c1 hw t m w (by omega) m0 hw2 (min 400 (t + m) - t).toNat t (-1) 0 _ _ t0 (by omega) (Or.inl ⟨rfl, rfl⟩) _ (fun _ => ⟨by omega, by rw [show (min 400 (t + m) - t).toNat - 1 = (min 400 (t + m) - t - 1).toNat by omega]⟩) (fun q => absurd rfl q)

set_option maxRecDepth 20000 in
theorem m_down (M σ : rl_S) (c : IM M σ) (hw : WF M) (t m w : Int) (ht : -2147483648 ≤ t ∧ t < 2147483648) (hm : -2147483648 ≤ m ∧ m < 2147483648) (hw2 : -2147483648 ≤ w ∧ w < 2147483648) : Ct mW mX9_down [.ref 0, .int (iI t), .int (iI m), .int (iI w)] σ (pM M (q_down M t m w)) := by
  refine Ct.of plX9 (Nat.le_of_ble_eq_true rfl) ?_
  have ob1 := ob_bd (decide (0 ≤ t ∧ t ≤ 399))
  have ob2 := ob_bd (decide (1 ≤ m ∧ m ≤ 100))
  have ob3 := ob_bd (decide (0 ≤ w ∧ w ≤ 1))
  refine r_iload_n dX9_down_0 rfl ?_
  refine i_csP (m_isTenth _ t ht) lmX9_90 dX9_down_1 (by decide) (by decide) rfl rfl (Nat.le_of_ble_eq_true rfl) ?_
  refine i_if_eq 33 dX9_down_4 rfl (ob_i32 _) (fun q4 => ?_) (fun q4 => ?_)
  · have e4 := ob_df q4
    refine i_bipush dX9_down_33 (by decide) ?_
    refine r_iret rfl dX9_down_35 ?_
    first
      | exact ⟨_, rfl, by rw [hd.1]; exact (if_pos (by omega)).symm, hd.2.1.1⟩
      | exact ⟨_, rfl, by unfold q_down; rw [if_neg (by omega)], c⟩
  · have e4 := ob_dt q4
    refine r_iload_n dX9_down_7 rfl ?_
    refine i_csP (m_isMany _ m hm) lmX9_141 dX9_down_8 (by decide) (by decide) rfl rfl (Nat.le_of_ble_eq_true rfl) ?_
    refine i_if_eq 33 dX9_down_11 rfl (ob_i32 _) (fun q11 => ?_) (fun q11 => ?_)
    · have e11 := ob_df q11
      refine i_bipush dX9_down_33 (by decide) ?_
      refine r_iret rfl dX9_down_35 ?_
      first
        | exact ⟨_, rfl, by rw [hd.1]; exact (if_pos (by omega)).symm, hd.2.1.1⟩
        | exact ⟨_, rfl, by unfold q_down; rw [if_neg (by omega)], c⟩
    · have e11 := ob_dt q11
      refine r_iload_n dX9_down_14 rfl ?_
      refine i_const dX9_down_15 ?_
      refine i_const dX9_down_16 ?_
      refine i_csP (m_in σ w 0 1 hw2 (by decide) (by decide)) lmX9_55 dX9_down_17 (by decide) (by decide) rfl rfl (Nat.le_of_ble_eq_true rfl) ?_
      refine i_if_eq 33 dX9_down_20 rfl (ob_i32 _) (fun q20 => ?_) (fun q20 => ?_)
      · have e20 := ob_df q20
        refine i_bipush dX9_down_33 (by decide) ?_
        refine r_iret rfl dX9_down_35 ?_
        first
          | exact ⟨_, rfl, by rw [hd.1]; exact (if_pos (by omega)).symm, hd.2.1.1⟩
          | exact ⟨_, rfl, by unfold q_down; rw [if_neg (by omega)], c⟩
      · have e20 := ob_dt q20
        refine r_aload_n dX9_down_23 rfl ?_
        refine r_iload_n dX9_down_24 rfl ?_
        refine r_iload_n dX9_down_25 rfl ?_
        refine r_iload_n dX9_down_26 rfl ?_
        refine i_cvI (m_downOf M σ c hw t (by omega) (by omega) m w (by omega) (by omega)) lmX9_196 dX9_down_27 (Nat.le_of_ble_eq_true rfl) rfl ⟨_, _, rfl⟩ (by decide) (by decide) rfl rfl (Nat.le_of_ble_eq_true rfl) (fun z1 σ1 hd => ?_)
        refine r_goto 35 dX9_down_30 rfl ?_
        refine r_iret rfl dX9_down_35 ?_
        first
          | exact ⟨_, rfl, by rw [hd.1]; exact (if_pos (by omega)).symm, hd.2.1.1⟩
          | exact ⟨_, rfl, by unfold q_down; rw [if_neg (by omega)], c⟩

theorem m_saves_l (M σ : rl_S) (c : IH M σ) (hw : WF M) (a m : Int) (ea : M 0 7 = a) (em : M 0 8 = m) (a0 : 0 ≤ a ∧ a ≤ 399) (m0 : 0 ≤ m ∧ m ≤ 399) : ∀ (n : Nat) (t p q : Int), ((t + n = min 400 (a + m)) ∨ (n = 0 ∧ min 400 (a + m) ≤ t)) → 0 ≤ t → t ≤ 400 → 0 ≤ p → p ≤ 3000 → 0 ≤ q → q ≤ 3000 → ∀ z, z = (if m = 0 then -1 else mxU (raw M) n t q - mxU (hi M) n t p) → Rn mW mX9_savesNow 13 [.ref 0, .int (iI p), .int (iI q), .int (iI t)] [] σ (pH M z) := by
  intro n
  have e7 := c.1.1.2.1.trans ea
  have e8 := c.1.1.2.2.1.trans em
  induction n with
  | zero =>
    intro t p q ht t0 t1 p0 p1 q0 q1 z hz
    refine r_iload_n dX9_savesNow_13 rfl ?_
    refine r_aload_n dX9_savesNow_14 rfl ?_
    refine r_get (k := 0) lfX9_93 dX9_savesNow_15 (Nat.le_of_ble_eq_true rfl) rfl rfl ?_
    rw [e7]
    refine r_aload_n dX9_savesNow_18 rfl ?_
    refine r_get (k := 0) lfX9_96 dX9_savesNow_19 (Nat.le_of_ble_eq_true rfl) rfl rfl ?_
    rw [e8]
    refine i_iadd dX9_savesNow_22 ?_
    refine i_icmp_ge 79 dX9_savesNow_23 rfl ⟨by omega, by omega⟩ ⟨by omega, by omega⟩ (fun q23 => ?_) (fun q23 => ?_)
    · skip
      refine r_aload_n dX9_savesNow_79 rfl ?_
      refine r_get (k := 0) lfX9_96 dX9_savesNow_80 (Nat.le_of_ble_eq_true rfl) rfl rfl ?_
      rw [e8]
      refine i_if_ne 90 dX9_savesNow_83 rfl ⟨by omega, by omega⟩ (fun q83 => ?_) (fun q83 => ?_)
      · skip
        refine r_iload_n dX9_savesNow_90 rfl ?_
        refine r_iload_n dX9_savesNow_91 rfl ?_
        refine i_isub dX9_savesNow_92 ?_
        refine r_iret rfl dX9_savesNow_93 ?_
        first
          | exact ⟨_, rfl, by rw [hz, if_pos (by omega)], c⟩
          | exact ⟨_, rfl, by rw [hz, if_neg (by omega)]; rfl, c⟩
      · skip
        refine i_const dX9_savesNow_86 ?_
        refine r_goto 93 dX9_savesNow_87 rfl ?_
        refine r_iret rfl dX9_savesNow_93 ?_
        first
          | exact ⟨_, rfl, by rw [hz, if_pos (by omega)], c⟩
          | exact ⟨_, rfl, by rw [hz, if_neg (by omega)]; rfl, c⟩
    · skip
      refine r_iload_n dX9_savesNow_26 rfl ?_
      refine i_sipush dX9_savesNow_27 (by decide) ?_
      refine i_icmp_ge 79 dX9_savesNow_30 rfl ⟨by omega, by omega⟩ ⟨by omega, by omega⟩ (fun q30 => ?_) (fun q30 => ?_)
      · skip
        refine r_aload_n dX9_savesNow_79 rfl ?_
        refine r_get (k := 0) lfX9_96 dX9_savesNow_80 (Nat.le_of_ble_eq_true rfl) rfl rfl ?_
        rw [e8]
        refine i_if_ne 90 dX9_savesNow_83 rfl ⟨by omega, by omega⟩ (fun q83 => ?_) (fun q83 => ?_)
        · skip
          refine r_iload_n dX9_savesNow_90 rfl ?_
          refine r_iload_n dX9_savesNow_91 rfl ?_
          refine i_isub dX9_savesNow_92 ?_
          refine r_iret rfl dX9_savesNow_93 ?_
          first
            | exact ⟨_, rfl, by rw [hz, if_pos (by omega)], c⟩
            | exact ⟨_, rfl, by rw [hz, if_neg (by omega)]; rfl, c⟩
        · skip
          refine i_const dX9_savesNow_86 ?_
          refine r_goto 93 dX9_savesNow_87 rfl ?_
          refine r_iret rfl dX9_savesNow_93 ?_
          first
            | exact ⟨_, rfl, by rw [hz, if_pos (by omega)], c⟩
            | exact ⟨_, rfl, by rw [hz, if_neg (by omega)]; rfl, c⟩
      · exfalso
        omega
  | succ n ih =>
    intro t p q ht t0 t1 p0 p1 q0 q1 z hz
    have b1 := wf_hb hw t t0 (by omega)
    have b2 := wf_rb hw t t0 (by omega)
    have er : raw M t = rawU (hS M) (lS M) (pS M) t (nS M).toNat := rfl
    simp only [mxU] at hz
    refine r_iload_n dX9_savesNow_13 rfl ?_
    refine r_aload_n dX9_savesNow_14 rfl ?_
    refine r_get (k := 0) lfX9_93 dX9_savesNow_15 (Nat.le_of_ble_eq_true rfl) rfl rfl ?_
    rw [e7]
    refine r_aload_n dX9_savesNow_18 rfl ?_
    refine r_get (k := 0) lfX9_96 dX9_savesNow_19 (Nat.le_of_ble_eq_true rfl) rfl rfl ?_
    rw [e8]
    refine i_iadd dX9_savesNow_22 ?_
    refine i_icmp_ge 79 dX9_savesNow_23 rfl ⟨by omega, by omega⟩ ⟨by omega, by omega⟩ (fun q23 => ?_) (fun q23 => ?_)
    · exfalso
      omega
    · skip
      refine r_iload_n dX9_savesNow_26 rfl ?_
      refine i_sipush dX9_savesNow_27 (by decide) ?_
      refine i_icmp_ge 79 dX9_savesNow_30 rfl ⟨by omega, by omega⟩ ⟨by omega, by omega⟩ (fun q30 => ?_) (fun q30 => ?_)
      · exfalso
        omega
      · skip
        refine r_aload_n dX9_savesNow_33 rfl ?_
        refine r_get (k := 0) lfX9_28 dX9_savesNow_34 (Nat.le_of_ble_eq_true rfl) rfl rfl ?_
        refine r_iload_n dX9_savesNow_37 rfl ?_
        refine i_ald (k := 7) dX9_savesNow_38 (Nat.le_of_ble_eq_true rfl) rfl rfl ⟨by omega, by omega⟩ (by decide) ?_
        rw [c.2 t t0 (by omega)]
        refine r_iload_n dX9_savesNow_39 rfl ?_
        refine i_icmp_le 52 dX9_savesNow_40 rfl ⟨by omega, by omega⟩ ⟨by omega, by omega⟩ (fun q40 => ?_) (fun q40 => ?_)
        · skip
          refine r_iload_n dX9_savesNow_52 rfl ?_
          refine r_istore_n dX9_savesNow_53 (Nat.le_of_ble_eq_true rfl) ?_
          refine r_aload_n dX9_savesNow_54 rfl ?_
          refine r_iload_n dX9_savesNow_55 rfl ?_
          refine i_cvP (m_rawHigh σ (nS M) (hS M) (lS M) (pS M) (ir_rh c.1 hw) t t0 (by omega)) lmX9_108 dX9_savesNow_56 (Nat.le_of_ble_eq_true rfl) rfl ⟨_, _, rfl⟩ (by decide) (by decide) rfl rfl (Nat.le_of_ble_eq_true rfl) ?_
          rw [← er]
          refine r_iload_n dX9_savesNow_59 rfl ?_
          refine i_icmp_le 71 dX9_savesNow_60 rfl ⟨by omega, by omega⟩ ⟨by omega, by omega⟩ (fun q60 => ?_) (fun q60 => ?_)
          · skip
            refine r_iload_n dX9_savesNow_71 rfl ?_
            refine r_istore_n dX9_savesNow_72 (Nat.le_of_ble_eq_true rfl) ?_
            refine i_iinc dX9_savesNow_73 rfl (Nat.le_of_ble_eq_true rfl) ?_
            refine r_goto 13 dX9_savesNow_76 rfl ?_
            exact ih _ _ _ (by omega) (by omega) (by omega) (by omega) (by omega) (by omega) (by omega) z (by rw [hz]; congr 2 <;> first | rfl | (congr 1; omega))
          · skip
            refine r_aload_n dX9_savesNow_63 rfl ?_
            refine r_iload_n dX9_savesNow_64 rfl ?_
            refine i_cvP (m_rawHigh σ (nS M) (hS M) (lS M) (pS M) (ir_rh c.1 hw) t t0 (by omega)) lmX9_108 dX9_savesNow_65 (Nat.le_of_ble_eq_true rfl) rfl ⟨_, _, rfl⟩ (by decide) (by decide) rfl rfl (Nat.le_of_ble_eq_true rfl) ?_
            rw [← er]
            refine r_goto 72 dX9_savesNow_68 rfl ?_
            refine r_istore_n dX9_savesNow_72 (Nat.le_of_ble_eq_true rfl) ?_
            refine i_iinc dX9_savesNow_73 rfl (Nat.le_of_ble_eq_true rfl) ?_
            refine r_goto 13 dX9_savesNow_76 rfl ?_
            exact ih _ _ _ (by omega) (by omega) (by omega) (by omega) (by omega) (by omega) (by omega) z (by rw [hz]; congr 2 <;> first | rfl | (congr 1; omega))
        · skip
          refine r_aload_n dX9_savesNow_43 rfl ?_
          refine r_get (k := 0) lfX9_28 dX9_savesNow_44 (Nat.le_of_ble_eq_true rfl) rfl rfl ?_
          refine r_iload_n dX9_savesNow_47 rfl ?_
          refine i_ald (k := 7) dX9_savesNow_48 (Nat.le_of_ble_eq_true rfl) rfl rfl ⟨by omega, by omega⟩ (by decide) ?_
          rw [c.2 t t0 (by omega)]
          refine r_goto 53 dX9_savesNow_49 rfl ?_
          refine r_istore_n dX9_savesNow_53 (Nat.le_of_ble_eq_true rfl) ?_
          refine r_aload_n dX9_savesNow_54 rfl ?_
          refine r_iload_n dX9_savesNow_55 rfl ?_
          refine i_cvP (m_rawHigh σ (nS M) (hS M) (lS M) (pS M) (ir_rh c.1 hw) t t0 (by omega)) lmX9_108 dX9_savesNow_56 (Nat.le_of_ble_eq_true rfl) rfl ⟨_, _, rfl⟩ (by decide) (by decide) rfl rfl (Nat.le_of_ble_eq_true rfl) ?_
          rw [← er]
          refine r_iload_n dX9_savesNow_59 rfl ?_
          refine i_icmp_le 71 dX9_savesNow_60 rfl ⟨by omega, by omega⟩ ⟨by omega, by omega⟩ (fun q60 => ?_) (fun q60 => ?_)
          · skip
            refine r_iload_n dX9_savesNow_71 rfl ?_
            refine r_istore_n dX9_savesNow_72 (Nat.le_of_ble_eq_true rfl) ?_
            refine i_iinc dX9_savesNow_73 rfl (Nat.le_of_ble_eq_true rfl) ?_
            refine r_goto 13 dX9_savesNow_76 rfl ?_
            exact ih _ _ _ (by omega) (by omega) (by omega) (by omega) (by omega) (by omega) (by omega) z (by rw [hz]; congr 2 <;> first | rfl | (congr 1; omega))
          · skip
            refine r_aload_n dX9_savesNow_63 rfl ?_
            refine r_iload_n dX9_savesNow_64 rfl ?_
            refine i_cvP (m_rawHigh σ (nS M) (hS M) (lS M) (pS M) (ir_rh c.1 hw) t t0 (by omega)) lmX9_108 dX9_savesNow_65 (Nat.le_of_ble_eq_true rfl) rfl ⟨_, _, rfl⟩ (by decide) (by decide) rfl rfl (Nat.le_of_ble_eq_true rfl) ?_
            rw [← er]
            refine r_goto 72 dX9_savesNow_68 rfl ?_
            refine r_istore_n dX9_savesNow_72 (Nat.le_of_ble_eq_true rfl) ?_
            refine i_iinc dX9_savesNow_73 rfl (Nat.le_of_ble_eq_true rfl) ?_
            refine r_goto 13 dX9_savesNow_76 rfl ?_
            exact ih _ _ _ (by omega) (by omega) (by omega) (by omega) (by omega) (by omega) (by omega) z (by rw [hz]; congr 2 <;> first | rfl | (congr 1; omega))

set_option maxRecDepth 20000 in
theorem m_savesNow (M σ : rl_S) (c : IM M σ) (hw : WF M)  : Ct mW mX9_savesNow [.ref 0] σ (pH M (q_saves M)) := by
  refine Ct.of plX9 (Nat.le_of_ble_eq_true rfl) ?_
  have w1 := wf_1 hw
  refine r_aload_n dX9_savesNow_0 rfl ?_
  refine i_cvV (m_lays M σ c hw) lmX9_117 dX9_savesNow_1 (Nat.le_of_ble_eq_true rfl) rfl ⟨_, _, rfl⟩ (by decide) (by decide) rfl rfl (Nat.le_of_ble_eq_true rfl) (fun σ1 c1 => ?_)
  refine i_const dX9_savesNow_4 ?_
  refine r_istore_n dX9_savesNow_5 (Nat.le_of_ble_eq_true rfl) ?_
  refine i_const dX9_savesNow_6 ?_
  refine r_istore_n dX9_savesNow_7 (Nat.le_of_ble_eq_true rfl) ?_
  refine r_aload_n dX9_savesNow_8 rfl ?_
  refine r_get (k := 0) lfX9_93 dX9_savesNow_9 (Nat.le_of_ble_eq_true rfl) rfl rfl ?_
  rw [c1.1.1.2.1]
  refine r_istore_n dX9_savesNow_12 (Nat.le_of_ble_eq_true rfl) ?_
  exact m_saves_l M σ1 c1 hw _ _ rfl rfl w1.1 w1.2 (min 400 (M 0 7 + M 0 8) - M 0 7).toNat (M 0 7) 0 0 (by omega) (by omega) (by omega) (by omega) (by omega) (by omega) (by omega) _ rfl

set_option maxRecDepth 20000 in
theorem m_saves (M σ : rl_S) (c : IM M σ) (hw : WF M)  : Ct mW mX9_saves [.ref 0] σ (pM M (q_saves M)) := by
  refine Ct.of plX9 (Nat.le_of_ble_eq_true rfl) ?_
  refine r_aload_n dX9_saves_0 rfl ?_
  refine i_cvI (m_savesNow M σ c hw) lmX9_199 dX9_saves_1 (Nat.le_of_ble_eq_true rfl) rfl ⟨_, _, rfl⟩ (by decide) (by decide) rfl rfl (Nat.le_of_ble_eq_true rfl) (fun z1 σ1 hd => ?_)
  refine r_iret rfl dX9_saves_4 ?_
  exact ⟨_, rfl, hd.1, hd.2.1.1⟩
