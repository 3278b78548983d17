/-! longs -/
theorem lI_add (a b : Int) : lI a + lI b = lI (a + b) := (Int64.ofInt_add a b).symm
theorem lI_mul (a b : Int) : lI a * lI b = lI (a * b) := (Int64.ofInt_mul a b).symm
theorem lI_sub (a b : Int) : lI a - lI b = lI (a - b) := (Int64.ofInt_sub a b).symm
theorem lI_toInt {a : Int} (h : -9223372036854775808 ≤ a ∧ a < 9223372036854775808) : (lI a).toInt = a := Int64.toInt_ofInt_of_le (by simpa using h.1) (by simpa using h.2)
theorem lI_i {a : Int} (h : -2147483648 ≤ a ∧ a < 2147483648) : (iI a).toInt64 = lI a := by
  rw [← Int64.toInt_inj, lI_toInt ⟨by omega, by omega⟩, Int32.toInt_toInt64, iI_toInt h]
theorem lI_lt {a b : Int} (ha : -9223372036854775808 ≤ a ∧ a < 9223372036854775808) (hb : -9223372036854775808 ≤ b ∧ b < 9223372036854775808) : lI a < lI b ↔ a < b := by
  rw [Int64.lt_iff_toInt_lt, lI_toInt ha, lI_toInt hb]
theorem lI_eq {a b : Int} (ha : -9223372036854775808 ≤ a ∧ a < 9223372036854775808) (hb : -9223372036854775808 ≤ b ∧ b < 9223372036854775808) : lI a = lI b ↔ a = b := by
  rw [← Int64.toInt_inj, lI_toInt ha, lI_toInt hb]
def cmp (a b : Int) : Int := if b < a then 1 else if a = b then 0 else -1
theorem cmp_bd (a b : Int) : -1 ≤ cmp a b ∧ cmp a b ≤ 1 := by
  unfold cmp
  repeat' split
  all_goals decide
theorem lI_cmp {a b : Int} (ha : -9223372036854775808 ≤ a ∧ a < 9223372036854775808) (hb : -9223372036854775808 ≤ b ∧ b < 9223372036854775808) : lg_cmp (lI a) (lI b) = iI (cmp a b) := by
  unfold cmp
  by_cases h1 : b < a
  · rw [if_pos h1]; simp only [lg_cmp]; rw [if_pos ((lI_lt hb ha).mpr h1)]; rfl
  · rw [if_neg h1]
    by_cases h2 : a = b
    · rw [if_pos h2]; simp only [lg_cmp]; rw [if_neg (fun z => h1 ((lI_lt hb ha).mp z)), if_pos ((lI_eq ha hb).mpr h2)]; rfl
    · rw [if_neg h2]; simp only [lg_cmp]; rw [if_neg (fun z => h1 ((lI_lt hb ha).mp z)), if_neg (fun z => h2 ((lI_eq ha hb).mp z))]; rfl
theorem lI_div {a b : Int} (ha : 0 ≤ a ∧ a < 9223372036854775808) (hb : 0 < b ∧ b < 9223372036854775808) : lI a / lI b = lI (a / b) := by
  have h1 : 0 ≤ a / b := Int.ediv_nonneg ha.1 (by omega)
  have h2 : a / b ≤ a := Int.ediv_le_self b ha.1
  rw [← Int64.toInt_inj, Int64.toInt_div, lI_toInt ⟨by omega, ha.2⟩, lI_toInt ⟨by omega, hb.2⟩, lI_toInt ⟨by omega, by omega⟩, Int.tdiv_eq_ediv_of_nonneg ha.1]
  rw [Int.bmod_eq_of_le (by omega) (by omega)]
theorem lI_rem {a b : Int} (ha : 0 ≤ a ∧ a < 9223372036854775808) (hb : 0 < b ∧ b < 9223372036854775808) : lI a - lI a / lI b * lI b = lI (a % b) := by
  rw [lI_div ha hb, lI_mul, lI_sub]
  congr 1
  have := Int.mul_ediv_add_emod a b
  rw [Int.mul_comm] at this
  omega
theorem lI_ne0 {b : Int} (hb : 0 < b ∧ b < 9223372036854775808) : ¬ lI b = 0 := by
  intro h
  have h2 : (lI b).toInt = (0 : Int64).toInt := by rw [h]
  rw [lI_toInt ⟨by omega, hb.2⟩] at h2
  have : (0 : Int64).toInt = 0 := by decide
  omega
section RL2
variable {w : rl_W} {M : rl_M} {pc : Nat} {ls st : List Value} {σ : rl_S} {Post : Option Value → rl_S → Prop}
theorem l_i2l {a : Int} (hd : decode M.2.1 pc = .ok (.i2l, 1)) (ha : -2147483648 ≤ a ∧ a < 2147483648) (kk : Rn w M (pc + 1) ls (.long (lI a) :: st) σ Post) : Rn w M pc ls (.int (iI a) :: st) σ Post := r_i2l hd (by rw [lI_i ha]; exact kk)
theorem l_mul {a b : Int} (hd : decode M.2.1 pc = .ok (.lmul, 1)) (kk : Rn w M (pc + 1) ls (.long (lI (a * b)) :: st) σ Post) : Rn w M pc ls (.long (lI b) :: .long (lI a) :: st) σ Post := r_lmul hd (by rw [lI_mul]; exact kk)
theorem l_div {a b : Int} (hd : decode M.2.1 pc = .ok (.ldiv, 1)) (ha : 0 ≤ a ∧ a < 9223372036854775808) (hb : 0 < b ∧ b < 9223372036854775808) (kk : Rn w M (pc + 1) ls (.long (lI (a / b)) :: st) σ Post) : Rn w M pc ls (.long (lI b) :: .long (lI a) :: st) σ Post := r_ldiv hd (lI_ne0 hb) (by rw [lI_div ha hb]; exact kk)
theorem l_rem {a b : Int} (hd : decode M.2.1 pc = .ok (.lrem, 1)) (ha : 0 ≤ a ∧ a < 9223372036854775808) (hb : 0 < b ∧ b < 9223372036854775808) (kk : Rn w M (pc + 1) ls (.long (lI (a % b)) :: st) σ Post) : Rn w M pc ls (.long (lI b) :: .long (lI a) :: st) σ Post := r_lrem hd (lI_ne0 hb) (by rw [lI_rem ha hb]; exact kk)
theorem l_cmp {a b : Int} (hd : decode M.2.1 pc = .ok (.lcmp, 1)) (ha : -9223372036854775808 ≤ a ∧ a < 9223372036854775808) (hb : -9223372036854775808 ≤ b ∧ b < 9223372036854775808) (kk : Rn w M (pc + 1) ls (.int (iI (cmp a b)) :: st) σ Post) : Rn w M pc ls (.long (lI b) :: .long (lI a) :: st) σ Post := r_lcmp hd (by rw [lI_cmp ha hb]; exact kk)
theorem l_ldc2 {n : Nat} {v : Int} {v0 : Int64} (hv : v0 = lI v) (hd : decode M.2.1 pc = .ok (.ldc2_w n, 3)) (hw : Cond.constantLong M.1.cls n v0 ∈ rl_T) (kk : Rn w M (pc + 3) ls (.long (lI v) :: st) σ Post) : Rn w M pc ls st σ Post := r_ldc2 hd hw (by rw [hv]; exact kk)
theorem l_const {n : Fin 2} {v : Int} (hv : Int64.ofNat n = lI v) (hd : decode M.2.1 pc = .ok (.lconst n, 1)) (kk : Rn w M (pc + 1) ls (.long (lI v) :: st) σ Post) : Rn w M pc ls st σ Post := r_lconst hd hv kk
end RL2
/-! chances, in parts of 16 to the 13th -/
def prd (B bangs : Int) : Nat → Int
  | 0 => 1
  | n + 1 => prd B bangs n * (if (n : Int) < bangs then 16 - B else 16)
theorem prd_bd {B : Int} (h : 0 ≤ B ∧ B ≤ 16) (bangs : Int) : ∀ n : Nat, 0 ≤ prd B bangs n ∧ prd B bangs n ≤ 16 ^ n
  | 0 => by simp [prd]
  | n + 1 => by
    have i := prd_bd h bangs n
    have h2 : 0 ≤ (if (n : Int) < bangs then 16 - B else 16) ∧ (if (n : Int) < bangs then 16 - B else 16) ≤ 16 := by split <;> omega
    simp only [prd]
    refine ⟨Int.mul_nonneg i.1 h2.1, ?_⟩
    rw [Int.pow_succ]
    exact Int.mul_le_mul i.2 h2.2 h2.1 (Int.le_trans i.1 i.2)
def chn (M : rl_S) (t : Int) : Int := if (clM M t).1 = -1 then 0 else (16 - fll M t) * prd (M 6 8) (clM M t).2 12
theorem chn_bd {M : rl_S} (hw : WF M) (t : Int) : 0 ≤ chn M t ∧ chn M t ≤ 4503599627370496 := by
  have h1 := fll_bd hw t
  have h2 := prd_bd (wf_set hw).2.2.2.2.2.2.2.2.1 (clM M t).2 12
  have h3 : (16 : Int) ^ 12 = 281474976710656 := by decide
  rw [h3] at h2
  unfold chn
  split
  · decide
  · refine ⟨Int.mul_nonneg (by omega) h2.1, ?_⟩
    have := Int.mul_le_mul (show 16 - fll M t ≤ 16 by omega) h2.2 h2.1 (by decide : (0 : Int) ≤ 16)
    omega
def bst (c : Int → Int) : Nat → Int → Int → Int → Int
  | 0, _, b, _ => b
  | n + 1, t, b, m => if m < c t then bst c n (t + 1) t (c t) else bst c n (t + 1) b m
theorem bst_bd (c : Int → Int) : ∀ (n : Nat) (t b m : Int), b < t → b ≤ bst c n t b m ∧ bst c n t b m < t + n
  | 0, t, b, m, h => by simp only [bst]; omega
  | n + 1, t, b, m, h => by
    have i1 := bst_bd c n (t + 1) t (c t) (by omega)
    have i2 := bst_bd c n (t + 1) b m (by omega)
    simp only [bst]
    split <;> omega
def beM (M : rl_S) (t m : Int) : Int := bst (chn M) (min 400 (t + m) - t - 1).toNat (t + 1) t (chn M t)
def q_best (M : rl_S) (t m : Int) : Int := if (0 ≤ t ∧ t ≤ 399) ∧ (1 ≤ m ∧ m ≤ 100) then beM M t m else -2
def q_call (M : rl_S) (t m : Int) : Int := if (0 ≤ t ∧ t ≤ 399) ∧ (1 ≤ m ∧ m ≤ 100) then (if beM M t m < M 6 11 then -1 else beM M t m - M 6 11) else -2
/-- lowest terms by halves -/
def red : Nat → Int → Int → Int × Int
  | 0, a, b => (a, b)
  | n + 1, a, b => if a % 2 = 0 then red n (a / 2) (b / 2) else (a, b)
def q_safe (M : rl_S) (t w : Int) : Int64 := if (0 ≤ t ∧ t ≤ 399) ∧ (w = 0 ∨ w = 1) then (if w = 0 then lI (red 52 (chn M t) 4503599627370496).1 else lI (red 52 (chn M t) 4503599627370496).2) else -9223372036854775806
/-- what changes when a climb is gone through -/
def IK (σ σ' : rl_S) : Prop := ∀ k i, k ≠ 16 → σ' k i = σ k i
theorem Rn.mono {w : rl_W} {M : rl_M} {pc : Nat} {ls st : List Value} {σ : rl_S} {P Q : Option Value → rl_S → Prop} (h : Rn w M pc ls st σ P) (hPQ : ∀ r σ', P r σ' → Q r σ') : Rn w M pc ls st σ Q := by
  intro p l e s m args below meth c D T ad A F H locs larr hP hS hL T1 h1 h2
  obtain ⟨t, a1, oc, b1, b2, ⟨⟨r, σ', h4, h5, h6⟩, h7⟩, b4⟩ := h p l e s m args below meth c D T ad A F H locs larr hP hS hL T1 h1 h2
  exact ⟨t, a1, oc, b1, b2, ⟨⟨r, σ', h4, hPQ _ _ h5, h6⟩, h7⟩, b4⟩
theorem c_chance_l (M σ : rl_S) (c : IC M σ) (hw : WF M) (t bb : Int) (hb : bb = (clM M t).2) (bb0 : 0 ≤ bb ∧ bb ≤ 12) (A : Int) : ∀ (n : Nat) (k : Nat), k + n = 12 → ∀ (σ2 : rl_S), fr16 σ σ2 → σ2 16 4 = bb → Rn cW mX8_chance 48 [.ref 0, .int (iI t), .long (lI (A * prd (M 6 8) bb k)), .float 0, .int (iI (16 - M 6 8)), .int (iI (k : Int))] [] σ2 (qL (fun z σ' => z = lI (A * prd (M 6 8) bb 12) ∧ IK σ σ')) := by
  intro n
  induction n with
  | zero =>
    intro k hk σ2 hf h4
    refine r_iload dX8_chance_48 rfl ?_
    refine i_bipush dX8_chance_50 (by decide) ?_
    refine i_icmp_ge 85 dX8_chance_52 rfl ⟨by omega, by omega⟩ ⟨by omega, by omega⟩ (fun q52 => ?_) (fun q52 => ?_)
    · skip
      refine r_lload_n dX8_chance_85 rfl ?_
      refine r_lret rfl dX8_chance_86 ?_
      exact ⟨_, rfl, by rw [show k = 12 by omega], hf⟩
    · exfalso
      omega
  | succ n ih =>
    intro k hk σ2 hf h4
    have st := wf_set hw
    have es : prd (M 6 8) bb (k + 1) = prd (M 6 8) bb k * (if (k : Int) < bb then 16 - M 6 8 else 16) := rfl
    refine r_iload dX8_chance_48 rfl ?_
    refine i_bipush dX8_chance_50 (by decide) ?_
    refine i_icmp_ge 85 dX8_chance_52 rfl ⟨by omega, by omega⟩ ⟨by omega, by omega⟩ (fun q52 => ?_) (fun q52 => ?_)
    · exfalso
      omega
    · skip
      refine r_lload_n dX8_chance_55 rfl ?_
      refine r_iload dX8_chance_56 rfl ?_
      refine r_aload_n dX8_chance_58 rfl ?_
      refine r_get (k := 0) lfX8_49 dX8_chance_59 (Nat.le_of_ble_eq_true rfl) rfl rfl ?_
      refine r_get (k := 16) lfX8_183 dX8_chance_62 (Nat.le_of_ble_eq_true rfl) rfl rfl ?_
      rw [h4]
      refine i_icmp_ge 74 dX8_chance_65 rfl ⟨by omega, by omega⟩ ⟨by omega, by omega⟩ (fun q65 => ?_) (fun q65 => ?_)
      · skip
        refine l_ldc2 (v := 16) (by decide) dX8_chance_74 lcX8_364 ?_
        refine l_mul dX8_chance_77 ?_
        refine r_lstore_n dX8_chance_78 (Nat.le_of_ble_eq_true rfl) ?_
        refine i_iinc dX8_chance_79 rfl (Nat.le_of_ble_eq_true rfl) ?_
        refine r_goto 48 dX8_chance_82 rfl ?_
        first
          | (rw [if_pos (by omega)] at es; rw [Int.mul_assoc, ← es]; exact ih (k + 1) (by omega) σ2 hf h4)
          | (rw [if_neg (by omega)] at es; rw [Int.mul_assoc, ← es]; exact ih (k + 1) (by omega) σ2 hf h4)
      · skip
        refine r_iload dX8_chance_68 rfl ?_
        refine l_i2l dX8_chance_70 ⟨by omega, by omega⟩ ?_
        refine r_goto 77 dX8_chance_71 rfl ?_
        refine l_mul dX8_chance_77 ?_
        refine r_lstore_n dX8_chance_78 (Nat.le_of_ble_eq_true rfl) ?_
        refine i_iinc dX8_chance_79 rfl (Nat.le_of_ble_eq_true rfl) ?_
        refine r_goto 48 dX8_chance_82 rfl ?_
        first
          | (rw [if_pos (by omega)] at es; rw [Int.mul_assoc, ← es]; exact ih (k + 1) (by omega) σ2 hf h4)
          | (rw [if_neg (by omega)] at es; rw [Int.mul_assoc, ← es]; exact ih (k + 1) (by omega) σ2 hf h4)

set_option maxRecDepth 20000 in
theorem c_chance (M σ : rl_S) (c : IC M σ) (hw : WF M) (t : Int) (t0 : 0 ≤ t) (t1 : t < 400) : Ct cW mX8_chance [.ref 0, .int (iI t)] σ (qL (fun z σ' => z = lI (chn M t) ∧ IK σ σ')) := by
  refine Ct.of plX8 (Nat.le_of_ble_eq_true rfl) ?_
  obtain ⟨gt, gs, gp, gg, gn, gh1, gf⟩ := id c
  have hb := wf_hb hw
  have hh := gs.2.2.2.2
  have st := wf_set hw
  have cb := clM_bd hw t0 t1
  have fb := fll_bd hw t
  refine r_aload_n dX8_chance_0 rfl ?_
  refine r_get (k := 0) lfX8_49 dX8_chance_1 (Nat.le_of_ble_eq_true rfl) rfl rfl ?_
  refine r_iload_n dX8_chance_4 rfl ?_
  refine i_cvV (c_goFrom σ (hi M) (ic_cp c hw) t t0 t1) lmX8_177 dX8_chance_5 (Nat.le_of_ble_eq_true rfl) rfl ⟨_, _, rfl⟩ (by decide) (by decide) rfl rfl (Nat.le_of_ble_eq_true rfl) (fun σ1 hc => ?_)
  have e1 : σ1 16 3 = (clM M t).1 := by rw [hc.1, clF_M c]
  have e2 : σ1 16 4 = (clM M t).2 := by rw [hc.2.1, clF_M c]
  have c1 : IC M σ1 := ic_k c (fun k i g _ => hc.2.2 k i g)
  have e8 : σ1 15 8 = M 6 8 := c1.2.2.2.1 8 (by decide)
  refine r_aload_n dX8_chance_8 rfl ?_
  refine r_get (k := 0) lfX8_49 dX8_chance_9 (Nat.le_of_ble_eq_true rfl) rfl rfl ?_
  refine r_get (k := 16) lfX8_180 dX8_chance_12 (Nat.le_of_ble_eq_true rfl) rfl rfl ?_
  rw [e1]
  refine i_const dX8_chance_15 ?_
  refine i_icmp_ne 21 dX8_chance_16 rfl ⟨by omega, by omega⟩ ⟨by omega, by omega⟩ (fun q16 => ?_) (fun q16 => ?_)
  · skip
    refine i_bipush dX8_chance_21 (by decide) ?_
    refine r_aload_n dX8_chance_23 rfl ?_
    refine r_iload_n dX8_chance_24 rfl ?_
    refine i_cvP (c_odds M σ1 c1 hw t t0 t1) lmX8_174 dX8_chance_25 (Nat.le_of_ble_eq_true rfl) rfl ⟨_, _, rfl⟩ (by decide) (by decide) rfl rfl (Nat.le_of_ble_eq_true rfl) ?_
    refine i_isub dX8_chance_28 ?_
    refine l_i2l dX8_chance_29 ⟨by omega, by omega⟩ ?_
    refine r_lstore_n dX8_chance_30 (Nat.le_of_ble_eq_true rfl) ?_
    refine i_bipush dX8_chance_31 (by decide) ?_
    refine r_aload_n dX8_chance_33 rfl ?_
    refine r_get (k := 0) lfX8_40 dX8_chance_34 (Nat.le_of_ble_eq_true rfl) rfl rfl ?_
    refine i_bipush dX8_chance_37 (by decide) ?_
    refine i_cvP (c_of σ1 8 (by decide) (by decide)) lmX8_138 dX8_chance_39 (Nat.le_of_ble_eq_true rfl) rfl ⟨_, _, rfl⟩ (by decide) (by decide) rfl rfl (Nat.le_of_ble_eq_true rfl) ?_
    rw [show (8 : Int).toNat = 8 from rfl, e8]
    refine i_isub dX8_chance_42 ?_
    refine r_istore dX8_chance_43 (Nat.le_of_ble_eq_true rfl) ?_
    refine i_const dX8_chance_45 ?_
    refine r_istore dX8_chance_46 (Nat.le_of_ble_eq_true rfl) ?_
    have l := c_chance_l M σ c hw t _ rfl cb.2 (16 - fll M t) 12 0 rfl σ1 hc.2.2 e2
    rw [show (16 - fll M t) * prd (M 6 8) (clM M t).2 0 = 16 - fll M t from Int.mul_one _] at l
    have ec : chn M t = (16 - fll M t) * prd (M 6 8) (clM M t).2 12 := by unfold chn; rw [if_neg q16]
    rw [ec]
    exact l
  · skip
    refine l_const (v := 0) rfl dX8_chance_19 ?_
    refine r_lret rfl dX8_chance_20 ?_
    exact ⟨_, rfl, by unfold chn; rw [if_pos (by omega)], hc.2.2⟩

theorem c_safe_l (σ : rl_S) (t w : Int) (hw2 : w = 0 ∨ w = 1) : ∀ (n : Nat) (k a b : Int) (σ2 : rl_S), 0 ≤ k → k + n = 52 → 0 ≤ a → a ≤ 4503599627370496 → 0 ≤ b → b ≤ 4503599627370496 → ∀ z, z = (if w = 0 then lI (red n a b).1 else lI (red n a b).2) → IK σ σ2 → Rn cW mX8_safe 32 [.ref 0, .int (iI t), .int (iI w), .long (lI a), .float 0, .long (lI b), .float 0, .int (iI k)] [] σ2 (qL (fun y σ' => y = z ∧ IK σ σ')) := by
  intro n
  induction n with
  | zero =>
    intro k a b σ2 k0 hk a0 a1 b0 b1 z hz hf
    refine r_iload dX8_safe_32 rfl ?_
    refine i_bipush dX8_safe_34 (by decide) ?_
    refine i_icmp_ge 69 dX8_safe_36 rfl ⟨by omega, by omega⟩ ⟨by omega, by omega⟩ (fun q36 => ?_) (fun q36 => ?_)
    · skip
      refine r_iload_n dX8_safe_69 rfl ?_
      refine i_if_ne 77 dX8_safe_70 rfl ⟨by omega, by omega⟩ (fun q70 => ?_) (fun q70 => ?_)
      · skip
        refine r_lload dX8_safe_77 rfl ?_
        refine r_lret rfl dX8_safe_79 ?_
        exact ⟨_, rfl, by rw [hz]; simp only [red]; first | (rw [if_pos (by omega)]) | (rw [if_neg (by omega)]), hf⟩
      · skip
        refine r_lload_n dX8_safe_73 rfl ?_
        refine r_goto 79 dX8_safe_74 rfl ?_
        refine r_lret rfl dX8_safe_79 ?_
        exact ⟨_, rfl, by rw [hz]; simp only [red]; first | (rw [if_pos (by omega)]) | (rw [if_neg (by omega)]), hf⟩
    · exfalso
      omega
  | succ n ih =>
    intro k a b σ2 k0 hk a0 a1 b0 b1 z hz hf
    have hc := cmp_bd (a % 2) 0
    have hc2 : cmp (a % 2) 0 = 0 ↔ a % 2 = 0 := by
      unfold cmp
      by_cases h1 : 0 < a % 2
      · rw [if_pos h1]; omega
      · rw [if_neg h1, if_pos (by omega)]; omega
    simp only [red] at hz
    refine r_iload dX8_safe_32 rfl ?_
    refine i_bipush dX8_safe_34 (by decide) ?_
    refine i_icmp_ge 69 dX8_safe_36 rfl ⟨by omega, by omega⟩ ⟨by omega, by omega⟩ (fun q36 => ?_) (fun q36 => ?_)
    · exfalso
      omega
    · skip
      refine r_lload_n dX8_safe_39 rfl ?_
      refine l_ldc2 (v := 2) (by decide) dX8_safe_40 lcX8_194 ?_
      refine l_rem dX8_safe_43 ⟨by omega, by omega⟩ ⟨by omega, by omega⟩ ?_
      refine l_const (v := 0) rfl dX8_safe_44 ?_
      refine l_cmp dX8_safe_45 ⟨by omega, by omega⟩ ⟨by omega, by omega⟩ ?_
      refine i_if_ne 69 dX8_safe_46 rfl ⟨by omega, by omega⟩ (fun q46 => ?_) (fun q46 => ?_)
      · skip
        refine r_iload_n dX8_safe_69 rfl ?_
        refine i_if_ne 77 dX8_safe_70 rfl ⟨by omega, by omega⟩ (fun q70 => ?_) (fun q70 => ?_)
        · skip
          refine r_lload dX8_safe_77 rfl ?_
          refine r_lret rfl dX8_safe_79 ?_
          rw [if_neg (fun y => q46 (hc2.mpr y))] at hz
          exact ⟨_, rfl, by rw [hz]; first | (rw [if_pos (by omega)]) | (rw [if_neg (by omega)]), hf⟩
        · skip
          refine r_lload_n dX8_safe_73 rfl ?_
          refine r_goto 79 dX8_safe_74 rfl ?_
          refine r_lret rfl dX8_safe_79 ?_
          rw [if_neg (fun y => q46 (hc2.mpr y))] at hz
          exact ⟨_, rfl, by rw [hz]; first | (rw [if_pos (by omega)]) | (rw [if_neg (by omega)]), hf⟩
      · skip
        refine r_lload_n dX8_safe_49 rfl ?_
        refine l_ldc2 (v := 2) (by decide) dX8_safe_50 lcX8_194 ?_
        refine l_div dX8_safe_53 ⟨by omega, by omega⟩ ⟨by omega, by omega⟩ ?_
        refine r_lstore_n dX8_safe_54 (Nat.le_of_ble_eq_true rfl) ?_
        refine r_lload dX8_safe_55 rfl ?_
        refine l_ldc2 (v := 2) (by decide) dX8_safe_57 lcX8_194 ?_
        refine l_div dX8_safe_60 ⟨by omega, by omega⟩ ⟨by omega, by omega⟩ ?_
        refine r_lstore dX8_safe_61 (Nat.le_of_ble_eq_true rfl) ?_
        refine i_iinc dX8_safe_63 rfl (Nat.le_of_ble_eq_true rfl) ?_
        refine r_goto 32 dX8_safe_66 rfl ?_
        rw [if_pos (hc2.mp q46)] at hz
        exact ih (k + 1) (a / 2) (b / 2) σ2 (by omega) (by omega) (by omega) (by omega) (by omega) (by omega) z hz hf

set_option maxRecDepth 20000 in
theorem c_safe (M σ : rl_S) (c : IC M σ) (hw : WF M) (t : Int) (ht : -2147483648 ≤ t ∧ t < 2147483648) (w : Int) (hw2 : -2147483648 ≤ w ∧ w < 2147483648) : Ct cW mX8_safe [.ref 0, .int (iI t), .int (iI w)] σ (qL (fun z σ' => z = q_safe M t w ∧ IC M σ')) := by
  refine Ct.of plX8 (Nat.le_of_ble_eq_true rfl) ?_
  have ob1 := ob_bd (decide (0 ≤ t ∧ t ≤ 399))
  have ob3 := ob_bd (decide (w = 0 ∨ w = 1))
  refine r_iload_n dX8_safe_0 rfl ?_
  refine i_csP (c_isTenth σ t ht) lmX8_122 dX8_safe_1 (by decide) (by decide) rfl rfl (Nat.le_of_ble_eq_true rfl) ?_
  refine i_if_eq 14 dX8_safe_4 rfl ⟨by omega, by omega⟩ (fun q4 => ?_) (fun q4 => ?_)
  · have e4 := ob_df q4
    refine l_ldc2 (v := -9223372036854775806) (by decide) dX8_safe_14 lcX8_186 ?_
    refine r_lret rfl dX8_safe_17 ?_
    exact ⟨_, rfl, by unfold q_safe; rw [if_neg (by omega)]; decide, c⟩
  · have e4 := ob_dt q4
    refine r_iload_n dX8_safe_7 rfl ?_
    refine i_csP (c_isEither σ w hw2) lmX8_103 dX8_safe_8 (by decide) (by decide) rfl rfl (Nat.le_of_ble_eq_true rfl) ?_
    refine i_if_ne 18 dX8_safe_11 rfl ⟨by omega, by omega⟩ (fun q11 => ?_) (fun q11 => ?_)
    · have e11 := ob_dt q11
      refine r_aload_n dX8_safe_18 rfl ?_
      refine r_iload_n dX8_safe_19 rfl ?_
      refine i_cvL (c_chance M σ c hw t (by omega) (by omega)) lmX8_188 dX8_safe_20 (Nat.le_of_ble_eq_true rfl) rfl ⟨_, _, rfl⟩ (by decide) (by decide) rfl rfl (Nat.le_of_ble_eq_true rfl) (fun z1 σ1 hc => ?_)
      obtain ⟨rfl, hk⟩ := hc
      refine r_lstore_n dX8_safe_23 (Nat.le_of_ble_eq_true rfl) ?_
      refine l_ldc2 (v := 4503599627370496) (by decide) dX8_safe_24 lcX8_192 ?_
      refine r_lstore dX8_safe_27 (Nat.le_of_ble_eq_true rfl) ?_
      refine i_const dX8_safe_29 ?_
      refine r_istore dX8_safe_30 (Nat.le_of_ble_eq_true rfl) ?_
      have cb := chn_bd hw t
      intro p l e s m args below meth cc D T ad A F H locs larr hP hS hL
      have l0 := c_safe_l σ t w e11 52 0 (chn M t) 4503599627370496 σ1 (by decide) (by decide) cb.1 cb.2 (by decide) (by decide) _ rfl hk
      have eq : q_safe M t w = (if w = 0 then lI (red 52 (chn M t) 4503599627370496).1 else lI (red 52 (chn M t) 4503599627370496).2) := by unfold q_safe; rw [if_pos ⟨e4, e11⟩]
      rw [← eq] at l0
      exact (Rn.mono l0 (fun r σ' ⟨z, h1, h2, h3⟩ => ⟨z, h1, h2, ic_k c (fun k i g _ => h3 k i g)⟩)) p l e s m args below meth cc D T ad A F H locs larr hP hS hL
    · have e11 := ob_df q11
      refine l_ldc2 (v := -9223372036854775806) (by decide) dX8_safe_14 lcX8_186 ?_
      refine r_lret rfl dX8_safe_17 ?_
      exact ⟨_, rfl, by unfold q_safe; rw [if_neg (by omega)]; decide, c⟩

theorem c_best_l (M σ : rl_S) (c : IC M σ) (hw : WF M) (a m e : Int) (he : e ≤ 400) : ∀ (n : Nat) (t b g : Int) (l8 l9 : Value) (σ2 : rl_S), 0 ≤ t → t + n = e → 0 ≤ b → b < 400 → 0 ≤ g → g ≤ 4503599627370496 → IK σ σ2 → ∀ z, z = bst (chn M) n t b g → Rn cW mX8_best 38 [.ref 0, .int (iI a), .int (iI m), .int (iI b), .long (lI g), .float 0, .int (iI e), .int (iI t), l8, l9] [] σ2 (qI (fun y σ' => y = z ∧ IK σ σ')) := by
  intro n
  induction n with
  | zero =>
    intro t b g l8 l9 σ2 t0 ht b0 b1 g0 g1 hf z hz
    refine r_iload dX8_best_38 rfl ?_
    refine r_iload dX8_best_40 rfl ?_
    refine i_icmp_ge 74 dX8_best_42 rfl ⟨by omega, by omega⟩ ⟨by omega, by omega⟩ (fun q42 => ?_) (fun q42 => ?_)
    · skip
      refine r_iload_n dX8_best_74 rfl ?_
      refine r_iret rfl dX8_best_75 ?_
      exact ⟨_, rfl, by rw [hz]; rfl, hf⟩
    · exfalso
      omega
  | succ n ih =>
    intro t b g l8 l9 σ2 t0 ht b0 b1 g0 g1 hf z hz
    have cb := chn_bd hw t
    have hc := cmp_bd (chn M t) g
    have hc2 : cmp (chn M t) g ≤ 0 ↔ ¬ g < chn M t := by
      unfold cmp
      by_cases h1 : g < chn M t
      · rw [if_pos h1]; omega
      · rw [if_neg h1]; split <;> omega
    simp only [bst] at hz
    refine r_iload dX8_best_38 rfl ?_
    refine r_iload dX8_best_40 rfl ?_
    refine i_icmp_ge 74 dX8_best_42 rfl ⟨by omega, by omega⟩ ⟨by omega, by omega⟩ (fun q42 => ?_) (fun q42 => ?_)
    · exfalso
      omega
    · skip
      refine r_aload_n dX8_best_45 rfl ?_
      refine r_iload dX8_best_46 rfl ?_
      refine i_cvL (c_chance M σ2 (ic_k c (fun k i g _ => hf k i g)) hw t (by omega) (by omega)) lmX8_188 dX8_best_48 (Nat.le_of_ble_eq_true rfl) rfl ⟨_, _, rfl⟩ (by decide) (by decide) rfl rfl (Nat.le_of_ble_eq_true rfl) (fun z1 σ1 h1 => ?_)
      obtain ⟨rfl, hk⟩ := h1
      have hf1 : IK σ σ1 := fun k i g => (hk k i g).trans (hf k i g)
      refine r_lstore dX8_best_51 (Nat.le_of_ble_eq_true rfl) ?_
      refine r_lload dX8_best_53 rfl ?_
      refine r_lload dX8_best_55 rfl ?_
      refine l_cmp dX8_best_57 ⟨by omega, by omega⟩ ⟨by omega, by omega⟩ ?_
      refine i_if_le 68 dX8_best_58 rfl ⟨by omega, by omega⟩ (fun q58 => ?_) (fun q58 => ?_)
      · skip
        refine i_iinc dX8_best_68 rfl (Nat.le_of_ble_eq_true rfl) ?_
        refine r_goto 38 dX8_best_71 rfl ?_
        first
          | (rw [if_neg (hc2.mp q58)] at hz; exact ih (t + 1) b g _ _ σ1 (by omega) (by omega) b0 b1 g0 g1 hf1 z hz)
          | (rw [if_pos (by omega)] at hz; exact ih (t + 1) t (chn M t) _ _ σ1 (by omega) (by omega) (by omega) (by omega) cb.1 cb.2 hf1 z hz)
      · skip
        refine r_iload dX8_best_61 rfl ?_
        refine r_istore_n dX8_best_63 (Nat.le_of_ble_eq_true rfl) ?_
        refine r_lload dX8_best_64 rfl ?_
        refine r_lstore dX8_best_66 (Nat.le_of_ble_eq_true rfl) ?_
        refine i_iinc dX8_best_68 rfl (Nat.le_of_ble_eq_true rfl) ?_
        refine r_goto 38 dX8_best_71 rfl ?_
        first
          | (rw [if_neg (hc2.mp q58)] at hz; exact ih (t + 1) b g _ _ σ1 (by omega) (by omega) b0 b1 g0 g1 hf1 z hz)
          | (rw [if_pos (by omega)] at hz; exact ih (t + 1) t (chn M t) _ _ σ1 (by omega) (by omega) (by omega) (by omega) cb.1 cb.2 hf1 z hz)

set_option maxRecDepth 20000 in
theorem c_best (M σ : rl_S) (c : IC M σ) (hw : WF M) (t m : Int) (ht : -2147483648 ≤ t ∧ t < 2147483648) (hm : -2147483648 ≤ m ∧ m < 2147483648) : Ct cW mX8_best [.ref 0, .int (iI t), .int (iI m)] σ (qI (fun z σ' => z = q_best M t m ∧ IK σ σ')) := by
  refine Ct.of plX8 (Nat.le_of_ble_eq_true rfl) ?_
  have ob1 := ob_bd (decide (0 ≤ t ∧ t ≤ 399))
  have ob2 := ob_bd (decide (1 ≤ m ∧ m ≤ 100))
  refine r_iload_n dX8_best_0 rfl ?_
  refine i_csP (c_isTenth σ t ht) lmX8_122 dX8_best_1 (by decide) (by decide) rfl rfl (Nat.le_of_ble_eq_true rfl) ?_
  refine i_if_eq 14 dX8_best_4 rfl ⟨by omega, by omega⟩ (fun q4 => ?_) (fun q4 => ?_)
  · have e4 := ob_df q4
    refine i_bipush dX8_best_14 (by decide) ?_
    refine r_iret rfl dX8_best_16 ?_
    exact ⟨_, rfl, by unfold q_best; rw [if_neg (by omega)], fun _ _ _ => rfl⟩
  · have e4 := ob_dt q4
    refine r_iload_n dX8_best_7 rfl ?_
    refine i_csP (c_isSpan σ m hm) lmX8_160 dX8_best_8 (by decide) (by decide) rfl rfl (Nat.le_of_ble_eq_true rfl) ?_
    refine i_if_ne 17 dX8_best_11 rfl ⟨by omega, by omega⟩ (fun q11 => ?_) (fun q11 => ?_)
    · have e11 := ob_dt q11
      refine r_iload_n dX8_best_17 rfl ?_
      refine r_istore_n dX8_best_18 (Nat.le_of_ble_eq_true rfl) ?_
      refine r_aload_n dX8_best_19 rfl ?_
      refine r_iload_n dX8_best_20 rfl ?_
      refine i_cvL (c_chance M σ c hw t (by omega) (by omega)) lmX8_188 dX8_best_21 (Nat.le_of_ble_eq_true rfl) rfl ⟨_, _, rfl⟩ (by decide) (by decide) rfl rfl (Nat.le_of_ble_eq_true rfl) (fun z1 σ1 hc => ?_)
      obtain ⟨rfl, hk⟩ := hc
      refine r_lstore dX8_best_24 (Nat.le_of_ble_eq_true rfl) ?_
      refine r_iload_n dX8_best_26 rfl ?_
      refine r_iload_n dX8_best_27 rfl ?_
      refine i_csP (c_spanEnd σ1 t m (by omega) (by omega)) lmX8_196 dX8_best_28 (by decide) (by decide) rfl rfl (Nat.le_of_ble_eq_true rfl) ?_
      refine r_istore dX8_best_31 (Nat.le_of_ble_eq_true rfl) ?_
      refine r_iload_n dX8_best_33 rfl ?_
      refine i_const dX8_best_34 ?_
      refine i_iadd dX8_best_35 ?_
      refine r_istore dX8_best_36 (Nat.le_of_ble_eq_true rfl) ?_
      have cb := chn_bd hw t
      exact c_best_l M σ c hw t m (min 400 (t + m)) (by omega) (min 400 (t + m) - t - 1).toNat (t + 1) t (chn M t) _ _ σ1 (by omega) (by omega) (by omega) (by omega) cb.1 cb.2 hk _ (by unfold q_best; rw [if_pos (by omega)]; rfl)
    · have e11 := ob_df q11
      refine i_bipush dX8_best_14 (by decide) ?_
      refine r_iret rfl dX8_best_16 ?_
      exact ⟨_, rfl, by unfold q_best; rw [if_neg (by omega)], fun _ _ _ => rfl⟩

set_option maxRecDepth 20000 in
theorem c_call (M σ : rl_S) (c : IC M σ) (hw : WF M) (t m : Int) (ht : -2147483648 ≤ t ∧ t < 2147483648) (hm : -2147483648 ≤ m ∧ m < 2147483648) : Ct cW mX8_call [.ref 0, .int (iI t), .int (iI m)] σ (qI (fun z σ' => z = q_call M t m ∧ IK σ σ')) := by
  refine Ct.of plX8 (Nat.le_of_ble_eq_true rfl) ?_
  have st := wf_set hw
  have bb := bst_bd (chn M) (min 400 (t + m) - t - 1).toNat (t + 1) t (chn M t) (by omega)
  change t ≤ beM M t m ∧ beM M t m < _ at bb
  have qe : q_best M t m = if (0 ≤ t ∧ t ≤ 399) ∧ (1 ≤ m ∧ m ≤ 100) then beM M t m else -2 := rfl
  have qb : -2 ≤ q_best M t m ∧ q_best M t m < 400 ∧ (q_best M t m < 0 → ¬ ((0 ≤ t ∧ t ≤ 399) ∧ (1 ≤ m ∧ m ≤ 100))) ∧ (¬ q_best M t m < 0 → ((0 ≤ t ∧ t ≤ 399) ∧ (1 ≤ m ∧ m ≤ 100)) ∧ q_best M t m = beM M t m) := by
    rw [qe]; split <;> omega
  refine r_aload_n dX8_call_0 rfl ?_
  refine r_iload_n dX8_call_1 rfl ?_
  refine r_iload_n dX8_call_2 rfl ?_
  refine i_cvI (c_best M σ c hw t m ht hm) lmX8_199 dX8_call_3 (Nat.le_of_ble_eq_true rfl) rfl ⟨_, _, rfl⟩ (by decide) (by decide) rfl rfl (Nat.le_of_ble_eq_true rfl) (fun z1 σ1 hc => ?_)
  obtain ⟨rfl, hk⟩ := hc
  have e11 : σ1 15 11 = M 6 11 := (ic_k c (fun k i g _ => hk k i g)).2.2.2.1 11 (by decide)
  refine r_istore_n dX8_call_6 (Nat.le_of_ble_eq_true rfl) ?_
  refine r_iload_n dX8_call_7 rfl ?_
  refine i_if_ge 13 dX8_call_8 rfl ⟨by omega, by omega⟩ (fun q8 => ?_) (fun q8 => ?_)
  · skip
    refine r_iload_n dX8_call_13 rfl ?_
    refine r_aload_n dX8_call_14 rfl ?_
    refine r_get (k := 0) lfX8_40 dX8_call_15 (Nat.le_of_ble_eq_true rfl) rfl rfl ?_
    refine i_bipush dX8_call_18 (by decide) ?_
    refine i_cvP (c_of σ1 11 (by decide) (by decide)) lmX8_138 dX8_call_20 (Nat.le_of_ble_eq_true rfl) rfl ⟨_, _, rfl⟩ (by decide) (by decide) rfl rfl (Nat.le_of_ble_eq_true rfl) ?_
    rw [show (11 : Int).toNat = 11 from rfl, e11]
    refine i_isub dX8_call_23 ?_
    refine r_istore dX8_call_24 (Nat.le_of_ble_eq_true rfl) ?_
    refine r_iload dX8_call_26 rfl ?_
    refine i_if_ge 35 dX8_call_28 rfl ⟨by omega, by omega⟩ (fun q28 => ?_) (fun q28 => ?_)
    · skip
      refine r_iload dX8_call_35 rfl ?_
      refine r_iret rfl dX8_call_37 ?_
      exact ⟨_, rfl, by unfold q_call; first | (rw [if_neg (qb.2.2.1 (by omega))]; unfold q_best; rw [if_neg (qb.2.2.1 (by omega))]) | (have qq := qb.2.2.2 (by omega); rw [if_pos qq.1]; first | (rw [if_pos (by omega)]) | (rw [if_neg (by omega)]; omega)), hk⟩
    · skip
      refine i_const dX8_call_31 ?_
      refine r_goto 37 dX8_call_32 rfl ?_
      refine r_iret rfl dX8_call_37 ?_
      exact ⟨_, rfl, by unfold q_call; first | (rw [if_neg (qb.2.2.1 (by omega))]; unfold q_best; rw [if_neg (qb.2.2.1 (by omega))]) | (have qq := qb.2.2.2 (by omega); rw [if_pos qq.1]; first | (rw [if_pos (by omega)]) | (rw [if_neg (by omega)]; omega)), hk⟩
  · skip
    refine r_iload_n dX8_call_11 rfl ?_
    refine r_iret rfl dX8_call_12 ?_
    exact ⟨_, rfl, by unfold q_call; first | (rw [if_neg (qb.2.2.1 (by omega))]; unfold q_best; rw [if_neg (qb.2.2.1 (by omega))]) | (have qq := qb.2.2.2 (by omega); rw [if_pos qq.1]; first | (rw [if_pos (by omega)]) | (rw [if_neg (by omega)]; omega)), hk⟩
