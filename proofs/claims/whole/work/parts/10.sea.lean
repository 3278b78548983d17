/-- the heights that the sea keeps -/
def SH (σ : rl_S) (h : Int → Int) : Prop := ∀ z : Int, 0 ≤ z → z < 400 → σ 12 z.toNat = h z
def SR (σ : rl_S) (h : Int → Int) : Prop := ∀ z : Int, 0 ≤ z → z < 400 → σ 11 z.toNat = h z

set_option maxRecDepth 20000 in
theorem c_heightAt (σ : rl_S) (h : Int → Int) (hh : SH σ h) (hb : HB h) (t : Int) (h0 : 0 ≤ t) (h1 : t < 400) : Ct cW mX2_heightAt [.ref 9, .int (iI t)] σ (pR (.int (iI (h t))) σ) := by
  refine Ct.of plX2 (Nat.le_of_ble_eq_true rfl) ?_
  refine r_iload_n dX2_heightAt_0 rfl ?_
  refine i_if_lt 22 dX2_heightAt_1 rfl ⟨by omega, by omega⟩ (fun q1 => ?_) (fun q1 => ?_)
  · exfalso
    omega
  · skip
    refine r_iload_n dX2_heightAt_4 rfl ?_
    refine r_aload_n dX2_heightAt_5 rfl ?_
    refine r_get (k := 9) lfX2_18 dX2_heightAt_6 (Nat.le_of_ble_eq_true rfl) rfl rfl ?_
    refine i_alen (k := 12) dX2_heightAt_9 (Nat.le_of_ble_eq_true rfl) rfl rfl ?_
    refine i_icmp_ge 22 dX2_heightAt_10 rfl ⟨by omega, by omega⟩ ⟨by omega, by omega⟩ (fun q10 => ?_) (fun q10 => ?_)
    · exfalso
      omega
    · skip
      refine r_aload_n dX2_heightAt_13 rfl ?_
      refine r_get (k := 9) lfX2_18 dX2_heightAt_14 (Nat.le_of_ble_eq_true rfl) rfl rfl ?_
      refine r_iload_n dX2_heightAt_17 rfl ?_
      refine i_ald (k := 12) dX2_heightAt_18 (Nat.le_of_ble_eq_true rfl) rfl rfl ⟨by omega, by omega⟩ (by decide) ?_
      refine r_goto 23 dX2_heightAt_19 rfl ?_
      refine r_iret rfl dX2_heightAt_23 ?_
      exact ⟨by rw [hh t h0 h1], rfl⟩

set_option maxRecDepth 20000 in
theorem c_heightWithoutLee (σ : rl_S) (h : Int → Int) (hh : SR σ h) (t : Int) (h0 : 0 ≤ t) (h1 : t < 400) : Ct cW mX2_heightWithoutLee [.ref 9, .int (iI t)] σ (pR (.int (iI (h t))) σ) := by
  refine Ct.of plX2 (Nat.le_of_ble_eq_true rfl) ?_
  refine r_iload_n dX2_heightWithoutLee_0 rfl ?_
  refine i_if_lt 22 dX2_heightWithoutLee_1 rfl ⟨by omega, by omega⟩ (fun q1 => ?_) (fun q1 => ?_)
  · exfalso
    omega
  · skip
    refine r_iload_n dX2_heightWithoutLee_4 rfl ?_
    refine r_aload_n dX2_heightWithoutLee_5 rfl ?_
    refine r_get (k := 9) lfX2_15 dX2_heightWithoutLee_6 (Nat.le_of_ble_eq_true rfl) rfl rfl ?_
    refine i_alen (k := 11) dX2_heightWithoutLee_9 (Nat.le_of_ble_eq_true rfl) rfl rfl ?_
    refine i_icmp_ge 22 dX2_heightWithoutLee_10 rfl ⟨by omega, by omega⟩ ⟨by omega, by omega⟩ (fun q10 => ?_) (fun q10 => ?_)
    · exfalso
      omega
    · skip
      refine r_aload_n dX2_heightWithoutLee_13 rfl ?_
      refine r_get (k := 9) lfX2_15 dX2_heightWithoutLee_14 (Nat.le_of_ble_eq_true rfl) rfl rfl ?_
      refine r_iload_n dX2_heightWithoutLee_17 rfl ?_
      refine i_ald (k := 11) dX2_heightWithoutLee_18 (Nat.le_of_ble_eq_true rfl) rfl rfl ⟨by omega, by omega⟩ (by decide) ?_
      refine r_goto 23 dX2_heightWithoutLee_19 rfl ?_
      refine r_iret rfl dX2_heightWithoutLee_23 ?_
      exact ⟨by rw [hh t h0 h1], rfl⟩

set_option maxRecDepth 20000 in
theorem c_beginOf (σ : rl_S) (f : Int → Int) (hs : S6 10 σ f) (t : Int) (h0 : 0 ≤ t) (h1 : t < 6) : Ct cW mX2_beginOf [.ref 9, .int (iI t)] σ (pR (.int (iI (f t))) σ) := by
  refine Ct.of plX2 (Nat.le_of_ble_eq_true rfl) ?_
  refine r_iload_n dX2_beginOf_0 rfl ?_
  refine i_if_lt 22 dX2_beginOf_1 rfl ⟨by omega, by omega⟩ (fun q1 => ?_) (fun q1 => ?_)
  · exfalso
    omega
  · skip
    refine r_iload_n dX2_beginOf_4 rfl ?_
    refine r_aload_n dX2_beginOf_5 rfl ?_
    refine r_get (k := 9) lfX2_9 dX2_beginOf_6 (Nat.le_of_ble_eq_true rfl) rfl rfl ?_
    refine i_alen (k := 10) dX2_beginOf_9 (Nat.le_of_ble_eq_true rfl) rfl rfl ?_
    refine i_icmp_ge 22 dX2_beginOf_10 rfl ⟨by omega, by omega⟩ ⟨by omega, by omega⟩ (fun q10 => ?_) (fun q10 => ?_)
    · exfalso
      omega
    · skip
      refine r_aload_n dX2_beginOf_13 rfl ?_
      refine r_get (k := 9) lfX2_9 dX2_beginOf_14 (Nat.le_of_ble_eq_true rfl) rfl rfl ?_
      refine r_iload_n dX2_beginOf_17 rfl ?_
      refine i_ald (k := 10) dX2_beginOf_18 (Nat.le_of_ble_eq_true rfl) rfl rfl ⟨by omega, by omega⟩ (by decide) ?_
      refine r_goto 23 dX2_beginOf_19 rfl ?_
      refine r_iret rfl dX2_beginOf_23 ?_
      exact ⟨by rw [hs t h0 h1], rfl⟩

set_option maxRecDepth 20000 in
theorem c_moveAt (σ : rl_S) (h : Int → Int) (hh : SH σ h) (hb : HB h) (t : Int) (h0 : 0 ≤ t) (h1 : t < 400) : Ct cW mX2_moveAt [.ref 9, .int (iI t)] σ (pR (.int (iI (mv h t))) σ) := by
  refine Ct.of plX2 (Nat.le_of_ble_eq_true rfl) ?_
  refine r_iload_n dX2_moveAt_0 rfl ?_
  refine i_if_le 15 dX2_moveAt_1 rfl ⟨by omega, by omega⟩ (fun q1 => ?_) (fun q1 => ?_)
  · skip
    refine i_const dX2_moveAt_15 ?_
    refine r_iret rfl dX2_moveAt_16 ?_
    refine ⟨?_, rfl⟩
    congr 2
    simp only [mv]
    (repeat (first | rfl | (rw [if_pos (by omega)]) | (rw [if_neg (by omega)])))
  · skip
    refine r_iload_n dX2_moveAt_4 rfl ?_
    refine r_aload_n dX2_moveAt_5 rfl ?_
    refine r_get (k := 9) lfX2_18 dX2_moveAt_6 (Nat.le_of_ble_eq_true rfl) rfl rfl ?_
    refine i_alen (k := 12) dX2_moveAt_9 (Nat.le_of_ble_eq_true rfl) rfl rfl ?_
    refine i_const dX2_moveAt_10 ?_
    refine i_isub dX2_moveAt_11 ?_
    refine i_icmp_lt 17 dX2_moveAt_12 rfl ⟨by omega, by omega⟩ ⟨by omega, by omega⟩ (fun q12 => ?_) (fun q12 => ?_)
    · skip
      have b1 := hb t (by omega) (by omega)
      have b2 := hb (t + 1) (by omega) (by omega)
      have b3 := hb (t - 1) (by omega) (by omega)
      refine r_aload_n dX2_moveAt_17 rfl ?_
      refine r_get (k := 9) lfX2_18 dX2_moveAt_18 (Nat.le_of_ble_eq_true rfl) rfl rfl ?_
      refine r_iload_n dX2_moveAt_21 rfl ?_
      refine i_ald (k := 12) dX2_moveAt_22 (Nat.le_of_ble_eq_true rfl) rfl rfl ⟨by omega, by omega⟩ (by decide) ?_
      rw [hh t (by omega) (by omega)]
      refine r_istore_n dX2_moveAt_23 (Nat.le_of_ble_eq_true rfl) ?_
      refine r_aload_n dX2_moveAt_24 rfl ?_
      refine r_get (k := 9) lfX2_18 dX2_moveAt_25 (Nat.le_of_ble_eq_true rfl) rfl rfl ?_
      refine r_iload_n dX2_moveAt_28 rfl ?_
      refine i_const dX2_moveAt_29 ?_
      refine i_iadd dX2_moveAt_30 ?_
      refine i_ald (k := 12) dX2_moveAt_31 (Nat.le_of_ble_eq_true rfl) rfl rfl ⟨by omega, by omega⟩ (by decide) ?_
      rw [hh (t + 1) (by omega) (by omega)]
      refine r_istore_n dX2_moveAt_32 (Nat.le_of_ble_eq_true rfl) ?_
      refine r_iload_n dX2_moveAt_33 rfl ?_
      refine r_iload_n dX2_moveAt_34 rfl ?_
      refine i_icmp_ge 56 dX2_moveAt_35 rfl ⟨by omega, by omega⟩ ⟨by omega, by omega⟩ (fun q35 => ?_) (fun q35 => ?_)
      · skip
        refine r_iload_n dX2_moveAt_56 rfl ?_
        refine r_iload_n dX2_moveAt_57 rfl ?_
        refine i_icmp_le 65 dX2_moveAt_58 rfl ⟨by omega, by omega⟩ ⟨by omega, by omega⟩ (fun q58 => ?_) (fun q58 => ?_)
        · skip
          refine i_const dX2_moveAt_65 ?_
          refine r_iret rfl dX2_moveAt_66 ?_
          refine ⟨?_, rfl⟩
          congr 2
          simp only [mv]
          (repeat (first | rfl | (rw [if_pos (by omega)]) | (rw [if_neg (by omega)])))
        · skip
          refine i_const dX2_moveAt_61 ?_
          refine r_goto 66 dX2_moveAt_62 rfl ?_
          refine r_iret rfl dX2_moveAt_66 ?_
          refine ⟨?_, rfl⟩
          congr 2
          simp only [mv]
          (repeat (first | rfl | (rw [if_pos (by omega)]) | (rw [if_neg (by omega)])))
      · skip
        refine r_aload_n dX2_moveAt_38 rfl ?_
        refine r_get (k := 9) lfX2_18 dX2_moveAt_39 (Nat.le_of_ble_eq_true rfl) rfl rfl ?_
        refine r_iload_n dX2_moveAt_42 rfl ?_
        refine i_const dX2_moveAt_43 ?_
        refine i_isub dX2_moveAt_44 ?_
        refine i_ald (k := 12) dX2_moveAt_45 (Nat.le_of_ble_eq_true rfl) rfl rfl ⟨by omega, by omega⟩ (by decide) ?_
        rw [hh (t - 1) (by omega) (by omega)]
        refine r_iload_n dX2_moveAt_46 rfl ?_
        refine i_icmp_gt 54 dX2_moveAt_47 rfl ⟨by omega, by omega⟩ ⟨by omega, by omega⟩ (fun q47 => ?_) (fun q47 => ?_)
        · skip
          refine i_const dX2_moveAt_54 ?_
          refine r_iret rfl dX2_moveAt_55 ?_
          refine ⟨?_, rfl⟩
          congr 2
          simp only [mv]
          (repeat (first | rfl | (rw [if_pos (by omega)]) | (rw [if_neg (by omega)])))
        · skip
          refine i_const dX2_moveAt_50 ?_
          refine r_goto 55 dX2_moveAt_51 rfl ?_
          refine r_iret rfl dX2_moveAt_55 ?_
          refine ⟨?_, rfl⟩
          congr 2
          simp only [mv]
          (repeat (first | rfl | (rw [if_pos (by omega)]) | (rw [if_neg (by omega)])))
    · skip
      refine i_const dX2_moveAt_15 ?_
      refine r_iret rfl dX2_moveAt_16 ?_
      refine ⟨?_, rfl⟩
      congr 2
      simp only [mv]
      (repeat (first | rfl | (rw [if_pos (by omega)]) | (rw [if_neg (by omega)])))

set_option maxRecDepth 20000 in
theorem c_crestFrom_l (σ : rl_S) (h : Int → Int) (hh : SH σ h) (hb : HB h) (a k0 : Int) (hk : 1 ≤ k0 ∧ k0 ≤ 1000) : ∀ (n : Nat) (t p : Int), 0 ≤ t → t + n = 400 → 0 ≤ p → p < k0 → ∀ z, z = cr h n t (k0 - p) → Rn cW mX2_crestFrom 5 [.ref 9, .int (iI a), .int (iI k0), .int (iI p), .int (iI t)] [] σ (pR (.int (iI z)) σ) := by
  intro n
  induction n with
  | zero =>
    intro t p h0 ht hp hp2 z hz
    refine r_iload dX2_crestFrom_5 rfl ?_
    refine r_aload_n dX2_crestFrom_7 rfl ?_
    refine r_get (k := 9) lfX2_18 dX2_crestFrom_8 (Nat.le_of_ble_eq_true rfl) rfl rfl ?_
    refine i_alen (k := 12) dX2_crestFrom_11 (Nat.le_of_ble_eq_true rfl) rfl rfl ?_
    refine i_icmp_ge 42 dX2_crestFrom_12 rfl ⟨by omega, by omega⟩ ⟨by omega, by omega⟩ (fun q12 => ?_) (fun q12 => ?_)
    · skip
      refine i_const dX2_crestFrom_42 ?_
      refine r_iret rfl dX2_crestFrom_43 ?_
      exact ⟨by rw [hz]; rfl, rfl⟩
    · exfalso
      omega
  | succ n ih =>
    intro t p h0 ht hp hp2 z hz
    have hm := mv_bd h t
    refine r_iload dX2_crestFrom_5 rfl ?_
    refine r_aload_n dX2_crestFrom_7 rfl ?_
    refine r_get (k := 9) lfX2_18 dX2_crestFrom_8 (Nat.le_of_ble_eq_true rfl) rfl rfl ?_
    refine i_alen (k := 12) dX2_crestFrom_11 (Nat.le_of_ble_eq_true rfl) rfl rfl ?_
    refine i_icmp_ge 42 dX2_crestFrom_12 rfl ⟨by omega, by omega⟩ ⟨by omega, by omega⟩ (fun q12 => ?_) (fun q12 => ?_)
    · exfalso
      omega
    · skip
      refine r_aload_n dX2_crestFrom_15 rfl ?_
      refine r_iload dX2_crestFrom_16 rfl ?_
      refine i_cvP (c_moveAt σ h hh hb t (by omega) (by omega)) lmX2_66 dX2_crestFrom_18 (Nat.le_of_ble_eq_true rfl) rfl ⟨_, _, rfl⟩ (by decide) (by decide) rfl rfl (Nat.le_of_ble_eq_true rfl) ?_
      refine i_const dX2_crestFrom_21 ?_
      refine i_icmp_ne 36 dX2_crestFrom_22 rfl ⟨by omega, by omega⟩ ⟨by omega, by omega⟩ (fun q22 => ?_) (fun q22 => ?_)
      · skip
        refine i_iinc dX2_crestFrom_36 rfl (Nat.le_of_ble_eq_true rfl) ?_
        refine r_goto 5 dX2_crestFrom_39 rfl ?_
        exact ih _ _ (by omega) (by omega) (by omega) (by omega) z (by rw [hz]; simp only [cr]; (repeat (first | rfl | (rw [if_pos (by omega)]) | (rw [if_neg (by omega)]))); all_goals (first | rfl | (congr 1; omega)))
      · skip
        refine i_iinc dX2_crestFrom_25 rfl (Nat.le_of_ble_eq_true rfl) ?_
        refine r_iload_n dX2_crestFrom_28 rfl ?_
        refine r_iload_n dX2_crestFrom_29 rfl ?_
        refine i_icmp_ne 36 dX2_crestFrom_30 rfl ⟨by omega, by omega⟩ ⟨by omega, by omega⟩ (fun q30 => ?_) (fun q30 => ?_)
        · skip
          refine i_iinc dX2_crestFrom_36 rfl (Nat.le_of_ble_eq_true rfl) ?_
          refine r_goto 5 dX2_crestFrom_39 rfl ?_
          exact ih _ _ (by omega) (by omega) (by omega) (by omega) z (by rw [hz]; simp only [cr]; (repeat (first | rfl | (rw [if_pos (by omega)]) | (rw [if_neg (by omega)]))); all_goals (first | rfl | (congr 1; omega)))
        · skip
          refine r_iload dX2_crestFrom_33 rfl ?_
          refine r_iret rfl dX2_crestFrom_35 ?_
          exact ⟨by rw [hz]; simp only [cr]; (repeat (first | rfl | (rw [if_pos (by omega)]) | (rw [if_neg (by omega)]))), rfl⟩

set_option maxRecDepth 20000 in
theorem c_crestFrom (σ : rl_S) (h : Int → Int) (hh : SH σ h) (hb : HB h) (t k : Int) (h0 : 0 ≤ t) (h1 : t ≤ 400) (hk : 1 ≤ k ∧ k ≤ 1000) : Ct cW mX2_crestFrom [.ref 9, .int (iI t), .int (iI k)] σ (pR (.int (iI (cF h t k))) σ) := by
  refine Ct.of plX2 (Nat.le_of_ble_eq_true rfl) ?_
  refine i_const dX2_crestFrom_0 ?_
  refine r_istore_n dX2_crestFrom_1 (Nat.le_of_ble_eq_true rfl) ?_
  refine r_iload_n dX2_crestFrom_2 rfl ?_
  refine r_istore dX2_crestFrom_3 (Nat.le_of_ble_eq_true rfl) ?_
  exact c_crestFrom_l σ h hh hb t k hk (400 - t).toNat t 0 h0 (by omega) (by omega) (by omega) _ (by rw [Int.sub_zero]; rfl)

theorem c_highest_l (σ : rl_S) (h : Int → Int) (hh : SH σ h) (hb : HB h) (a : Int) : ∀ (m : Nat) (k t p g : Int), k + m = 8 → 1 ≤ k → (t = -1 ∨ (0 ≤ t ∧ t < 400)) → -1 ≤ p → p ≤ 8 → -1 ≤ g → g ≤ 3000 → (p = -1 → g = -1) → (p ≠ -1 → 0 ≤ g) → ∀ z, z = sv h m k t p g → Rn cW mX2_highestCrestFrom 15 [.ref 9, .int (iI a), .int (iI p), .int (iI g), .int (iI t), .int (iI k)] [] σ (pR (.int (iI z)) σ) := by
  intro m
  induction m with
  | zero =>
    intro k t p g hk hk1 ht hp0 hp1 hg0 hg1 hpg hpg2 z hz
    refine r_iload dX2_highestCrestFrom_15 rfl ?_
    refine i_bipush dX2_highestCrestFrom_17 (by decide) ?_
    refine i_icmp_gt 65 dX2_highestCrestFrom_19 rfl ⟨by omega, by omega⟩ ⟨by omega, by omega⟩ (fun q19 => ?_) (fun q19 => ?_)
    · skip
      refine r_iload_n dX2_highestCrestFrom_65 rfl ?_
      refine r_iret rfl dX2_highestCrestFrom_66 ?_
      exact ⟨by rw [hz]; rfl, rfl⟩
    · exfalso
      omega
  | succ m ih =>
    intro k t p g hk hk1 ht hp0 hp1 hg0 hg1 hpg hpg2 z hz
    simp only [sv] at hz
    refine r_iload dX2_highestCrestFrom_15 rfl ?_
    refine i_bipush dX2_highestCrestFrom_17 (by decide) ?_
    refine i_icmp_gt 65 dX2_highestCrestFrom_19 rfl ⟨by omega, by omega⟩ ⟨by omega, by omega⟩ (fun q19 => ?_) (fun q19 => ?_)
    · exfalso
      omega
    · skip
      refine r_iload dX2_highestCrestFrom_22 rfl ?_
      refine i_const dX2_highestCrestFrom_24 ?_
      refine i_icmp_eq 65 dX2_highestCrestFrom_25 rfl ⟨by omega, by omega⟩ ⟨by omega, by omega⟩ (fun q25 => ?_) (fun q25 => ?_)
      · skip
        refine r_iload_n dX2_highestCrestFrom_65 rfl ?_
        refine r_iret rfl dX2_highestCrestFrom_66 ?_
        exact ⟨by rw [hz, if_pos (by omega)], rfl⟩
      · skip
        have b1 := hb t (by omega) (by omega)
        have b2 := cF_bd h (t := t + 1) 1 (by omega) (by omega)
        rw [if_neg (by omega)] at hz
        refine r_aload_n dX2_highestCrestFrom_28 rfl ?_
        refine r_iload dX2_highestCrestFrom_29 rfl ?_
        refine i_cvP (c_heightAt σ h hh hb t (by omega) (by omega)) lmX2_72 dX2_highestCrestFrom_31 (Nat.le_of_ble_eq_true rfl) rfl ⟨_, _, rfl⟩ (by decide) (by decide) rfl rfl (Nat.le_of_ble_eq_true rfl) ?_
        refine r_iload_n dX2_highestCrestFrom_34 rfl ?_
        refine i_icmp_le 48 dX2_highestCrestFrom_35 rfl ⟨by omega, by omega⟩ ⟨by omega, by omega⟩ (fun q35 => ?_) (fun q35 => ?_)
        · skip
          refine r_aload_n dX2_highestCrestFrom_48 rfl ?_
          refine r_iload dX2_highestCrestFrom_49 rfl ?_
          refine i_const dX2_highestCrestFrom_51 ?_
          refine i_iadd dX2_highestCrestFrom_52 ?_
          refine i_const dX2_highestCrestFrom_53 ?_
          refine i_cvP (c_crestFrom σ h hh hb (t + 1) 1 (by omega) (by omega) (by omega)) lmX2_69 dX2_highestCrestFrom_54 (Nat.le_of_ble_eq_true rfl) rfl ⟨_, _, rfl⟩ (by decide) (by decide) rfl rfl (Nat.le_of_ble_eq_true rfl) ?_
          refine r_istore dX2_highestCrestFrom_57 (Nat.le_of_ble_eq_true rfl) ?_
          refine i_iinc dX2_highestCrestFrom_59 rfl (Nat.le_of_ble_eq_true rfl) ?_
          refine r_goto 15 dX2_highestCrestFrom_62 rfl ?_
          first
            | (rw [if_pos (by omega)] at hz; exact ih _ _ _ _ (by omega) (by omega) (by omega) (by omega) (by omega) (by omega) (by omega) (by omega) (by omega) z hz)
            | (rw [if_neg (by omega)] at hz; exact ih _ _ _ _ (by omega) (by omega) (by omega) (by omega) (by omega) (by omega) (by omega) (by omega) (by omega) z hz)
        · skip
          refine r_iload dX2_highestCrestFrom_38 rfl ?_
          refine r_istore_n dX2_highestCrestFrom_40 (Nat.le_of_ble_eq_true rfl) ?_
          refine r_aload_n dX2_highestCrestFrom_41 rfl ?_
          refine r_iload dX2_highestCrestFrom_42 rfl ?_
          refine i_cvP (c_heightAt σ h hh hb t (by omega) (by omega)) lmX2_72 dX2_highestCrestFrom_44 (Nat.le_of_ble_eq_true rfl) rfl ⟨_, _, rfl⟩ (by decide) (by decide) rfl rfl (Nat.le_of_ble_eq_true rfl) ?_
          refine r_istore_n dX2_highestCrestFrom_47 (Nat.le_of_ble_eq_true rfl) ?_
          refine r_aload_n dX2_highestCrestFrom_48 rfl ?_
          refine r_iload dX2_highestCrestFrom_49 rfl ?_
          refine i_const dX2_highestCrestFrom_51 ?_
          refine i_iadd dX2_highestCrestFrom_52 ?_
          refine i_const dX2_highestCrestFrom_53 ?_
          refine i_cvP (c_crestFrom σ h hh hb (t + 1) 1 (by omega) (by omega) (by omega)) lmX2_69 dX2_highestCrestFrom_54 (Nat.le_of_ble_eq_true rfl) rfl ⟨_, _, rfl⟩ (by decide) (by decide) rfl rfl (Nat.le_of_ble_eq_true rfl) ?_
          refine r_istore dX2_highestCrestFrom_57 (Nat.le_of_ble_eq_true rfl) ?_
          refine i_iinc dX2_highestCrestFrom_59 rfl (Nat.le_of_ble_eq_true rfl) ?_
          refine r_goto 15 dX2_highestCrestFrom_62 rfl ?_
          first
            | (rw [if_pos (by omega)] at hz; exact ih _ _ _ _ (by omega) (by omega) (by omega) (by omega) (by omega) (by omega) (by omega) (by omega) (by omega) z hz)
            | (rw [if_neg (by omega)] at hz; exact ih _ _ _ _ (by omega) (by omega) (by omega) (by omega) (by omega) (by omega) (by omega) (by omega) (by omega) z hz)

set_option maxRecDepth 20000 in
theorem c_highest (σ : rl_S) (h : Int → Int) (hh : SH σ h) (hb : HB h) (t : Int) (h0 : 0 ≤ t) (h1 : t < 400) : Ct cW mX2_highestCrestFrom [.ref 9, .int (iI t)] σ (pR (.int (iI (sv h 7 1 (cF h t 1) (-1) (-1)))) σ) := by
  refine Ct.of plX2 (Nat.le_of_ble_eq_true rfl) ?_
  have b2 := cF_bd h (t := t) 1 (by omega) (by omega)
  refine i_const dX2_highestCrestFrom_0 ?_
  refine r_istore_n dX2_highestCrestFrom_1 (Nat.le_of_ble_eq_true rfl) ?_
  refine i_const dX2_highestCrestFrom_2 ?_
  refine r_istore_n dX2_highestCrestFrom_3 (Nat.le_of_ble_eq_true rfl) ?_
  refine r_aload_n dX2_highestCrestFrom_4 rfl ?_
  refine r_iload_n dX2_highestCrestFrom_5 rfl ?_
  refine i_const dX2_highestCrestFrom_6 ?_
  refine i_cvP (c_crestFrom σ h hh hb t 1 (by omega) (by omega) (by omega)) lmX2_69 dX2_highestCrestFrom_7 (Nat.le_of_ble_eq_true rfl) rfl ⟨_, _, rfl⟩ (by decide) (by decide) rfl rfl (Nat.le_of_ble_eq_true rfl) ?_
  refine r_istore dX2_highestCrestFrom_10 (Nat.le_of_ble_eq_true rfl) ?_
  refine i_const dX2_highestCrestFrom_12 ?_
  refine r_istore dX2_highestCrestFrom_13 (Nat.le_of_ble_eq_true rfl) ?_
  exact c_highest_l σ h hh hb t 7 1 _ _ _ (by omega) (by omega) (by omega) (by omega) (by omega) (by omega) (by omega) (by omega) (by omega) _ rfl

theorem c_crests_l (σ : rl_S) (h : Int → Int) (hh : SH σ h) (hb : HB h) : ∀ (n : Nat) (t c : Int), 0 ≤ t → t + n = 400 → ∀ z, z = c + cnt h n t → Rn cW mX2_crestsInAll 4 [.ref 9, .int (iI c), .int (iI t)] [] σ (pR (.int (iI z)) σ) := by
  intro n
  induction n with
  | zero =>
    intro t c h0 ht z hz
    refine r_iload_n dX2_crestsInAll_4 rfl ?_
    refine r_aload_n dX2_crestsInAll_5 rfl ?_
    refine r_get (k := 9) lfX2_18 dX2_crestsInAll_6 (Nat.le_of_ble_eq_true rfl) rfl rfl ?_
    refine i_alen (k := 12) dX2_crestsInAll_9 (Nat.le_of_ble_eq_true rfl) rfl rfl ?_
    refine i_icmp_ge 31 dX2_crestsInAll_10 rfl ⟨by omega, by omega⟩ ⟨by omega, by omega⟩ (fun q10 => ?_) (fun q10 => ?_)
    · skip
      refine r_iload_n dX2_crestsInAll_31 rfl ?_
      refine r_iret rfl dX2_crestsInAll_32 ?_
      exact ⟨by rw [hz]; simp [cnt], rfl⟩
    · exfalso
      omega
  | succ n ih =>
    intro t c h0 ht z hz
    have hm := mv_bd h t
    simp only [cnt] at hz
    refine r_iload_n dX2_crestsInAll_4 rfl ?_
    refine r_aload_n dX2_crestsInAll_5 rfl ?_
    refine r_get (k := 9) lfX2_18 dX2_crestsInAll_6 (Nat.le_of_ble_eq_true rfl) rfl rfl ?_
    refine i_alen (k := 12) dX2_crestsInAll_9 (Nat.le_of_ble_eq_true rfl) rfl rfl ?_
    refine i_icmp_ge 31 dX2_crestsInAll_10 rfl ⟨by omega, by omega⟩ ⟨by omega, by omega⟩ (fun q10 => ?_) (fun q10 => ?_)
    · exfalso
      omega
    · skip
      refine r_aload_n dX2_crestsInAll_13 rfl ?_
      refine r_iload_n dX2_crestsInAll_14 rfl ?_
      refine i_cvP (c_moveAt σ h hh hb t (by omega) (by omega)) lmX2_66 dX2_crestsInAll_15 (Nat.le_of_ble_eq_true rfl) rfl ⟨_, _, rfl⟩ (by decide) (by decide) rfl rfl (Nat.le_of_ble_eq_true rfl) ?_
      refine i_const dX2_crestsInAll_18 ?_
      refine i_icmp_ne 25 dX2_crestsInAll_19 rfl ⟨by omega, by omega⟩ ⟨by omega, by omega⟩ (fun q19 => ?_) (fun q19 => ?_)
      · skip
        refine i_iinc dX2_crestsInAll_25 rfl (Nat.le_of_ble_eq_true rfl) ?_
        refine r_goto 4 dX2_crestsInAll_28 rfl ?_
        exact ih _ _ (by omega) (by omega) z (by rw [hz]; first | (rw [if_pos (by omega)]; omega) | (rw [if_neg (by omega)]; omega))
      · skip
        refine i_iinc dX2_crestsInAll_22 rfl (Nat.le_of_ble_eq_true rfl) ?_
        refine i_iinc dX2_crestsInAll_25 rfl (Nat.le_of_ble_eq_true rfl) ?_
        refine r_goto 4 dX2_crestsInAll_28 rfl ?_
        exact ih _ _ (by omega) (by omega) z (by rw [hz]; first | (rw [if_pos (by omega)]; omega) | (rw [if_neg (by omega)]; omega))

set_option maxRecDepth 20000 in
theorem c_crests (σ : rl_S) (h : Int → Int) (hh : SH σ h) (hb : HB h)  : Ct cW mX2_crestsInAll [.ref 9] σ (pR (.int (iI (cnt h 400 0))) σ) := by
  refine Ct.of plX2 (Nat.le_of_ble_eq_true rfl) ?_
  refine i_const dX2_crestsInAll_0 ?_
  refine r_istore_n dX2_crestsInAll_1 (Nat.le_of_ble_eq_true rfl) ?_
  refine i_const dX2_crestsInAll_2 ?_
  refine r_istore_n dX2_crestsInAll_3 (Nat.le_of_ble_eq_true rfl) ?_
  exact c_crests_l σ h hh hb 400 0 0 (by omega) (by omega) _ (by omega)

def spP (σ : rl_S) (S e : Int) : Int → rl_S → Prop := fun z σ' => 0 ≤ z ∧ z ≤ 3000 ∧ z ≤ S ∧ (z = S ∨ e ≤ z) ∧ σ' = σ
theorem c_spread_l (σ : rl_S) (h : Int → Int) (hh : SH σ h) (hb : HB h) (a m e : Int) (h0 : 0 ≤ a) (hm : 1 ≤ m) (hm2 : a + m ≤ 400) (he : 0 ≤ e ∧ e < 2147483648) : ∀ (n : Nat) (j : Nat) (i : Int) (lx : Value), i = j + 1 → i + n = m → Rn cW mX2_spread 14 [.ref 9, .int (iI a), .int (iI m), .int (iI e), .int (iI (lo h j a)), .int (iI (hg h j a)), .int (iI i), lx] [] σ (qI (spP σ (spr h (m - 1).toNat a) e)) := by
  intro n
  induction n with
  | zero =>
    intro j i lx hi hn
    have b1 := lo_bd hb j a h0 (by omega)
    have b2 := hg_bd hb j a h0 (by omega)
    have b3 := lo_hg h j a
    have b4 : spr h (m - 1).toNat a = hg h j a - lo h j a := by rw [show (m - 1).toNat = j by omega]; rfl
    refine r_iload dX2_spread_14 rfl ?_
    refine r_iload_n dX2_spread_16 rfl ?_
    refine i_icmp_ge 63 dX2_spread_17 rfl ⟨by omega, by omega⟩ ⟨by omega, by omega⟩ (fun q17 => ?_) (fun q17 => ?_)
    · skip
      refine r_iload dX2_spread_63 rfl ?_
      refine r_iload dX2_spread_65 rfl ?_
      refine i_isub dX2_spread_67 ?_
      refine r_iret rfl dX2_spread_68 ?_
      exact ⟨_, rfl, by omega, by omega, by omega, Or.inl (by omega), rfl⟩
    · exfalso
      omega
  | succ n ih =>
    intro j i lx hi hn
    have b1 := lo_bd hb j a h0 (by omega)
    have b2 := hg_bd hb j a h0 (by omega)
    have b3 := lo_hg h j a
    have b4 := spr_mono h a j ((m - 1).toNat - j)
    rw [show j + ((m - 1).toNat - j) = (m - 1).toNat by omega] at b4
    have b5 : spr h j a = hg h j a - lo h j a := rfl
    have b6 := hb (a + i) (by omega) (by omega)
    have e1 : lo h (j + 1) a = min (lo h j a) (h (a + i)) := by rw [hi]; rfl
    have e2 : hg h (j + 1) a = max (hg h j a) (h (a + i)) := by rw [hi]; rfl
    refine r_iload dX2_spread_14 rfl ?_
    refine r_iload_n dX2_spread_16 rfl ?_
    refine i_icmp_ge 63 dX2_spread_17 rfl ⟨by omega, by omega⟩ ⟨by omega, by omega⟩ (fun q17 => ?_) (fun q17 => ?_)
    · exfalso
      omega
    · skip
      refine r_iload dX2_spread_20 rfl ?_
      refine r_iload dX2_spread_22 rfl ?_
      refine i_isub dX2_spread_24 ?_
      refine r_iload_n dX2_spread_25 rfl ?_
      refine i_icmp_ge 63 dX2_spread_26 rfl ⟨by omega, by omega⟩ ⟨by omega, by omega⟩ (fun q26 => ?_) (fun q26 => ?_)
      · skip
        refine r_iload dX2_spread_63 rfl ?_
        refine r_iload dX2_spread_65 rfl ?_
        refine i_isub dX2_spread_67 ?_
        refine r_iret rfl dX2_spread_68 ?_
        exact ⟨_, rfl, by omega, by omega, by omega, Or.inr (by omega), rfl⟩
      · skip
        refine r_aload_n dX2_spread_29 rfl ?_
        refine r_iload_n dX2_spread_30 rfl ?_
        refine r_iload dX2_spread_31 rfl ?_
        refine i_iadd dX2_spread_33 ?_
        refine i_cvP (c_heightAt σ h hh hb (a + i) (by omega) (by omega)) lmX2_72 dX2_spread_34 (Nat.le_of_ble_eq_true rfl) rfl ⟨_, _, rfl⟩ (by decide) (by decide) rfl rfl (Nat.le_of_ble_eq_true rfl) ?_
        refine r_istore dX2_spread_37 (Nat.le_of_ble_eq_true rfl) ?_
        refine r_iload dX2_spread_39 rfl ?_
        refine r_iload dX2_spread_41 rfl ?_
        refine i_mmin lmX2_58 dX2_spread_43 (by decide) (Nat.le_of_ble_eq_true rfl) ⟨by omega, by omega⟩ ⟨by omega, by omega⟩ ?_
        refine r_istore dX2_spread_46 (Nat.le_of_ble_eq_true rfl) ?_
        refine r_iload dX2_spread_48 rfl ?_
        refine r_iload dX2_spread_50 rfl ?_
        refine i_mmax lmX2_79 dX2_spread_52 (by decide) (Nat.le_of_ble_eq_true rfl) ⟨by omega, by omega⟩ ⟨by omega, by omega⟩ ?_
        refine r_istore dX2_spread_55 (Nat.le_of_ble_eq_true rfl) ?_
        refine i_iinc dX2_spread_57 rfl (Nat.le_of_ble_eq_true rfl) ?_
        refine r_goto 14 dX2_spread_60 rfl ?_
        rw [← e1, ← e2]
        exact ih (j + 1) (i + 1) _ (by omega) (by omega)

set_option maxRecDepth 20000 in
theorem c_spread (σ : rl_S) (h : Int → Int) (hh : SH σ h) (hb : HB h) (a m e : Int) (h0 : 0 ≤ a) (hm : 1 ≤ m) (hm2 : a + m ≤ 400) (he : 0 ≤ e ∧ e < 2147483648) : Ct cW mX2_spread [.ref 9, .int (iI a), .int (iI m), .int (iI e)] σ (qI (spP σ (spr h (m - 1).toNat a) e)) := by
  refine Ct.of plX2 (Nat.le_of_ble_eq_true rfl) ?_
  refine r_aload_n dX2_spread_0 rfl ?_
  refine r_iload_n dX2_spread_1 rfl ?_
  refine i_cvP (c_heightAt σ h hh hb a (by omega) (by omega)) lmX2_72 dX2_spread_2 (Nat.le_of_ble_eq_true rfl) rfl ⟨_, _, rfl⟩ (by decide) (by decide) rfl rfl (Nat.le_of_ble_eq_true rfl) ?_
  refine r_istore dX2_spread_5 (Nat.le_of_ble_eq_true rfl) ?_
  refine r_iload dX2_spread_7 rfl ?_
  refine r_istore dX2_spread_9 (Nat.le_of_ble_eq_true rfl) ?_
  refine i_const dX2_spread_11 ?_
  refine r_istore dX2_spread_12 (Nat.le_of_ble_eq_true rfl) ?_
  exact c_spread_l σ h hh hb a m e h0 hm hm2 he (m - 1).toNat 0 1 _ rfl (by omega)

theorem c_lull_l (σ : rl_S) (h : Int → Int) (hh : SH σ h) (hb : HB h) (a m : Int) (hm : 1 ≤ m ∧ m ≤ 400) : ∀ (n : Nat) (t b l l2 : Int) (lx : Value), 0 ≤ t → ((t + m + n = 401) ∨ (n = 0 ∧ 400 < t + m ∧ t ≤ 400)) → ((b = -1 ∧ l = 2147483647) ∨ (0 ≤ b ∧ b < 400 ∧ l = l2 ∧ 0 ≤ l ∧ l ≤ 3000)) → ∀ z, z = (lu (fun x => spr h (m - 1).toNat x) n t b l2).1 → Rn cW mX2_lullFrom 9 [.ref 9, .int (iI a), .int (iI m), .int (iI b), .int (iI l), .int (iI t), lx] [] σ (pR (.int (iI z)) σ) := by
  intro n
  induction n with
  | zero =>
    intro t b l l2 lx h0 ht hl z hz
    refine r_iload dX2_lullFrom_9 rfl ?_
    refine r_iload_n dX2_lullFrom_11 rfl ?_
    refine i_iadd dX2_lullFrom_12 ?_
    refine i_sipush dX2_lullFrom_13 (by decide) ?_
    refine i_icmp_gt 50 dX2_lullFrom_16 rfl ⟨by omega, by omega⟩ ⟨by omega, by omega⟩ (fun q16 => ?_) (fun q16 => ?_)
    · skip
      refine r_iload_n dX2_lullFrom_50 rfl ?_
      refine r_iret rfl dX2_lullFrom_51 ?_
      exact ⟨by rw [hz]; rfl, rfl⟩
    · exfalso
      omega
  | succ n ih =>
    intro t b l l2 lx h0 ht hl z hz
    simp only [lu] at hz
    refine r_iload dX2_lullFrom_9 rfl ?_
    refine r_iload_n dX2_lullFrom_11 rfl ?_
    refine i_iadd dX2_lullFrom_12 ?_
    refine i_sipush dX2_lullFrom_13 (by decide) ?_
    refine i_icmp_gt 50 dX2_lullFrom_16 rfl ⟨by omega, by omega⟩ ⟨by omega, by omega⟩ (fun q16 => ?_) (fun q16 => ?_)
    · exfalso
      omega
    · skip
      refine r_aload_n dX2_lullFrom_19 rfl ?_
      refine r_iload dX2_lullFrom_20 rfl ?_
      refine r_iload_n dX2_lullFrom_22 rfl ?_
      refine r_iload dX2_lullFrom_23 rfl ?_
      refine i_cvI (c_spread σ h hh hb t m l (by omega) (by omega) (by omega) (by omega)) lmX2_76 dX2_lullFrom_25 (Nat.le_of_ble_eq_true rfl) rfl ⟨_, _, rfl⟩ (by decide) (by decide) rfl rfl (Nat.le_of_ble_eq_true rfl) (fun s1 σ1 hs => ?_)
      obtain ⟨s0, s2, s3, s4, rfl⟩ := hs
      refine r_istore dX2_lullFrom_28 (Nat.le_of_ble_eq_true rfl) ?_
      refine r_iload dX2_lullFrom_30 rfl ?_
      refine r_iload dX2_lullFrom_32 rfl ?_
      refine i_icmp_ge 44 dX2_lullFrom_34 rfl ⟨by omega, by omega⟩ ⟨by omega, by omega⟩ (fun q34 => ?_) (fun q34 => ?_)
      · skip
        refine i_iinc dX2_lullFrom_44 rfl (Nat.le_of_ble_eq_true rfl) ?_
        refine r_goto 9 dX2_lullFrom_47 rfl ?_
        first
          | (rw [if_pos (by omega)] at hz; exact ih _ _ _ _ _ (by omega) (by omega) (Or.inr ⟨by omega, by omega, by omega, by omega, by omega⟩) z hz)
          | (rw [if_neg (by omega)] at hz; exact ih _ _ _ l2 _ (by omega) (by omega) (by omega) z hz)
      · skip
        refine r_iload dX2_lullFrom_37 rfl ?_
        refine r_istore_n dX2_lullFrom_39 (Nat.le_of_ble_eq_true rfl) ?_
        refine r_iload dX2_lullFrom_40 rfl ?_
        refine r_istore dX2_lullFrom_42 (Nat.le_of_ble_eq_true rfl) ?_
        refine i_iinc dX2_lullFrom_44 rfl (Nat.le_of_ble_eq_true rfl) ?_
        refine r_goto 9 dX2_lullFrom_47 rfl ?_
        first
          | (rw [if_pos (by omega)] at hz; exact ih _ _ _ _ _ (by omega) (by omega) (Or.inr ⟨by omega, by omega, by omega, by omega, by omega⟩) z hz)
          | (rw [if_neg (by omega)] at hz; exact ih _ _ _ l2 _ (by omega) (by omega) (by omega) z hz)

set_option maxRecDepth 20000 in
theorem c_lullFrom (σ : rl_S) (h : Int → Int) (hh : SH σ h) (hb : HB h) (a m : Int) (h0 : 0 ≤ a) (h1 : a < 400) (hm : 1 ≤ m ∧ m ≤ 400) : Ct cW mX2_lullFrom [.ref 9, .int (iI a), .int (iI m)] σ (pR (.int (iI (lu (fun x => spr h (m - 1).toNat x) (401 - m - a).toNat a (-1) (-1)).1)) σ) := by
  refine Ct.of plX2 (Nat.le_of_ble_eq_true rfl) ?_
  refine i_const dX2_lullFrom_0 ?_
  refine r_istore_n dX2_lullFrom_1 (Nat.le_of_ble_eq_true rfl) ?_
  refine i_ldc lcX2_75 dX2_lullFrom_2 ?_
  rw [show (2147483647 : Int32).toInt = 2147483647 from by decide]
  refine r_istore dX2_lullFrom_4 (Nat.le_of_ble_eq_true rfl) ?_
  refine r_iload_n dX2_lullFrom_6 rfl ?_
  refine r_istore dX2_lullFrom_7 (Nat.le_of_ble_eq_true rfl) ?_
  exact c_lull_l σ h hh hb a m hm (401 - m - a).toNat a (-1) _ (-1) _ h0 (by omega) (Or.inl ⟨rfl, rfl⟩) _ rfl

theorem c_gh_l (σ : rl_S) (h : Int → Int) (hh : SH σ h) (hb : HB h) (lim a e : Int) (hl : -2147483648 ≤ lim ∧ lim < 2147483648) (he : e ≤ 400) : ∀ (n : Nat) (t c : Int) (lx : Value), 0 ≤ t → ((t + n = e) ∨ (n = 0 ∧ e ≤ t ∧ t ≤ 400)) → 0 ≤ e → 0 ≤ c → c ≤ 3000 → ∀ z, z = gh h lim n t c → Rn cW mX2_greatestHeightUpTo 6 [.ref 9, .int (iI lim), .int (iI a), .int (iI e), .int (iI c), .int (iI t), lx] [] σ (pR (.int (iI z)) σ) := by
  intro n
  induction n with
  | zero =>
    intro t c lx h0 ht he0 hc0 hc1 z hz
    refine r_iload dX2_greatestHeightUpTo_6 rfl ?_
    refine r_iload_n dX2_greatestHeightUpTo_8 rfl ?_
    refine i_icmp_ge 43 dX2_greatestHeightUpTo_9 rfl ⟨by omega, by omega⟩ ⟨by omega, by omega⟩ (fun q9 => ?_) (fun q9 => ?_)
    · skip
      refine r_iload dX2_greatestHeightUpTo_43 rfl ?_
      refine r_iret rfl dX2_greatestHeightUpTo_45 ?_
      exact ⟨by rw [hz]; rfl, rfl⟩
    · exfalso
      omega
  | succ n ih =>
    intro t c lx h0 ht he0 hc0 hc1 z hz
    have b1 := hb t h0 (by omega)
    simp only [gh] at hz
    refine r_iload dX2_greatestHeightUpTo_6 rfl ?_
    refine r_iload_n dX2_greatestHeightUpTo_8 rfl ?_
    refine i_icmp_ge 43 dX2_greatestHeightUpTo_9 rfl ⟨by omega, by omega⟩ ⟨by omega, by omega⟩ (fun q9 => ?_) (fun q9 => ?_)
    · exfalso
      omega
    · skip
      refine r_aload_n dX2_greatestHeightUpTo_12 rfl ?_
      refine r_iload dX2_greatestHeightUpTo_13 rfl ?_
      refine i_cvP (c_heightAt σ h hh hb t (by omega) (by omega)) lmX2_72 dX2_greatestHeightUpTo_15 (Nat.le_of_ble_eq_true rfl) rfl ⟨_, _, rfl⟩ (by decide) (by decide) rfl rfl (Nat.le_of_ble_eq_true rfl) ?_
      refine r_istore dX2_greatestHeightUpTo_18 (Nat.le_of_ble_eq_true rfl) ?_
      refine r_iload dX2_greatestHeightUpTo_20 rfl ?_
      refine r_iload_n dX2_greatestHeightUpTo_22 rfl ?_
      refine i_icmp_gt 37 dX2_greatestHeightUpTo_23 rfl ⟨by omega, by omega⟩ ⟨by omega, by omega⟩ (fun q23 => ?_) (fun q23 => ?_)
      · skip
        refine i_iinc dX2_greatestHeightUpTo_37 rfl (Nat.le_of_ble_eq_true rfl) ?_
        refine r_goto 6 dX2_greatestHeightUpTo_40 rfl ?_
        first
          | (rw [if_pos (by omega)] at hz; exact ih _ _ _ (by omega) (by omega) (by omega) (by omega) (by omega) z hz)
          | (rw [if_neg (by omega)] at hz; exact ih _ _ _ (by omega) (by omega) (by omega) (by omega) (by omega) z hz)
      · skip
        refine r_iload dX2_greatestHeightUpTo_26 rfl ?_
        refine r_iload dX2_greatestHeightUpTo_28 rfl ?_
        refine i_icmp_le 37 dX2_greatestHeightUpTo_30 rfl ⟨by omega, by omega⟩ ⟨by omega, by omega⟩ (fun q30 => ?_) (fun q30 => ?_)
        · skip
          refine i_iinc dX2_greatestHeightUpTo_37 rfl (Nat.le_of_ble_eq_true rfl) ?_
          refine r_goto 6 dX2_greatestHeightUpTo_40 rfl ?_
          first
            | (rw [if_pos (by omega)] at hz; exact ih _ _ _ (by omega) (by omega) (by omega) (by omega) (by omega) z hz)
            | (rw [if_neg (by omega)] at hz; exact ih _ _ _ (by omega) (by omega) (by omega) (by omega) (by omega) z hz)
        · skip
          refine r_iload dX2_greatestHeightUpTo_33 rfl ?_
          refine r_istore dX2_greatestHeightUpTo_35 (Nat.le_of_ble_eq_true rfl) ?_
          refine i_iinc dX2_greatestHeightUpTo_37 rfl (Nat.le_of_ble_eq_true rfl) ?_
          refine r_goto 6 dX2_greatestHeightUpTo_40 rfl ?_
          first
            | (rw [if_pos (by omega)] at hz; exact ih _ _ _ (by omega) (by omega) (by omega) (by omega) (by omega) z hz)
            | (rw [if_neg (by omega)] at hz; exact ih _ _ _ (by omega) (by omega) (by omega) (by omega) (by omega) z hz)

set_option maxRecDepth 20000 in
theorem c_gh (σ : rl_S) (h : Int → Int) (hh : SH σ h) (hb : HB h) (lim a e : Int) (hl : -2147483648 ≤ lim ∧ lim < 2147483648) (h0 : 0 ≤ a) (h1 : a ≤ 400) (e0 : 0 ≤ e) (he : e ≤ 400) : Ct cW mX2_greatestHeightUpTo [.ref 9, .int (iI lim), .int (iI a), .int (iI e)] σ (pR (.int (iI (gh h lim (e - a).toNat a 0))) σ) := by
  refine Ct.of plX2 (Nat.le_of_ble_eq_true rfl) ?_
  refine i_const dX2_greatestHeightUpTo_0 ?_
  refine r_istore dX2_greatestHeightUpTo_1 (Nat.le_of_ble_eq_true rfl) ?_
  refine r_iload_n dX2_greatestHeightUpTo_3 rfl ?_
  refine r_istore dX2_greatestHeightUpTo_4 (Nat.le_of_ble_eq_true rfl) ?_
  exact c_gh_l σ h hh hb lim a e hl he (e - a).toNat a 0 _ h0 (by omega) e0 (by omega) (by omega) _ rfl

set_option maxRecDepth 20000 in
theorem c_greatest (σ : rl_S) (h : Int → Int) (hh : SH σ h) (hb : HB h)  : Ct cW mX2_greatestHeight [.ref 9] σ (pR (.int (iI (mxU h 400 0 0))) σ) := by
  refine Ct.of plX2 (Nat.le_of_ble_eq_true rfl) ?_
  refine r_aload_n dX2_greatestHeight_0 rfl ?_
  refine i_ldc lcX2_75 dX2_greatestHeight_1 ?_
  rw [show (2147483647 : Int32).toInt = 2147483647 from by decide]
  refine i_const dX2_greatestHeight_3 ?_
  refine i_sipush dX2_greatestHeight_4 (by decide) ?_
  refine i_cvP (c_gh σ h hh hb 2147483647 0 400 (by omega) (by omega) (by omega) (by omega) (by omega)) lmX2_82 dX2_greatestHeight_7 (Nat.le_of_ble_eq_true rfl) rfl ⟨_, _, rfl⟩ (by decide) (by decide) rfl rfl (Nat.le_of_ble_eq_true rfl) ?_
  refine r_iret rfl dX2_greatestHeight_10 ?_
  exact ⟨by rw [gh_mxU hb (by omega) _ _ _ (by omega) (by omega)]; rfl, rfl⟩

theorem c_least_l (σ : rl_S) (h : Int → Int) (hh : SH σ h) (hb : HB h) (a e : Int) (h0 : 0 ≤ a) (he : e ≤ 400) : ∀ (n : Nat) (j : Nat) (t : Int), t = a + j + 1 → t + n = e → Rn cW mX2_leastHeight 11 [.ref 9, .int (iI a), .int (iI e), .int (iI (lo h j a)), .int (iI t)] [] σ (pR (.int (iI (lo h (e - a - 1).toNat a))) σ) := by
  intro n
  induction n with
  | zero =>
    intro j t hj ht
    refine r_iload dX2_leastHeight_11 rfl ?_
    refine r_iload_n dX2_leastHeight_13 rfl ?_
    refine i_icmp_ge 34 dX2_leastHeight_14 rfl ⟨by omega, by omega⟩ ⟨by omega, by omega⟩ (fun q14 => ?_) (fun q14 => ?_)
    · skip
      refine r_iload_n dX2_leastHeight_34 rfl ?_
      refine r_iret rfl dX2_leastHeight_35 ?_
      exact ⟨by rw [show (e - a - 1).toNat = j by omega], rfl⟩
    · exfalso
      omega
  | succ n ih =>
    intro j t hj ht
    have b1 := lo_bd hb j a h0 (by omega)
    have b6 := hb t (by omega) (by omega)
    have e1 : lo h (j + 1) a = min (lo h j a) (h t) := by rw [show t = a + ((j + 1 : Nat) : Int) by omega]; rfl
    refine r_iload dX2_leastHeight_11 rfl ?_
    refine r_iload_n dX2_leastHeight_13 rfl ?_
    refine i_icmp_ge 34 dX2_leastHeight_14 rfl ⟨by omega, by omega⟩ ⟨by omega, by omega⟩ (fun q14 => ?_) (fun q14 => ?_)
    · exfalso
      omega
    · skip
      refine r_iload_n dX2_leastHeight_17 rfl ?_
      refine r_aload_n dX2_leastHeight_18 rfl ?_
      refine r_iload dX2_leastHeight_19 rfl ?_
      refine i_cvP (c_heightAt σ h hh hb t (by omega) (by omega)) lmX2_72 dX2_leastHeight_21 (Nat.le_of_ble_eq_true rfl) rfl ⟨_, _, rfl⟩ (by decide) (by decide) rfl rfl (Nat.le_of_ble_eq_true rfl) ?_
      refine i_mmin lmX2_58 dX2_leastHeight_24 (by decide) (Nat.le_of_ble_eq_true rfl) ⟨by omega, by omega⟩ ⟨by omega, by omega⟩ ?_
      refine r_istore_n dX2_leastHeight_27 (Nat.le_of_ble_eq_true rfl) ?_
      refine i_iinc dX2_leastHeight_28 rfl (Nat.le_of_ble_eq_true rfl) ?_
      refine r_goto 11 dX2_leastHeight_31 rfl ?_
      rw [← e1]
      exact ih (j + 1) (t + 1) (by omega) (by omega)

set_option maxRecDepth 20000 in
theorem c_least (σ : rl_S) (h : Int → Int) (hh : SH σ h) (hb : HB h) (a e : Int) (h0 : 0 ≤ a) (h1 : a < e) (he : e ≤ 400) : Ct cW mX2_leastHeight [.ref 9, .int (iI a), .int (iI e)] σ (pR (.int (iI (lo h (e - a - 1).toNat a))) σ) := by
  refine Ct.of plX2 (Nat.le_of_ble_eq_true rfl) ?_
  refine r_aload_n dX2_leastHeight_0 rfl ?_
  refine r_iload_n dX2_leastHeight_1 rfl ?_
  refine i_cvP (c_heightAt σ h hh hb a (by omega) (by omega)) lmX2_72 dX2_leastHeight_2 (Nat.le_of_ble_eq_true rfl) rfl ⟨_, _, rfl⟩ (by decide) (by decide) rfl rfl (Nat.le_of_ble_eq_true rfl) ?_
  refine r_istore_n dX2_leastHeight_5 (Nat.le_of_ble_eq_true rfl) ?_
  refine r_iload_n dX2_leastHeight_6 rfl ?_
  refine i_const dX2_leastHeight_7 ?_
  refine i_iadd dX2_leastHeight_8 ?_
  refine r_istore dX2_leastHeight_9 (Nat.le_of_ble_eq_true rfl) ?_
  exact c_least_l σ h hh hb a e h0 he (e - a - 1).toNat 0 (a + 1) (by omega) (by omega)

theorem c_saved_l (σ : rl_S) (h : Int → Int) (hh : SH σ h) (hb : HB h) (r : Int → Int) (hr : SR σ r) (rb : HB r) (a0 : 0 ≤ σ 9 4 ∧ σ 9 4 ≤ 399) (m0 : 0 ≤ σ 9 5 ∧ σ 9 5 ≤ 399) (e : Int) (he : e = min 400 (σ 9 4 + σ 9 5)) : ∀ (n : Nat) (t c : Int), 0 ≤ t → ((t + n = e) ∨ (n = 0 ∧ e ≤ t ∧ t ≤ 400)) → 0 ≤ c → c ≤ 3000 → ∀ z, z = mxU r n t c - mxU h (e - σ 9 4).toNat (σ 9 4) 0 → Rn cW mX2_savedByLee 32 [.ref 9, .int (iI e), .int (iI c), .int (iI t)] [] σ (pR (.int (iI z)) σ) := by
  intro n
  induction n with
  | zero =>
    intro t c h0 ht hc0 hc1 z hz
    refine r_iload_n dX2_savedByLee_32 rfl ?_
    refine r_iload_n dX2_savedByLee_33 rfl ?_
    refine i_icmp_ge 53 dX2_savedByLee_34 rfl ⟨by omega, by omega⟩ ⟨by omega, by omega⟩ (fun q34 => ?_) (fun q34 => ?_)
    · skip
      refine r_iload_n dX2_savedByLee_53 rfl ?_
      refine r_aload_n dX2_savedByLee_54 rfl ?_
      refine i_ldc lcX2_75 dX2_savedByLee_55 ?_
      rw [show (2147483647 : Int32).toInt = 2147483647 from by decide]
      refine r_aload_n dX2_savedByLee_57 rfl ?_
      refine r_get (k := 9) lfX2_28 dX2_savedByLee_58 (Nat.le_of_ble_eq_true rfl) rfl rfl ?_
      refine r_iload_n dX2_savedByLee_61 rfl ?_
      refine i_cvP (c_gh σ h hh hb 2147483647 (σ 9 4) e (by omega) (by omega) (by omega) (by omega) (by omega)) lmX2_82 dX2_savedByLee_62 (Nat.le_of_ble_eq_true rfl) rfl ⟨_, _, rfl⟩ (by decide) (by decide) rfl rfl (Nat.le_of_ble_eq_true rfl) ?_
      refine i_isub dX2_savedByLee_65 ?_
      refine r_iret rfl dX2_savedByLee_66 ?_
      exact ⟨by rw [hz, gh_mxU hb (by omega) _ _ _ (by omega) (by omega)]; rfl, rfl⟩
    · exfalso
      omega
  | succ n ih =>
    intro t c h0 ht hc0 hc1 z hz
    have b1 := rb t h0 (by omega)
    simp only [mxU] at hz
    refine r_iload_n dX2_savedByLee_32 rfl ?_
    refine r_iload_n dX2_savedByLee_33 rfl ?_
    refine i_icmp_ge 53 dX2_savedByLee_34 rfl ⟨by omega, by omega⟩ ⟨by omega, by omega⟩ (fun q34 => ?_) (fun q34 => ?_)
    · exfalso
      omega
    · skip
      refine r_iload_n dX2_savedByLee_37 rfl ?_
      refine r_aload_n dX2_savedByLee_38 rfl ?_
      refine r_iload_n dX2_savedByLee_39 rfl ?_
      refine i_cvP (c_heightWithoutLee σ r hr t (by omega) (by omega)) lmX2_63 dX2_savedByLee_40 (Nat.le_of_ble_eq_true rfl) rfl ⟨_, _, rfl⟩ (by decide) (by decide) rfl rfl (Nat.le_of_ble_eq_true rfl) ?_
      refine i_mmax lmX2_79 dX2_savedByLee_43 (by decide) (Nat.le_of_ble_eq_true rfl) ⟨by omega, by omega⟩ ⟨by omega, by omega⟩ ?_
      refine r_istore_n dX2_savedByLee_46 (Nat.le_of_ble_eq_true rfl) ?_
      refine i_iinc dX2_savedByLee_47 rfl (Nat.le_of_ble_eq_true rfl) ?_
      refine r_goto 32 dX2_savedByLee_50 rfl ?_
      exact ih _ _ (by omega) (by omega) (by omega) (by omega) z hz

def svd (r h : Int → Int) (a m : Int) : Int := if m = 0 then -1 else mxU r (min 400 (a + m) - a).toNat a 0 - mxU h (min 400 (a + m) - a).toNat a 0
set_option maxRecDepth 20000 in
theorem c_saved (σ : rl_S) (h : Int → Int) (hh : SH σ h) (hb : HB h) (r : Int → Int) (hr : SR σ r) (rb : HB r) (a0 : 0 ≤ σ 9 4 ∧ σ 9 4 ≤ 399) (m0 : 0 ≤ σ 9 5 ∧ σ 9 5 ≤ 399)  : Ct cW mX2_savedByLee [.ref 9] σ (pR (.int (iI (svd r h (σ 9 4) (σ 9 5)))) σ) := by
  refine Ct.of plX2 (Nat.le_of_ble_eq_true rfl) ?_
  refine r_aload_n dX2_savedByLee_0 rfl ?_
  refine r_get (k := 9) lfX2_32 dX2_savedByLee_1 (Nat.le_of_ble_eq_true rfl) rfl rfl ?_
  refine i_if_ne 9 dX2_savedByLee_4 rfl ⟨by omega, by omega⟩ (fun q4 => ?_) (fun q4 => ?_)
  · skip
    refine i_sipush dX2_savedByLee_9 (by decide) ?_
    refine r_aload_n dX2_savedByLee_12 rfl ?_
    refine r_get (k := 9) lfX2_28 dX2_savedByLee_13 (Nat.le_of_ble_eq_true rfl) rfl rfl ?_
    refine r_aload_n dX2_savedByLee_16 rfl ?_
    refine r_get (k := 9) lfX2_32 dX2_savedByLee_17 (Nat.le_of_ble_eq_true rfl) rfl rfl ?_
    refine i_iadd dX2_savedByLee_20 ?_
    refine i_mmin lmX2_58 dX2_savedByLee_21 (by decide) (Nat.le_of_ble_eq_true rfl) ⟨by omega, by omega⟩ ⟨by omega, by omega⟩ ?_
    refine r_istore_n dX2_savedByLee_24 (Nat.le_of_ble_eq_true rfl) ?_
    refine i_const dX2_savedByLee_25 ?_
    refine r_istore_n dX2_savedByLee_26 (Nat.le_of_ble_eq_true rfl) ?_
    refine r_aload_n dX2_savedByLee_27 rfl ?_
    refine r_get (k := 9) lfX2_28 dX2_savedByLee_28 (Nat.le_of_ble_eq_true rfl) rfl rfl ?_
    refine r_istore_n dX2_savedByLee_31 (Nat.le_of_ble_eq_true rfl) ?_
    exact c_saved_l σ h hh hb r hr rb a0 m0 _ rfl (min 400 (σ 9 4 + σ 9 5) - σ 9 4).toNat (σ 9 4) 0 (by omega) (by omega) (by omega) (by omega) _ (by unfold svd; rw [if_neg (by omega)])
  · skip
    refine i_const dX2_savedByLee_7 ?_
    refine r_iret rfl dX2_savedByLee_8 ?_
    exact ⟨by unfold svd; rw [if_pos (by omega)], rfl⟩
