theorem wf_0 {M : rl_S} (h : WF M) : (0 ≤ M 1 0 ∧ M 1 0 ≤ 23) ∧ 0 ≤ M 1 1 ∧ M 1 1 ≤ 3 := ⟨h.1, h.2.1⟩
theorem wf_1 {M : rl_S} (h : WF M) : (0 ≤ M 0 7 ∧ M 0 7 ≤ 399) ∧ 0 ≤ M 0 8 ∧ M 0 8 ≤ 399 := ⟨h.2.2.2.2.2.1, h.2.2.2.2.2.2.1⟩
theorem ob_dt {p : Prop} [Decidable p] (h : ¬ ob (decide p) = 0) : p := of_decide_eq_true (ob_t h)
theorem ob_df {p : Prop} [Decidable p] (h : ob (decide p) = 0) : ¬ p := of_decide_eq_false (ob_f h)
/-! what is asked of heights, leans, crests, steps -/
def stp (M : rl_S) (t : Int) : Int := if M 6 3 < M 6 0 - hi M t then 4 else mv (hi M) t
def fll (M : rl_S) (t : Int) : Int := if stp M t = 4 then 16 else min 16 ((if stp M t = 1 then M 6 4 else if stp M t = 2 then M 6 5 else if stp M t = 3 then M 6 6 else M 6 7) + M 6 9)
def dst (M : rl_S) (t : Int) : Int := max (hi M t - M 6 0) (-(hi M t - M 6 0))
theorem stp_bd (M : rl_S) (t : Int) : 0 ≤ stp M t ∧ stp M t ≤ 4 := by
  have := mv_bd (hi M) t
  unfold stp
  split <;> omega
theorem fll_bd {M : rl_S} (hw : WF M) (t : Int) : 0 ≤ fll M t ∧ fll M t ≤ 16 := by
  have q := wf_set hw
  unfold fll
  repeat' split
  all_goals omega
def q_fault (M : rl_S) (t : Int) : Int := if t = 0 then fF (b0 M) 6 (M 1 0) else if t = 1 then fF (b1 M) 1 (M 1 1) else -2
def q_swell (M : rl_S) (s w : Int) : Int := if (0 ≤ s ∧ s < nS M) ∧ (w = 0 ∨ w = 1) then (if w = 0 then hS M s else lS M s) else -2
def q_roll (M : rl_S) (w : Int) : Int := if w = 0 ∨ w = 1 then (if nR M = 0 then -1 else if w = 0 then gR M else lR M) else -2
def q_high (M : rl_S) (t : Int) : Int := if 0 ≤ t ∧ t ≤ 399 then hi M t else -2
def q_does (M : rl_S) (t : Int) : Int := if 0 ≤ t ∧ t ≤ 399 then mv (hi M) t else -2
def q_leans (M : rl_S) (t : Int) : Int := if 0 ≤ t ∧ t ≤ 399 then len M t else -2
def q_crest (M : rl_S) (t k : Int) : Int := if (0 ≤ t ∧ t ≤ 399) ∧ 1 ≤ k ∧ k ≤ 99 then cF (hi M) t k else -2
def q_seventh (M : rl_S) (t : Int) : Int := if 0 ≤ t ∧ t ≤ 399 then sv (hi M) 7 1 (cF (hi M) t 1) (-1) (-1) else -2
def luM (M : rl_S) (t m : Int) : Int × Int := lu (fun x => spr (hi M) (m - 1).toNat x) (401 - m - t).toNat t (-1) (-1)
def q_lull (M : rl_S) (t m w : Int) : Int := if (0 ≤ t ∧ t ≤ 399) ∧ (1 ≤ m ∧ m ≤ 100) ∧ (w = 0 ∨ w = 1) then (if w = 0 then (luM M t m).1 else (luM M t m).2) else -2
def q_step (M : rl_S) (t : Int) : Int := if 0 ≤ t ∧ t ≤ 399 then stp M t else -2
def q_fall (M : rl_S) (t : Int) : Int := if 0 ≤ t ∧ t ≤ 399 then fll M t else -2
def q_climb (M : rl_S) (t : Int) : Int := if 0 ≤ t ∧ t ≤ 399 then (clM M t).1 else -2
def q_bangs (M : rl_S) (t : Int) : Int := if 0 ≤ t ∧ t ≤ 399 then (clM M t).2 else -2
def dn (M : rl_S) : Nat → Int → Int → Int
  | 0, _, b => b
  | n + 1, t, b => if dst M t < dst M b then dn M n (t + 1) t else dn M n (t + 1) b
def q_down (M : rl_S) (t m w : Int) : Int := if (0 ≤ t ∧ t ≤ 399) ∧ (1 ≤ m ∧ m ≤ 100) ∧ (w = 0 ∨ w = 1) then (if w = 0 then dn M (min 400 (t + m) - t - 1).toNat (t + 1) t else dst M (dn M (min 400 (t + m) - t - 1).toNat (t + 1) t)) else -2
def q_saves (M : rl_S) : Int := svd (raw M) (hi M) (M 0 7) (M 0 8)
def q_ladder (M : rl_S) (t m : Int) : Int := if (0 ≤ t ∧ t ≤ 399) ∧ (1 ≤ m ∧ m ≤ 100) then gh (hi M) (min 999 (lo (hi M) (min 400 (t + m) - t - 1).toNat t + M 6 3)) (min 400 (t + m) - t).toNat t 0 else -2
theorem lu_2 (s : Int → Int) : ∀ (n : Nat) (t b l : Int), ((b = -1 ∧ l = -1) ∨ (b ≠ -1 ∧ l = s b)) → 0 ≤ t → (((lu s n t b l).1 = -1 ∧ (lu s n t b l).2 = -1) ∨ ((lu s n t b l).1 ≠ -1 ∧ (lu s n t b l).2 = s (lu s n t b l).1))
  | 0, t, b, l, h, _ => h
  | n + 1, t, b, l, h, h0 => by
    simp only [lu]
    split
    · exact lu_2 s n (t + 1) t (s t) (Or.inr ⟨by omega, rfl⟩) (by omega)
    · exact lu_2 s n (t + 1) b l h (by omega)
theorem lu_1 (s : Int → Int) (a : Int) (a0 : 0 ≤ a) : ∀ (n : Nat) (t b l : Int), (b = -1 ∨ (a ≤ b ∧ b < t)) → a ≤ t → ((lu s n t b l).1 = -1 ∨ (a ≤ (lu s n t b l).1 ∧ (lu s n t b l).1 < t + n))
  | 0, t, b, l, h, _ => by simp only [lu]; omega
  | n + 1, t, b, l, h, h0 => by
    have i1 := lu_1 s a a0 n (t + 1) t (s t) (Or.inr ⟨h0, by omega⟩) (by omega)
    have i2 := lu_1 s a a0 n (t + 1) b l (by omega) (by omega)
    simp only [lu]
    split <;> omega
set_option maxRecDepth 20000 in
theorem c_fault (M σ : rl_S) (c : IC M σ) (hw : WF M) (t : Int) (ht : -2147483648 ≤ t ∧ t < 2147483648) : Ct cW mX8_fault [.ref 0, .int (iI t)] σ (pR (.int (iI (q_fault M t))) σ) := by
  refine Ct.of plX8 (Nat.le_of_ble_eq_true rfl) ?_
  obtain ⟨gt, gs, gp, gg, gn, gh1, gf⟩ := id c
  have hb := wf_hb hw
  have hh := gs.2.2.2.2
  rcases (show t = 0 ∨ t = 1 ∨ (t ≠ 0 ∧ t ≠ 1) by omega) with rfl | rfl | ⟨n0, n1⟩
  · skip
    refine r_aload_n dX8_fault_0 rfl ?_
    refine r_iload_n dX8_fault_1 rfl ?_
    refine i_cvP (c_textOf_0 σ) lmX8_74 dX8_fault_2 (Nat.le_of_ble_eq_true rfl) rfl ⟨_, _, rfl⟩ (by decide) (by decide) rfl rfl (Nat.le_of_ble_eq_true rfl) ?_
    refine r_astore_n dX8_fault_5 (Nat.le_of_ble_eq_true rfl) ?_
    refine r_aload_n dX8_fault_6 rfl ?_
    refine r_ifnonnull 15 dX8_fault_7 rfl ?_
    refine r_aload_n dX8_fault_15 rfl ?_
    refine r_get (k := 1) lfX8_96 dX8_fault_16 (Nat.le_of_ble_eq_true rfl) rfl rfl ?_
    refine r_iret rfl dX8_fault_19 ?_
    exact ⟨by rw [gt.2.2.2.2.1]; rfl, rfl⟩
  · skip
    refine r_aload_n dX8_fault_0 rfl ?_
    refine r_iload_n dX8_fault_1 rfl ?_
    refine i_cvP (c_textOf_1 σ) lmX8_74 dX8_fault_2 (Nat.le_of_ble_eq_true rfl) rfl ⟨_, _, rfl⟩ (by decide) (by decide) rfl rfl (Nat.le_of_ble_eq_true rfl) ?_
    refine r_astore_n dX8_fault_5 (Nat.le_of_ble_eq_true rfl) ?_
    refine r_aload_n dX8_fault_6 rfl ?_
    refine r_ifnonnull 15 dX8_fault_7 rfl ?_
    refine r_aload_n dX8_fault_15 rfl ?_
    refine r_get (k := 5) lfX8_96 dX8_fault_16 (Nat.le_of_ble_eq_true rfl) rfl rfl ?_
    refine r_iret rfl dX8_fault_19 ?_
    exact ⟨by rw [gt.2.2.2.2.2.1]; rfl, rfl⟩
  · skip
    refine r_aload_n dX8_fault_0 rfl ?_
    refine r_iload_n dX8_fault_1 rfl ?_
    refine i_cvP (c_textOf_n σ t ht n0 n1) lmX8_74 dX8_fault_2 (Nat.le_of_ble_eq_true rfl) rfl ⟨_, _, rfl⟩ (by decide) (by decide) rfl rfl (Nat.le_of_ble_eq_true rfl) ?_
    refine r_astore_nN dX8_fault_5 (Nat.le_of_ble_eq_true rfl) ?_
    refine r_aload_nN dX8_fault_6 rfl ?_
    refine r_ifnonnullN dX8_fault_7 ?_
    refine i_bipush dX8_fault_10 (by decide) ?_
    refine r_goto 19 dX8_fault_12 rfl ?_
    refine r_iret rfl dX8_fault_19 ?_
    exact ⟨by unfold q_fault; (repeat (first | rfl | (rw [if_pos (by omega)]) | (rw [if_neg (by omega)]))), rfl⟩

set_option maxRecDepth 20000 in
theorem c_swell (M σ : rl_S) (c : IC M σ) (hw : WF M) (s w : Int) (hs : -2147483648 ≤ s ∧ s < 2147483648) (hw2 : -2147483648 ≤ w ∧ w < 2147483648) : Ct cW mX8_swell [.ref 0, .int (iI s), .int (iI w)] σ (pR (.int (iI (q_swell M s w))) σ) := by
  refine Ct.of plX8 (Nat.le_of_ble_eq_true rfl) ?_
  obtain ⟨gt, gs, gp, gg, gn, gh1, gf⟩ := id c
  have hb := wf_hb hw
  have hh := gs.2.2.2.2
  have hn := (wf_sw hw).1
  have hn2 := (wf_sw hw).2.1
  have e7 := gt.2.2.2.2.2.2.1
  have ob1 := ob_bd (decide (0 ≤ s ∧ s < σ 1 7))
  have ob2 := ob_bd (decide (w = 0 ∨ w = 1))
  refine r_aload_n dX8_swell_0 rfl ?_
  refine r_iload_n dX8_swell_1 rfl ?_
  refine i_cvP (c_isSwell σ (by omega) s hs) lmX8_99 dX8_swell_2 (Nat.le_of_ble_eq_true rfl) rfl ⟨_, _, rfl⟩ (by decide) (by decide) rfl rfl (Nat.le_of_ble_eq_true rfl) ?_
  refine i_if_eq 15 dX8_swell_5 rfl ⟨by omega, by omega⟩ (fun q5 => ?_) (fun q5 => ?_)
  · have e5 := ob_df q5
    refine i_bipush dX8_swell_15 (by decide) ?_
    refine r_iret rfl dX8_swell_17 ?_
    exact ⟨by unfold q_swell; (repeat (first | rfl | (rw [if_pos (by omega)]) | (rw [if_neg (by omega)]))), rfl⟩
  · have e5 := ob_dt q5
    refine r_iload_n dX8_swell_8 rfl ?_
    refine i_csP (c_isEither σ w hw2) lmX8_103 dX8_swell_9 (by decide) (by decide) rfl rfl (Nat.le_of_ble_eq_true rfl) ?_
    refine i_if_ne 18 dX8_swell_12 rfl ⟨by omega, by omega⟩ (fun q12 => ?_) (fun q12 => ?_)
    · have e12 := ob_dt q12
      refine r_iload_n dX8_swell_18 rfl ?_
      refine i_if_ne 33 dX8_swell_19 rfl ⟨by omega, by omega⟩ (fun q19 => ?_) (fun q19 => ?_)
      · skip
        refine r_aload_n dX8_swell_33 rfl ?_
        refine r_get (k := 0) lfX8_14 dX8_swell_34 (Nat.le_of_ble_eq_true rfl) rfl rfl ?_
        refine r_iload_n dX8_swell_37 rfl ?_
        refine i_cvP (c_lengthOf_1 σ (lS M) gt.2.2.2.2.2.2.2.2.2.1 s (by omega) (by omega)) lmX8_110 dX8_swell_38 (Nat.le_of_ble_eq_true rfl) rfl ⟨_, _, rfl⟩ (by decide) (by decide) rfl rfl (Nat.le_of_ble_eq_true rfl) ?_
        refine r_iret rfl dX8_swell_41 ?_
        exact ⟨by unfold q_swell; (repeat (first | rfl | (rw [if_pos (by omega)]) | (rw [if_neg (by omega)]))), rfl⟩
      · skip
        refine r_aload_n dX8_swell_22 rfl ?_
        refine r_get (k := 0) lfX8_14 dX8_swell_23 (Nat.le_of_ble_eq_true rfl) rfl rfl ?_
        refine r_iload_n dX8_swell_26 rfl ?_
        refine i_cvP (c_heightOf_1 σ (hS M) gt.2.2.2.2.2.2.2.2.1 s (by omega) (by omega)) lmX8_106 dX8_swell_27 (Nat.le_of_ble_eq_true rfl) rfl ⟨_, _, rfl⟩ (by decide) (by decide) rfl rfl (Nat.le_of_ble_eq_true rfl) ?_
        refine r_goto 41 dX8_swell_30 rfl ?_
        refine r_iret rfl dX8_swell_41 ?_
        exact ⟨by unfold q_swell; (repeat (first | rfl | (rw [if_pos (by omega)]) | (rw [if_neg (by omega)]))), rfl⟩
    · have e12 := ob_df q12
      refine i_bipush dX8_swell_15 (by decide) ?_
      refine r_iret rfl dX8_swell_17 ?_
      exact ⟨by unfold q_swell; (repeat (first | rfl | (rw [if_pos (by omega)]) | (rw [if_neg (by omega)]))), rfl⟩

set_option maxRecDepth 20000 in
theorem c_roll (M σ : rl_S) (c : IC M σ) (hw : WF M) (w : Int) (hw2 : -2147483648 ≤ w ∧ w < 2147483648) : Ct cW mX8_roll [.ref 0, .int (iI w)] σ (pR (.int (iI (q_roll M w))) σ) := by
  refine Ct.of plX8 (Nat.le_of_ble_eq_true rfl) ?_
  obtain ⟨gt, gs, gp, gg, gn, gh1, gf⟩ := id c
  have hb := wf_hb hw
  have hh := gs.2.2.2.2
  have hn := nF_bd (b1 M) 1 (wf_0 hw).2.1
  have e7 : σ 5 7 = nR M := gt.2.2.2.2.2.2.2.1
  have e8 : nR M = nF (b1 M) 1 (M 1 1) := rfl
  have e9 := (wf_0 hw).2.2
  have ob2 := ob_bd (decide (w = 0 ∨ w = 1))
  refine r_iload_n dX8_roll_0 rfl ?_
  refine i_csP (c_isEither σ w hw2) lmX8_103 dX8_roll_1 (by decide) (by decide) rfl rfl (Nat.le_of_ble_eq_true rfl) ?_
  refine i_if_ne 10 dX8_roll_4 rfl ⟨by omega, by omega⟩ (fun q4 => ?_) (fun q4 => ?_)
  · have e4 := ob_dt q4
    refine r_aload_n dX8_roll_10 rfl ?_
    refine r_get (k := 0) lfX8_18 dX8_roll_11 (Nat.le_of_ble_eq_true rfl) rfl rfl ?_
    refine r_get (k := 5) lfX8_113 dX8_roll_14 (Nat.le_of_ble_eq_true rfl) rfl rfl ?_
    refine i_if_ne 22 dX8_roll_17 rfl ⟨by omega, by omega⟩ (fun q17 => ?_) (fun q17 => ?_)
    · skip
      refine r_iload_n dX8_roll_22 rfl ?_
      refine i_if_ne 37 dX8_roll_23 rfl ⟨by omega, by omega⟩ (fun q23 => ?_) (fun q23 => ?_)
      · skip
        refine r_aload_n dX8_roll_37 rfl ?_
        refine r_get (k := 0) lfX8_18 dX8_roll_38 (Nat.le_of_ble_eq_true rfl) rfl rfl ?_
        refine i_const dX8_roll_41 ?_
        refine i_cvP (c_lengthOf_5 σ _ gt.2.2.2.2.2.2.2.2.2.2.2 0 (by decide) (by decide)) lmX8_110 dX8_roll_42 (Nat.le_of_ble_eq_true rfl) rfl ⟨_, _, rfl⟩ (by decide) (by decide) rfl rfl (Nat.le_of_ble_eq_true rfl) ?_
        refine r_iret rfl dX8_roll_45 ?_
        exact ⟨by unfold q_roll; (repeat (first | rfl | (rw [if_pos (by omega)]) | (rw [if_neg (by omega)]))), rfl⟩
      · skip
        refine r_aload_n dX8_roll_26 rfl ?_
        refine r_get (k := 0) lfX8_18 dX8_roll_27 (Nat.le_of_ble_eq_true rfl) rfl rfl ?_
        refine i_const dX8_roll_30 ?_
        refine i_cvP (c_heightOf_5 σ _ gt.2.2.2.2.2.2.2.2.2.2.1 0 (by decide) (by decide)) lmX8_106 dX8_roll_31 (Nat.le_of_ble_eq_true rfl) rfl ⟨_, _, rfl⟩ (by decide) (by decide) rfl rfl (Nat.le_of_ble_eq_true rfl) ?_
        refine r_goto 45 dX8_roll_34 rfl ?_
        refine r_iret rfl dX8_roll_45 ?_
        exact ⟨by unfold q_roll; (repeat (first | rfl | (rw [if_pos (by omega)]) | (rw [if_neg (by omega)]))), rfl⟩
    · skip
      refine i_const dX8_roll_20 ?_
      refine r_iret rfl dX8_roll_21 ?_
      exact ⟨by unfold q_roll; (repeat (first | rfl | (rw [if_pos (by omega)]) | (rw [if_neg (by omega)]))), rfl⟩
  · have e4 := ob_df q4
    refine i_bipush dX8_roll_7 (by decide) ?_
    refine r_iret rfl dX8_roll_9 ?_
    exact ⟨by unfold q_roll; (repeat (first | rfl | (rw [if_pos (by omega)]) | (rw [if_neg (by omega)]))), rfl⟩

set_option maxRecDepth 20000 in
theorem c_high (M σ : rl_S) (c : IC M σ) (hw : WF M) (t : Int) (ht : -2147483648 ≤ t ∧ t < 2147483648) : Ct cW mX8_high [.ref 0, .int (iI t)] σ (pR (.int (iI (q_high M t))) σ) := by
  refine Ct.of plX8 (Nat.le_of_ble_eq_true rfl) ?_
  obtain ⟨gt, gs, gp, gg, gn, gh1, gf⟩ := id c
  have hb := wf_hb hw
  have hh := gs.2.2.2.2
  have ob1 := ob_bd (decide (0 ≤ t ∧ t ≤ 399))
  refine r_iload_n dX8_high_0 rfl ?_
  refine i_csP (c_isTenth σ t ht) lmX8_122 dX8_high_1 (by decide) (by decide) rfl rfl (Nat.le_of_ble_eq_true rfl) ?_
  refine i_if_eq 18 dX8_high_4 rfl ⟨by omega, by omega⟩ (fun q4 => ?_) (fun q4 => ?_)
  · have e4 := ob_df q4
    refine i_bipush dX8_high_18 (by decide) ?_
    refine r_iret rfl dX8_high_20 ?_
    exact ⟨by unfold q_high; (repeat (first | rfl | (rw [if_pos (by omega)]) | (rw [if_neg (by omega)]))), rfl⟩
  · have e4 := ob_dt q4
    refine r_aload_n dX8_high_7 rfl ?_
    refine r_get (k := 0) lfX8_26 dX8_high_8 (Nat.le_of_ble_eq_true rfl) rfl rfl ?_
    refine r_iload_n dX8_high_11 rfl ?_
    refine i_cvP (c_heightAt σ (hi M) hh hb t (by omega) (by omega)) lmX8_144 dX8_high_12 (Nat.le_of_ble_eq_true rfl) rfl ⟨_, _, rfl⟩ (by decide) (by decide) rfl rfl (Nat.le_of_ble_eq_true rfl) ?_
    refine r_goto 20 dX8_high_15 rfl ?_
    refine r_iret rfl dX8_high_20 ?_
    exact ⟨by unfold q_high; (repeat (first | rfl | (rw [if_pos (by omega)]) | (rw [if_neg (by omega)]))), rfl⟩

set_option maxRecDepth 20000 in
theorem c_does (M σ : rl_S) (c : IC M σ) (hw : WF M) (t : Int) (ht : -2147483648 ≤ t ∧ t < 2147483648) : Ct cW mX8_does [.ref 0, .int (iI t)] σ (pR (.int (iI (q_does M t))) σ) := by
  refine Ct.of plX8 (Nat.le_of_ble_eq_true rfl) ?_
  obtain ⟨gt, gs, gp, gg, gn, gh1, gf⟩ := id c
  have hb := wf_hb hw
  have hh := gs.2.2.2.2
  have ob1 := ob_bd (decide (0 ≤ t ∧ t ≤ 399))
  refine r_iload_n dX8_does_0 rfl ?_
  refine i_csP (c_isTenth σ t ht) lmX8_122 dX8_does_1 (by decide) (by decide) rfl rfl (Nat.le_of_ble_eq_true rfl) ?_
  refine i_if_eq 18 dX8_does_4 rfl ⟨by omega, by omega⟩ (fun q4 => ?_) (fun q4 => ?_)
  · have e4 := ob_df q4
    refine i_bipush dX8_does_18 (by decide) ?_
    refine r_iret rfl dX8_does_20 ?_
    exact ⟨by unfold q_does; (repeat (first | rfl | (rw [if_pos (by omega)]) | (rw [if_neg (by omega)]))), rfl⟩
  · have e4 := ob_dt q4
    refine r_aload_n dX8_does_7 rfl ?_
    refine r_get (k := 0) lfX8_26 dX8_does_8 (Nat.le_of_ble_eq_true rfl) rfl rfl ?_
    refine r_iload_n dX8_does_11 rfl ?_
    refine i_cvP (c_moveAt σ (hi M) hh hb t (by omega) (by omega)) lmX8_147 dX8_does_12 (Nat.le_of_ble_eq_true rfl) rfl ⟨_, _, rfl⟩ (by decide) (by decide) rfl rfl (Nat.le_of_ble_eq_true rfl) ?_
    refine r_goto 20 dX8_does_15 rfl ?_
    refine r_iret rfl dX8_does_20 ?_
    exact ⟨by unfold q_does; (repeat (first | rfl | (rw [if_pos (by omega)]) | (rw [if_neg (by omega)]))), rfl⟩

set_option maxRecDepth 20000 in
theorem c_seventh (M σ : rl_S) (c : IC M σ) (hw : WF M) (t : Int) (ht : -2147483648 ≤ t ∧ t < 2147483648) : Ct cW mX8_seventh [.ref 0, .int (iI t)] σ (pR (.int (iI (q_seventh M t))) σ) := by
  refine Ct.of plX8 (Nat.le_of_ble_eq_true rfl) ?_
  obtain ⟨gt, gs, gp, gg, gn, gh1, gf⟩ := id c
  have hb := wf_hb hw
  have hh := gs.2.2.2.2
  have ob1 := ob_bd (decide (0 ≤ t ∧ t ≤ 399))
  refine r_iload_n dX8_seventh_0 rfl ?_
  refine i_csP (c_isTenth σ t ht) lmX8_122 dX8_seventh_1 (by decide) (by decide) rfl rfl (Nat.le_of_ble_eq_true rfl) ?_
  refine i_if_eq 18 dX8_seventh_4 rfl ⟨by omega, by omega⟩ (fun q4 => ?_) (fun q4 => ?_)
  · have e4 := ob_df q4
    refine i_bipush dX8_seventh_18 (by decide) ?_
    refine r_iret rfl dX8_seventh_20 ?_
    exact ⟨by unfold q_seventh; (repeat (first | rfl | (rw [if_pos (by omega)]) | (rw [if_neg (by omega)]))), rfl⟩
  · have e4 := ob_dt q4
    refine r_aload_n dX8_seventh_7 rfl ?_
    refine r_get (k := 0) lfX8_26 dX8_seventh_8 (Nat.le_of_ble_eq_true rfl) rfl rfl ?_
    refine r_iload_n dX8_seventh_11 rfl ?_
    refine i_cvP (c_highest σ (hi M) hh hb t (by omega) (by omega)) lmX8_157 dX8_seventh_12 (Nat.le_of_ble_eq_true rfl) rfl ⟨_, _, rfl⟩ (by decide) (by decide) rfl rfl (Nat.le_of_ble_eq_true rfl) ?_
    refine r_goto 20 dX8_seventh_15 rfl ?_
    refine r_iret rfl dX8_seventh_20 ?_
    exact ⟨by unfold q_seventh; (repeat (first | rfl | (rw [if_pos (by omega)]) | (rw [if_neg (by omega)]))), rfl⟩

set_option maxRecDepth 20000 in
theorem c_leans (M σ : rl_S) (c : IC M σ) (hw : WF M) (t : Int) (ht : -2147483648 ≤ t ∧ t < 2147483648) : Ct cW mX8_leans [.ref 0, .int (iI t)] σ (pR (.int (iI (q_leans M t))) σ) := by
  refine Ct.of plX8 (Nat.le_of_ble_eq_true rfl) ?_
  obtain ⟨gt, gs, gp, gg, gn, gh1, gf⟩ := id c
  have hb := wf_hb hw
  have hh := gs.2.2.2.2
  have ob1 := ob_bd (decide (0 ≤ t ∧ t ≤ 399))
  have cp := ic_cp c hw
  refine r_iload_n dX8_leans_0 rfl ?_
  refine i_csP (c_isTenth σ t ht) lmX8_122 dX8_leans_1 (by decide) (by decide) rfl rfl (Nat.le_of_ble_eq_true rfl) ?_
  refine i_if_eq 18 dX8_leans_4 rfl ⟨by omega, by omega⟩ (fun q4 => ?_) (fun q4 => ?_)
  · have e4 := ob_df q4
    refine i_bipush dX8_leans_18 (by decide) ?_
    refine r_iret rfl dX8_leans_20 ?_
    exact ⟨by unfold q_leans; first | (rw [if_pos (by omega), gp.1, gp.2]; rfl) | (rw [if_neg (by omega)]), rfl⟩
  · have e4 := ob_dt q4
    refine r_aload_n dX8_leans_7 rfl ?_
    refine r_get (k := 0) lfX8_33 dX8_leans_8 (Nat.le_of_ble_eq_true rfl) rfl rfl ?_
    refine r_iload_n dX8_leans_11 rfl ?_
    refine i_cvP (c_leanAt σ cp.2.2.1 cp.2.2.2.1 t (by omega) (by omega)) lmX8_150 dX8_leans_12 (Nat.le_of_ble_eq_true rfl) rfl ⟨_, _, rfl⟩ (by decide) (by decide) rfl rfl (Nat.le_of_ble_eq_true rfl) ?_
    refine r_goto 20 dX8_leans_15 rfl ?_
    refine r_iret rfl dX8_leans_20 ?_
    exact ⟨by unfold q_leans; first | (rw [if_pos (by omega), gp.1, gp.2]; rfl) | (rw [if_neg (by omega)]), rfl⟩

set_option maxRecDepth 20000 in
theorem c_crest (M σ : rl_S) (c : IC M σ) (hw : WF M) (t k : Int) (ht : -2147483648 ≤ t ∧ t < 2147483648) (hk : -2147483648 ≤ k ∧ k < 2147483648) : Ct cW mX8_crest [.ref 0, .int (iI t), .int (iI k)] σ (pR (.int (iI (q_crest M t k))) σ) := by
  refine Ct.of plX8 (Nat.le_of_ble_eq_true rfl) ?_
  obtain ⟨gt, gs, gp, gg, gn, gh1, gf⟩ := id c
  have hb := wf_hb hw
  have hh := gs.2.2.2.2
  have ob1 := ob_bd (decide (0 ≤ t ∧ t ≤ 399))
  refine r_iload_n dX8_crest_0 rfl ?_
  refine i_csP (c_isTenth σ t ht) lmX8_122 dX8_crest_1 (by decide) (by decide) rfl rfl (Nat.le_of_ble_eq_true rfl) ?_
  refine i_if_eq 18 dX8_crest_4 rfl ⟨by omega, by omega⟩ (fun q4 => ?_) (fun q4 => ?_)
  · have e4 := ob_df q4
    refine i_bipush dX8_crest_18 (by decide) ?_
    refine r_iret rfl dX8_crest_20 ?_
    exact ⟨by unfold q_crest; (repeat (first | rfl | (rw [if_pos (by omega)]) | (rw [if_neg (by omega)]))), rfl⟩
  · have e4 := ob_dt q4
    refine r_iload_n dX8_crest_7 rfl ?_
    refine i_const dX8_crest_8 ?_
    refine i_icmp_lt 18 dX8_crest_9 rfl ⟨by omega, by omega⟩ ⟨by omega, by omega⟩ (fun q9 => ?_) (fun q9 => ?_)
    · skip
      refine i_bipush dX8_crest_18 (by decide) ?_
      refine r_iret rfl dX8_crest_20 ?_
      exact ⟨by unfold q_crest; (repeat (first | rfl | (rw [if_pos (by omega)]) | (rw [if_neg (by omega)]))), rfl⟩
    · skip
      refine r_iload_n dX8_crest_12 rfl ?_
      refine i_bipush dX8_crest_13 (by decide) ?_
      refine i_icmp_le 21 dX8_crest_15 rfl ⟨by omega, by omega⟩ ⟨by omega, by omega⟩ (fun q15 => ?_) (fun q15 => ?_)
      · skip
        refine r_aload_n dX8_crest_21 rfl ?_
        refine r_get (k := 0) lfX8_26 dX8_crest_22 (Nat.le_of_ble_eq_true rfl) rfl rfl ?_
        refine r_iload_n dX8_crest_25 rfl ?_
        refine r_iload_n dX8_crest_26 rfl ?_
        refine i_cvP (c_crestFrom σ (hi M) hh hb t k (by omega) (by omega) (by omega)) lmX8_153 dX8_crest_27 (Nat.le_of_ble_eq_true rfl) rfl ⟨_, _, rfl⟩ (by decide) (by decide) rfl rfl (Nat.le_of_ble_eq_true rfl) ?_
        refine r_iret rfl dX8_crest_30 ?_
        exact ⟨by unfold q_crest; (repeat (first | rfl | (rw [if_pos (by omega)]) | (rw [if_neg (by omega)]))), rfl⟩
      · skip
        refine i_bipush dX8_crest_18 (by decide) ?_
        refine r_iret rfl dX8_crest_20 ?_
        exact ⟨by unfold q_crest; (repeat (first | rfl | (rw [if_pos (by omega)]) | (rw [if_neg (by omega)]))), rfl⟩

set_option maxRecDepth 20000 in
theorem c_lull (M σ : rl_S) (c : IC M σ) (hw : WF M) (t m w : Int) (ht : -2147483648 ≤ t ∧ t < 2147483648) (hm : -2147483648 ≤ m ∧ m < 2147483648) (hw2 : -2147483648 ≤ w ∧ w < 2147483648) : Ct cW mX8_lull [.ref 0, .int (iI t), .int (iI m), .int (iI w)] σ (qI (fun z σ' => z = q_lull M t m w ∧ σ' = σ)) := by
  refine Ct.of plX8 (Nat.le_of_ble_eq_true rfl) ?_
  obtain ⟨gt, gs, gp, gg, gn, gh1, gf⟩ := id c
  have hb := wf_hb hw
  have hh := gs.2.2.2.2
  have ob1 := ob_bd (decide (0 ≤ t ∧ t ≤ 399))
  have ob2 := ob_bd (decide (1 ≤ m ∧ m ≤ 100))
  have ob3 := ob_bd (decide (w = 0 ∨ w = 1))
  refine r_iload_n dX8_lull_0 rfl ?_
  refine i_csP (c_isTenth σ t ht) lmX8_122 dX8_lull_1 (by decide) (by decide) rfl rfl (Nat.le_of_ble_eq_true rfl) ?_
  refine i_if_eq 21 dX8_lull_4 rfl ⟨by omega, by omega⟩ (fun q4 => ?_) (fun q4 => ?_)
  · have e4 := ob_df q4
    refine i_bipush dX8_lull_21 (by decide) ?_
    refine r_iret rfl dX8_lull_23 ?_
    exact ⟨_, rfl, by unfold q_lull; (repeat (first | rfl | omega | (rw [if_pos (by omega)]) | (rw [if_neg (by omega)]))), rfl⟩
  · have e4 := ob_dt q4
    refine r_iload_n dX8_lull_7 rfl ?_
    refine i_csP (c_isSpan σ m hm) lmX8_160 dX8_lull_8 (by decide) (by decide) rfl rfl (Nat.le_of_ble_eq_true rfl) ?_
    refine i_if_eq 21 dX8_lull_11 rfl ⟨by omega, by omega⟩ (fun q11 => ?_) (fun q11 => ?_)
    · have e11 := ob_df q11
      refine i_bipush dX8_lull_21 (by decide) ?_
      refine r_iret rfl dX8_lull_23 ?_
      exact ⟨_, rfl, by unfold q_lull; (repeat (first | rfl | omega | (rw [if_pos (by omega)]) | (rw [if_neg (by omega)]))), rfl⟩
    · have e11 := ob_dt q11
      refine r_iload_n dX8_lull_14 rfl ?_
      refine i_csP (c_isEither σ w hw2) lmX8_103 dX8_lull_15 (by decide) (by decide) rfl rfl (Nat.le_of_ble_eq_true rfl) ?_
      refine i_if_ne 24 dX8_lull_18 rfl ⟨by omega, by omega⟩ (fun q18 => ?_) (fun q18 => ?_)
      · have e18 := ob_dt q18
        refine r_aload_n dX8_lull_24 rfl ?_
        refine r_get (k := 0) lfX8_26 dX8_lull_25 (Nat.le_of_ble_eq_true rfl) rfl rfl ?_
        refine r_iload_n dX8_lull_28 rfl ?_
        refine r_iload_n dX8_lull_29 rfl ?_
        have l1 := lu_1 (fun x => spr (hi M) (m - 1).toNat x) t (by omega) (401 - m - t).toNat t (-1) (-1) (Or.inl rfl) (by omega)
        have l2 := lu_2 (fun x => spr (hi M) (m - 1).toNat x) (401 - m - t).toNat t (-1) (-1) (Or.inl ⟨rfl, rfl⟩) (by omega)
        change ((luM M t m).1 = -1 ∨ _) at l1
        change ((luM M t m).1 = -1 ∧ (luM M t m).2 = -1) ∨ ((luM M t m).1 ≠ -1 ∧ (luM M t m).2 = spr (hi M) (m - 1).toNat (luM M t m).1) at l2
        have l3 : (luM M t m).1 = -1 ∨ (t ≤ (luM M t m).1 ∧ (luM M t m).1 < t + ((401 - m - t).toNat : Nat)) := l1
        refine i_cvP (c_lullFrom σ (hi M) hh hb t m (by omega) (by omega) (by omega)) lmX8_163 dX8_lull_30 (Nat.le_of_ble_eq_true rfl) rfl ⟨_, _, rfl⟩ (by decide) (by decide) rfl rfl (Nat.le_of_ble_eq_true rfl) ?_
        change Rn cW mX8_lull 33 _ [.int (iI (luM M t m).1)] σ _
        refine r_istore dX8_lull_33 (Nat.le_of_ble_eq_true rfl) ?_
        refine r_iload dX8_lull_35 rfl ?_
        refine i_const dX8_lull_37 ?_
        refine i_icmp_eq 45 dX8_lull_38 rfl ⟨by omega, by omega⟩ ⟨by omega, by omega⟩ (fun q38 => ?_) (fun q38 => ?_)
        · skip
          refine r_iload dX8_lull_45 rfl ?_
          refine r_iret rfl dX8_lull_47 ?_
          exact ⟨_, rfl, by unfold q_lull; (repeat (first | rfl | omega | (rw [if_pos (by omega)]) | (rw [if_neg (by omega)]))), rfl⟩
        · skip
          refine r_iload_n dX8_lull_41 rfl ?_
          refine i_if_ne 48 dX8_lull_42 rfl ⟨by omega, by omega⟩ (fun q42 => ?_) (fun q42 => ?_)
          · skip
            refine r_aload_n dX8_lull_48 rfl ?_
            refine r_get (k := 0) lfX8_26 dX8_lull_49 (Nat.le_of_ble_eq_true rfl) rfl rfl ?_
            refine r_iload dX8_lull_52 rfl ?_
            refine r_iload_n dX8_lull_54 rfl ?_
            refine i_ldc lcX8_166 dX8_lull_55 ?_
            rw [show (2147483647 : Int32).toInt = 2147483647 from by decide]
            refine i_cvI (c_spread σ (hi M) hh hb (luM M t m).1 m 2147483647 (by omega) (by omega) (by omega) (by decide)) lmX8_167 dX8_lull_57 (Nat.le_of_ble_eq_true rfl) rfl ⟨_, _, rfl⟩ (by decide) (by decide) rfl rfl (Nat.le_of_ble_eq_true rfl) (fun s1 σ1 hs => ?_)
            obtain ⟨s0, s2, s3, s4, rfl⟩ := hs
            refine r_iret rfl dX8_lull_60 ?_
            exact ⟨_, rfl, by unfold q_lull; (repeat (first | rfl | omega | (rw [if_pos (by omega)]) | (rw [if_neg (by omega)]))), rfl⟩
          · skip
            refine r_iload dX8_lull_45 rfl ?_
            refine r_iret rfl dX8_lull_47 ?_
            exact ⟨_, rfl, by unfold q_lull; (repeat (first | rfl | omega | (rw [if_pos (by omega)]) | (rw [if_neg (by omega)]))), rfl⟩
      · have e18 := ob_df q18
        refine i_bipush dX8_lull_21 (by decide) ?_
        refine r_iret rfl dX8_lull_23 ?_
        exact ⟨_, rfl, by unfold q_lull; (repeat (first | rfl | omega | (rw [if_pos (by omega)]) | (rw [if_neg (by omega)]))), rfl⟩

set_option maxRecDepth 20000 in
theorem c_stepAt (M σ : rl_S) (c : IC M σ) (hw : WF M) (t : Int) (t0 : 0 ≤ t) (t1 : t < 400) : Ct cW mX8_stepAt [.ref 0, .int (iI t)] σ (pR (.int (iI (stp M t))) σ) := by
  refine Ct.of plX8 (Nat.le_of_ble_eq_true rfl) ?_
  obtain ⟨gt, gs, gp, gg, gn, gh1, gf⟩ := id c
  have hb := wf_hb hw
  have hh := gs.2.2.2.2
  have st := wf_set hw
  have g0 : σ 15 0 = M 6 0 := gg 0 (by decide)
  have g3 : σ 15 3 = M 6 3 := gg 3 (by decide)
  have hbt := hb t t0 t1
  have hm := mv_bd (hi M) t
  refine r_aload_n dX8_stepAt_0 rfl ?_
  refine r_get (k := 0) lfX8_40 dX8_stepAt_1 (Nat.le_of_ble_eq_true rfl) rfl rfl ?_
  refine i_const dX8_stepAt_4 ?_
  refine i_cvP (c_of σ 0 (by decide) (by decide)) lmX8_138 dX8_stepAt_5 (Nat.le_of_ble_eq_true rfl) rfl ⟨_, _, rfl⟩ (by decide) (by decide) rfl rfl (Nat.le_of_ble_eq_true rfl) ?_
  rw [show (0 : Int).toNat = 0 from rfl, g0]
  refine r_aload_n dX8_stepAt_8 rfl ?_
  refine r_get (k := 0) lfX8_26 dX8_stepAt_9 (Nat.le_of_ble_eq_true rfl) rfl rfl ?_
  refine r_iload_n dX8_stepAt_12 rfl ?_
  refine i_cvP (c_heightAt σ (hi M) hh hb t (by omega) (by omega)) lmX8_144 dX8_stepAt_13 (Nat.le_of_ble_eq_true rfl) rfl ⟨_, _, rfl⟩ (by decide) (by decide) rfl rfl (Nat.le_of_ble_eq_true rfl) ?_
  refine i_isub dX8_stepAt_16 ?_
  refine r_aload_n dX8_stepAt_17 rfl ?_
  refine r_get (k := 0) lfX8_40 dX8_stepAt_18 (Nat.le_of_ble_eq_true rfl) rfl rfl ?_
  refine i_const dX8_stepAt_21 ?_
  refine i_cvP (c_of σ 3 (by decide) (by decide)) lmX8_138 dX8_stepAt_22 (Nat.le_of_ble_eq_true rfl) rfl ⟨_, _, rfl⟩ (by decide) (by decide) rfl rfl (Nat.le_of_ble_eq_true rfl) ?_
  rw [show (3 : Int).toNat = 3 from rfl, g3]
  refine i_icmp_le 30 dX8_stepAt_25 rfl ⟨by omega, by omega⟩ ⟨by omega, by omega⟩ (fun q25 => ?_) (fun q25 => ?_)
  · skip
    refine r_aload_n dX8_stepAt_30 rfl ?_
    refine r_get (k := 0) lfX8_26 dX8_stepAt_31 (Nat.le_of_ble_eq_true rfl) rfl rfl ?_
    refine r_iload_n dX8_stepAt_34 rfl ?_
    refine i_cvP (c_moveAt σ (hi M) hh hb t (by omega) (by omega)) lmX8_147 dX8_stepAt_35 (Nat.le_of_ble_eq_true rfl) rfl ⟨_, _, rfl⟩ (by decide) (by decide) rfl rfl (Nat.le_of_ble_eq_true rfl) ?_
    rcases (show mv (hi M) t = 0 ∨ mv (hi M) t = 1 ∨ mv (hi M) t = 2 ∨ mv (hi M) t = 3 by omega) with e | e | e | e
    · refine r_tableOut 70 dX8_stepAt_38 (Or.inl (by rw [e]; decide)) rfl ?_
      refine i_const dX8_stepAt_70 ?_
      refine r_iret rfl dX8_stepAt_71 ?_
      exact ⟨by unfold stp; rw [if_neg (by omega), e], rfl⟩
    · refine r_tableIn 64 dX8_stepAt_38 (by rw [e]; decide) (by rw [e]; decide) (by rw [e]; rfl) rfl ?_
      refine i_const dX8_stepAt_64 ?_
      refine r_iret rfl dX8_stepAt_65 ?_
      exact ⟨by unfold stp; rw [if_neg (by omega), e], rfl⟩
    · refine r_tableIn 66 dX8_stepAt_38 (by rw [e]; decide) (by rw [e]; decide) (by rw [e]; rfl) rfl ?_
      refine i_const dX8_stepAt_66 ?_
      refine r_iret rfl dX8_stepAt_67 ?_
      exact ⟨by unfold stp; rw [if_neg (by omega), e], rfl⟩
    · refine r_tableIn 68 dX8_stepAt_38 (by rw [e]; decide) (by rw [e]; decide) (by rw [e]; rfl) rfl ?_
      refine i_const dX8_stepAt_68 ?_
      refine r_iret rfl dX8_stepAt_69 ?_
      exact ⟨by unfold stp; rw [if_neg (by omega), e], rfl⟩
    
  · skip
    refine i_const dX8_stepAt_28 ?_
    refine r_iret rfl dX8_stepAt_29 ?_
    exact ⟨by unfold stp; rw [if_pos (by omega)], rfl⟩

set_option maxRecDepth 20000 in
theorem c_odds (M σ : rl_S) (c : IC M σ) (hw : WF M) (t : Int) (t0 : 0 ≤ t) (t1 : t < 400) : Ct cW mX8_oddsToFall [.ref 0, .int (iI t)] σ (pR (.int (iI (fll M t))) σ) := by
  refine Ct.of plX8 (Nat.le_of_ble_eq_true rfl) ?_
  obtain ⟨gt, gs, gp, gg, gn, gh1, gf⟩ := id c
  have hb := wf_hb hw
  have hh := gs.2.2.2.2
  have st := wf_set hw
  have sb := stp_bd M t
  refine r_aload_n dX8_oddsToFall_0 rfl ?_
  refine r_iload_n dX8_oddsToFall_1 rfl ?_
  refine i_cvP (c_stepAt M σ c hw t t0 t1) lmX8_171 dX8_oddsToFall_2 (Nat.le_of_ble_eq_true rfl) rfl ⟨_, _, rfl⟩ (by decide) (by decide) rfl rfl (Nat.le_of_ble_eq_true rfl) ?_
  rcases (show stp M t = 0 ∨ stp M t = 1 ∨ stp M t = 2 ∨ stp M t = 3 ∨ stp M t = 4 by omega) with e | e | e | e | e
  · refine r_tableOut 76 dX8_oddsToFall_5 (Or.inl (by rw [e]; decide)) rfl ?_
    refine r_aload_n dX8_oddsToFall_76 rfl ?_
    refine r_get (k := 0) lfX8_40 dX8_oddsToFall_77 (Nat.le_of_ble_eq_true rfl) rfl rfl ?_
    refine i_bipush dX8_oddsToFall_80 (by decide) ?_
    refine i_cvP (c_of σ 7 (by decide) (by decide)) lmX8_138 dX8_oddsToFall_82 (Nat.le_of_ble_eq_true rfl) rfl ⟨_, _, rfl⟩ (by decide) (by decide) rfl rfl (Nat.le_of_ble_eq_true rfl) ?_
    rw [show (7 : Int).toNat = 7 from rfl, gg 7 (by decide)]
    refine r_istore_n dX8_oddsToFall_85 (Nat.le_of_ble_eq_true rfl) ?_
    refine i_bipush dX8_oddsToFall_86 (by decide) ?_
    refine r_iload_n dX8_oddsToFall_88 rfl ?_
    refine r_aload_n dX8_oddsToFall_89 rfl ?_
    refine r_get (k := 0) lfX8_40 dX8_oddsToFall_90 (Nat.le_of_ble_eq_true rfl) rfl rfl ?_
    refine i_bipush dX8_oddsToFall_93 (by decide) ?_
    refine i_cvP (c_of σ 9 (by decide) (by decide)) lmX8_138 dX8_oddsToFall_95 (Nat.le_of_ble_eq_true rfl) rfl ⟨_, _, rfl⟩ (by decide) (by decide) rfl rfl (Nat.le_of_ble_eq_true rfl) ?_
    rw [show (9 : Int).toNat = 9 from rfl, gg 9 (by decide)]
    refine i_iadd dX8_oddsToFall_98 ?_
    refine i_mmin lmX8_212 dX8_oddsToFall_99 (by decide) (Nat.le_of_ble_eq_true rfl) ⟨by omega, by omega⟩ ⟨by omega, by omega⟩ ?_
    refine r_iret rfl dX8_oddsToFall_102 ?_
    exact ⟨by unfold fll; rw [e]; rfl, rfl⟩
  · refine r_tableIn 39 dX8_oddsToFall_5 (by rw [e]; decide) (by rw [e]; decide) (by rw [e]; rfl) rfl ?_
    refine r_aload_n dX8_oddsToFall_39 rfl ?_
    refine r_get (k := 0) lfX8_40 dX8_oddsToFall_40 (Nat.le_of_ble_eq_true rfl) rfl rfl ?_
    refine i_const dX8_oddsToFall_43 ?_
    refine i_cvP (c_of σ 4 (by decide) (by decide)) lmX8_138 dX8_oddsToFall_44 (Nat.le_of_ble_eq_true rfl) rfl ⟨_, _, rfl⟩ (by decide) (by decide) rfl rfl (Nat.le_of_ble_eq_true rfl) ?_
    rw [show (4 : Int).toNat = 4 from rfl, gg 4 (by decide)]
    refine r_istore_n dX8_oddsToFall_47 (Nat.le_of_ble_eq_true rfl) ?_
    refine r_goto 86 dX8_oddsToFall_48 rfl ?_
    refine i_bipush dX8_oddsToFall_86 (by decide) ?_
    refine r_iload_n dX8_oddsToFall_88 rfl ?_
    refine r_aload_n dX8_oddsToFall_89 rfl ?_
    refine r_get (k := 0) lfX8_40 dX8_oddsToFall_90 (Nat.le_of_ble_eq_true rfl) rfl rfl ?_
    refine i_bipush dX8_oddsToFall_93 (by decide) ?_
    refine i_cvP (c_of σ 9 (by decide) (by decide)) lmX8_138 dX8_oddsToFall_95 (Nat.le_of_ble_eq_true rfl) rfl ⟨_, _, rfl⟩ (by decide) (by decide) rfl rfl (Nat.le_of_ble_eq_true rfl) ?_
    rw [show (9 : Int).toNat = 9 from rfl, gg 9 (by decide)]
    refine i_iadd dX8_oddsToFall_98 ?_
    refine i_mmin lmX8_212 dX8_oddsToFall_99 (by decide) (Nat.le_of_ble_eq_true rfl) ⟨by omega, by omega⟩ ⟨by omega, by omega⟩ ?_
    refine r_iret rfl dX8_oddsToFall_102 ?_
    exact ⟨by unfold fll; rw [e]; rfl, rfl⟩
  · refine r_tableIn 51 dX8_oddsToFall_5 (by rw [e]; decide) (by rw [e]; decide) (by rw [e]; rfl) rfl ?_
    refine r_aload_n dX8_oddsToFall_51 rfl ?_
    refine r_get (k := 0) lfX8_40 dX8_oddsToFall_52 (Nat.le_of_ble_eq_true rfl) rfl rfl ?_
    refine i_const dX8_oddsToFall_55 ?_
    refine i_cvP (c_of σ 5 (by decide) (by decide)) lmX8_138 dX8_oddsToFall_56 (Nat.le_of_ble_eq_true rfl) rfl ⟨_, _, rfl⟩ (by decide) (by decide) rfl rfl (Nat.le_of_ble_eq_true rfl) ?_
    rw [show (5 : Int).toNat = 5 from rfl, gg 5 (by decide)]
    refine r_istore_n dX8_oddsToFall_59 (Nat.le_of_ble_eq_true rfl) ?_
    refine r_goto 86 dX8_oddsToFall_60 rfl ?_
    refine i_bipush dX8_oddsToFall_86 (by decide) ?_
    refine r_iload_n dX8_oddsToFall_88 rfl ?_
    refine r_aload_n dX8_oddsToFall_89 rfl ?_
    refine r_get (k := 0) lfX8_40 dX8_oddsToFall_90 (Nat.le_of_ble_eq_true rfl) rfl rfl ?_
    refine i_bipush dX8_oddsToFall_93 (by decide) ?_
    refine i_cvP (c_of σ 9 (by decide) (by decide)) lmX8_138 dX8_oddsToFall_95 (Nat.le_of_ble_eq_true rfl) rfl ⟨_, _, rfl⟩ (by decide) (by decide) rfl rfl (Nat.le_of_ble_eq_true rfl) ?_
    rw [show (9 : Int).toNat = 9 from rfl, gg 9 (by decide)]
    refine i_iadd dX8_oddsToFall_98 ?_
    refine i_mmin lmX8_212 dX8_oddsToFall_99 (by decide) (Nat.le_of_ble_eq_true rfl) ⟨by omega, by omega⟩ ⟨by omega, by omega⟩ ?_
    refine r_iret rfl dX8_oddsToFall_102 ?_
    exact ⟨by unfold fll; rw [e]; rfl, rfl⟩
  · refine r_tableIn 63 dX8_oddsToFall_5 (by rw [e]; decide) (by rw [e]; decide) (by rw [e]; rfl) rfl ?_
    refine r_aload_n dX8_oddsToFall_63 rfl ?_
    refine r_get (k := 0) lfX8_40 dX8_oddsToFall_64 (Nat.le_of_ble_eq_true rfl) rfl rfl ?_
    refine i_bipush dX8_oddsToFall_67 (by decide) ?_
    refine i_cvP (c_of σ 6 (by decide) (by decide)) lmX8_138 dX8_oddsToFall_69 (Nat.le_of_ble_eq_true rfl) rfl ⟨_, _, rfl⟩ (by decide) (by decide) rfl rfl (Nat.le_of_ble_eq_true rfl) ?_
    rw [show (6 : Int).toNat = 6 from rfl, gg 6 (by decide)]
    refine r_istore_n dX8_oddsToFall_72 (Nat.le_of_ble_eq_true rfl) ?_
    refine r_goto 86 dX8_oddsToFall_73 rfl ?_
    refine i_bipush dX8_oddsToFall_86 (by decide) ?_
    refine r_iload_n dX8_oddsToFall_88 rfl ?_
    refine r_aload_n dX8_oddsToFall_89 rfl ?_
    refine r_get (k := 0) lfX8_40 dX8_oddsToFall_90 (Nat.le_of_ble_eq_true rfl) rfl rfl ?_
    refine i_bipush dX8_oddsToFall_93 (by decide) ?_
    refine i_cvP (c_of σ 9 (by decide) (by decide)) lmX8_138 dX8_oddsToFall_95 (Nat.le_of_ble_eq_true rfl) rfl ⟨_, _, rfl⟩ (by decide) (by decide) rfl rfl (Nat.le_of_ble_eq_true rfl) ?_
    rw [show (9 : Int).toNat = 9 from rfl, gg 9 (by decide)]
    refine i_iadd dX8_oddsToFall_98 ?_
    refine i_mmin lmX8_212 dX8_oddsToFall_99 (by decide) (Nat.le_of_ble_eq_true rfl) ⟨by omega, by omega⟩ ⟨by omega, by omega⟩ ?_
    refine r_iret rfl dX8_oddsToFall_102 ?_
    exact ⟨by unfold fll; rw [e]; rfl, rfl⟩
  · refine r_tableIn 36 dX8_oddsToFall_5 (by rw [e]; decide) (by rw [e]; decide) (by rw [e]; rfl) rfl ?_
    refine i_bipush dX8_oddsToFall_36 (by decide) ?_
    refine r_iret rfl dX8_oddsToFall_38 ?_
    exact ⟨by unfold fll; rw [e]; rfl, rfl⟩
  

set_option maxRecDepth 20000 in
theorem c_step (M σ : rl_S) (c : IC M σ) (hw : WF M) (t : Int) (ht : -2147483648 ≤ t ∧ t < 2147483648) : Ct cW mX8_step [.ref 0, .int (iI t)] σ (pR (.int (iI (q_step M t))) σ) := by
  refine Ct.of plX8 (Nat.le_of_ble_eq_true rfl) ?_
  have ob1 := ob_bd (decide (0 ≤ t ∧ t ≤ 399))
  refine r_iload_n dX8_step_0 rfl ?_
  refine i_csP (c_isTenth σ t ht) lmX8_122 dX8_step_1 (by decide) (by decide) rfl rfl (Nat.le_of_ble_eq_true rfl) ?_
  refine i_if_eq 15 dX8_step_4 rfl ⟨by omega, by omega⟩ (fun q4 => ?_) (fun q4 => ?_)
  · have e4 := ob_df q4
    refine i_bipush dX8_step_15 (by decide) ?_
    refine r_iret rfl dX8_step_17 ?_
    exact ⟨by unfold q_step; (repeat (first | rfl | (rw [if_pos (by omega)]) | (rw [if_neg (by omega)]))), rfl⟩
  · have e4 := ob_dt q4
    refine r_aload_n dX8_step_7 rfl ?_
    refine r_iload_n dX8_step_8 rfl ?_
    refine i_cvP (c_stepAt M σ c hw t (by omega) (by omega)) lmX8_171 dX8_step_9 (Nat.le_of_ble_eq_true rfl) rfl ⟨_, _, rfl⟩ (by decide) (by decide) rfl rfl (Nat.le_of_ble_eq_true rfl) ?_
    refine r_goto 17 dX8_step_12 rfl ?_
    refine r_iret rfl dX8_step_17 ?_
    exact ⟨by unfold q_step; (repeat (first | rfl | (rw [if_pos (by omega)]) | (rw [if_neg (by omega)]))), rfl⟩

set_option maxRecDepth 20000 in
theorem c_fall (M σ : rl_S) (c : IC M σ) (hw : WF M) (t : Int) (ht : -2147483648 ≤ t ∧ t < 2147483648) : Ct cW mX8_fall [.ref 0, .int (iI t)] σ (pR (.int (iI (q_fall M t))) σ) := by
  refine Ct.of plX8 (Nat.le_of_ble_eq_true rfl) ?_
  have ob1 := ob_bd (decide (0 ≤ t ∧ t ≤ 399))
  refine r_iload_n dX8_fall_0 rfl ?_
  refine i_csP (c_isTenth σ t ht) lmX8_122 dX8_fall_1 (by decide) (by decide) rfl rfl (Nat.le_of_ble_eq_true rfl) ?_
  refine i_if_eq 15 dX8_fall_4 rfl ⟨by omega, by omega⟩ (fun q4 => ?_) (fun q4 => ?_)
  · have e4 := ob_df q4
    refine i_bipush dX8_fall_15 (by decide) ?_
    refine r_iret rfl dX8_fall_17 ?_
    exact ⟨by unfold q_fall; (repeat (first | rfl | (rw [if_pos (by omega)]) | (rw [if_neg (by omega)]))), rfl⟩
  · have e4 := ob_dt q4
    refine r_aload_n dX8_fall_7 rfl ?_
    refine r_iload_n dX8_fall_8 rfl ?_
    refine i_cvP (c_odds M σ c hw t (by omega) (by omega)) lmX8_174 dX8_fall_9 (Nat.le_of_ble_eq_true rfl) rfl ⟨_, _, rfl⟩ (by decide) (by decide) rfl rfl (Nat.le_of_ble_eq_true rfl) ?_
    refine r_goto 17 dX8_fall_12 rfl ?_
    refine r_iret rfl dX8_fall_17 ?_
    exact ⟨by unfold q_fall; (repeat (first | rfl | (rw [if_pos (by omega)]) | (rw [if_neg (by omega)]))), rfl⟩

set_option maxRecDepth 20000 in
theorem c_climb (M σ : rl_S) (c : IC M σ) (hw : WF M) (t : Int) (ht : -2147483648 ≤ t ∧ t < 2147483648) : Ct cW mX8_climb [.ref 0, .int (iI t)] σ (qI (fun z σ' => z = q_climb M t ∧ IC M σ')) := by
  refine Ct.of plX8 (Nat.le_of_ble_eq_true rfl) ?_
  have ob1 := ob_bd (decide (0 ≤ t ∧ t ≤ 399))
  refine r_iload_n dX8_climb_0 rfl ?_
  refine i_csP (c_isTenth σ t ht) lmX8_122 dX8_climb_1 (by decide) (by decide) rfl rfl (Nat.le_of_ble_eq_true rfl) ?_
  refine i_if_ne 10 dX8_climb_4 rfl ⟨by omega, by omega⟩ (fun q4 => ?_) (fun q4 => ?_)
  · have e4 := ob_dt q4
    refine r_aload_n dX8_climb_10 rfl ?_
    refine r_get (k := 0) lfX8_49 dX8_climb_11 (Nat.le_of_ble_eq_true rfl) rfl rfl ?_
    refine r_iload_n dX8_climb_14 rfl ?_
    refine i_cvV (c_goFrom σ (hi M) (ic_cp c hw) t (by omega) (by omega)) lmX8_177 dX8_climb_15 (Nat.le_of_ble_eq_true rfl) rfl ⟨_, _, rfl⟩ (by decide) (by decide) rfl rfl (Nat.le_of_ble_eq_true rfl) (fun σ1 hc => ?_)
    refine r_aload_n dX8_climb_18 rfl ?_
    refine r_get (k := 0) lfX8_49 dX8_climb_19 (Nat.le_of_ble_eq_true rfl) rfl rfl ?_
    refine r_get (k := 16) lfX8_180 dX8_climb_22 (Nat.le_of_ble_eq_true rfl) rfl rfl ?_
    refine r_iret rfl dX8_climb_25 ?_
    exact ⟨_, rfl, by rw [hc.1, clF_M c]; unfold q_climb; rw [if_pos (by omega)], ic_k c (fun k i g _ => hc.2.2 k i g)⟩
  · have e4 := ob_df q4
    refine i_bipush dX8_climb_7 (by decide) ?_
    refine r_iret rfl dX8_climb_9 ?_
    exact ⟨_, rfl, by unfold q_climb; rw [if_neg (by omega)], c⟩

set_option maxRecDepth 20000 in
theorem c_bangs (M σ : rl_S) (c : IC M σ) (hw : WF M) (t : Int) (ht : -2147483648 ≤ t ∧ t < 2147483648) : Ct cW mX8_bangs [.ref 0, .int (iI t)] σ (qI (fun z σ' => z = q_bangs M t ∧ IC M σ')) := by
  refine Ct.of plX8 (Nat.le_of_ble_eq_true rfl) ?_
  have ob1 := ob_bd (decide (0 ≤ t ∧ t ≤ 399))
  refine r_iload_n dX8_bangs_0 rfl ?_
  refine i_csP (c_isTenth σ t ht) lmX8_122 dX8_bangs_1 (by decide) (by decide) rfl rfl (Nat.le_of_ble_eq_true rfl) ?_
  refine i_if_ne 10 dX8_bangs_4 rfl ⟨by omega, by omega⟩ (fun q4 => ?_) (fun q4 => ?_)
  · have e4 := ob_dt q4
    refine r_aload_n dX8_bangs_10 rfl ?_
    refine r_get (k := 0) lfX8_49 dX8_bangs_11 (Nat.le_of_ble_eq_true rfl) rfl rfl ?_
    refine r_iload_n dX8_bangs_14 rfl ?_
    refine i_cvV (c_goFrom σ (hi M) (ic_cp c hw) t (by omega) (by omega)) lmX8_177 dX8_bangs_15 (Nat.le_of_ble_eq_true rfl) rfl ⟨_, _, rfl⟩ (by decide) (by decide) rfl rfl (Nat.le_of_ble_eq_true rfl) (fun σ1 hc => ?_)
    refine r_aload_n dX8_bangs_18 rfl ?_
    refine r_get (k := 0) lfX8_49 dX8_bangs_19 (Nat.le_of_ble_eq_true rfl) rfl rfl ?_
    refine r_get (k := 16) lfX8_183 dX8_bangs_22 (Nat.le_of_ble_eq_true rfl) rfl rfl ?_
    refine r_iret rfl dX8_bangs_25 ?_
    exact ⟨_, rfl, by rw [hc.2.1, clF_M c]; unfold q_bangs; rw [if_pos (by omega)], ic_k c (fun k i g _ => hc.2.2 k i g)⟩
  · have e4 := ob_df q4
    refine i_bipush dX8_bangs_7 (by decide) ?_
    refine r_iret rfl dX8_bangs_9 ?_
    exact ⟨_, rfl, by unfold q_bangs; rw [if_neg (by omega)], c⟩

set_option maxRecDepth 20000 in
theorem c_dist (M σ : rl_S) (c : IC M σ) (hw : WF M) (t : Int) (t0 : 0 ≤ t) (t1 : t < 400) : Ct cW mX8_distanceToFoot [.ref 0, .int (iI t)] σ (pR (.int (iI (dst M t))) σ) := by
  refine Ct.of plX8 (Nat.le_of_ble_eq_true rfl) ?_
  obtain ⟨gt, gs, gp, gg, gn, gh1, gf⟩ := id c
  have hb := wf_hb hw
  have hh := gs.2.2.2.2
  have st := wf_set hw
  have hbt := hb t t0 t1
  refine r_aload_n dX8_distanceToFoot_0 rfl ?_
  refine r_get (k := 0) lfX8_26 dX8_distanceToFoot_1 (Nat.le_of_ble_eq_true rfl) rfl rfl ?_
  refine r_iload_n dX8_distanceToFoot_4 rfl ?_
  refine i_cvP (c_heightAt σ (hi M) hh hb t (by omega) (by omega)) lmX8_144 dX8_distanceToFoot_5 (Nat.le_of_ble_eq_true rfl) rfl ⟨_, _, rfl⟩ (by decide) (by decide) rfl rfl (Nat.le_of_ble_eq_true rfl) ?_
  refine r_aload_n dX8_distanceToFoot_8 rfl ?_
  refine r_get (k := 0) lfX8_40 dX8_distanceToFoot_9 (Nat.le_of_ble_eq_true rfl) rfl rfl ?_
  refine i_const dX8_distanceToFoot_12 ?_
  refine i_cvP (c_of σ 0 (by decide) (by decide)) lmX8_138 dX8_distanceToFoot_13 (Nat.le_of_ble_eq_true rfl) rfl ⟨_, _, rfl⟩ (by decide) (by decide) rfl rfl (Nat.le_of_ble_eq_true rfl) ?_
  rw [show (0 : Int).toNat = 0 from rfl, gg 0 (by decide)]
  refine i_isub dX8_distanceToFoot_16 ?_
  refine i_mabs lmX8_366 dX8_distanceToFoot_17 (by decide) (Nat.le_of_ble_eq_true rfl) ⟨by omega, by omega⟩ ?_
  refine r_iret rfl dX8_distanceToFoot_20 ?_
  exact ⟨rfl, rfl⟩

set_option maxRecDepth 20000 in
theorem c_saves (M σ : rl_S) (c : IC M σ) (hw : WF M)  : Ct cW mX8_saves [.ref 0] σ (pR (.int (iI (q_saves M))) σ) := by
  refine Ct.of plX8 (Nat.le_of_ble_eq_true rfl) ?_
  obtain ⟨gt, gs, gp, gg, gn, gh1, gf⟩ := id c
  have hb := wf_hb hw
  have hh := gs.2.2.2.2
  have w7 := (wf_1 hw).1
  have w8 := (wf_1 hw).2
  refine r_aload_n dX8_saves_0 rfl ?_
  refine r_get (k := 0) lfX8_26 dX8_saves_1 (Nat.le_of_ble_eq_true rfl) rfl rfl ?_
  refine i_cvP (c_saved σ (hi M) hh hb (raw M) gs.2.2.2.1 (wf_rb hw) (by rw [gs.2.1]; exact w7) (by rw [gs.2.2.1]; exact w8)) lmX8_205 dX8_saves_4 (Nat.le_of_ble_eq_true rfl) rfl ⟨_, _, rfl⟩ (by decide) (by decide) rfl rfl (Nat.le_of_ble_eq_true rfl) ?_
  refine r_iret rfl dX8_saves_7 ?_
  exact ⟨by unfold q_saves; rw [gs.2.1, gs.2.2.1], rfl⟩

theorem dst_bd {M : rl_S} (hw : WF M) {t : Int} (t0 : 0 ≤ t) (t1 : t < 400) : 0 ≤ dst M t ∧ dst M t ≤ 3000 := by
  have := wf_hb hw t t0 t1
  have := (wf_set hw).1
  unfold dst
  omega
theorem c_down_l (M σ : rl_S) (c : IC M σ) (hw : WF M) (a m w e : Int) (he : e ≤ 400) (hw2 : w = 0 ∨ w = 1) : ∀ (n : Nat) (t b : Int), 0 ≤ t → t + n = e → 0 ≤ b → b < 400 → ∀ z, z = (if w = 0 then dn M n t b else dst M (dn M n t b)) → Rn cW mX8_down 39 [.ref 0, .int (iI a), .int (iI m), .int (iI w), .int (iI b), .int (iI e), .int (iI t)] [] σ (pR (.int (iI z)) σ) := by
  intro n
  induction n with
  | zero =>
    intro t b t0 ht b0 b1 z hz
    refine r_iload dX8_down_39 rfl ?_
    refine r_iload dX8_down_41 rfl ?_
    refine i_icmp_ge 71 dX8_down_43 rfl ⟨by omega, by omega⟩ ⟨by omega, by omega⟩ (fun q43 => ?_) (fun q43 => ?_)
    · skip
      refine r_iload_n dX8_down_71 rfl ?_
      refine i_if_ne 80 dX8_down_72 rfl ⟨by omega, by omega⟩ (fun q72 => ?_) (fun q72 => ?_)
      · skip
        refine r_aload_n dX8_down_80 rfl ?_
        refine r_iload dX8_down_81 rfl ?_
        refine i_cvP (c_dist M σ c hw b b0 b1) lmX8_202 dX8_down_83 (Nat.le_of_ble_eq_true rfl) rfl ⟨_, _, rfl⟩ (by decide) (by decide) rfl rfl (Nat.le_of_ble_eq_true rfl) ?_
        refine r_iret rfl dX8_down_86 ?_
        exact ⟨by rw [hz]; simp only [dn]; first | (rw [if_pos (by omega)]) | (rw [if_neg (by omega)]), rfl⟩
      · skip
        refine r_iload dX8_down_75 rfl ?_
        refine r_goto 86 dX8_down_77 rfl ?_
        refine r_iret rfl dX8_down_86 ?_
        exact ⟨by rw [hz]; simp only [dn]; first | (rw [if_pos (by omega)]) | (rw [if_neg (by omega)]), rfl⟩
    · exfalso
      omega
  | succ n ih =>
    intro t b t0 ht b0 b1 z hz
    have d1 := dst_bd hw (t := t) (by omega) (by omega)
    have d2 := dst_bd hw b0 b1
    simp only [dn] at hz
    refine r_iload dX8_down_39 rfl ?_
    refine r_iload dX8_down_41 rfl ?_
    refine i_icmp_ge 71 dX8_down_43 rfl ⟨by omega, by omega⟩ ⟨by omega, by omega⟩ (fun q43 => ?_) (fun q43 => ?_)
    · exfalso
      omega
    · skip
      refine r_aload_n dX8_down_46 rfl ?_
      refine r_iload dX8_down_47 rfl ?_
      refine i_cvP (c_dist M σ c hw t (by omega) (by omega)) lmX8_202 dX8_down_49 (Nat.le_of_ble_eq_true rfl) rfl ⟨_, _, rfl⟩ (by decide) (by decide) rfl rfl (Nat.le_of_ble_eq_true rfl) ?_
      refine r_aload_n dX8_down_52 rfl ?_
      refine r_iload dX8_down_53 rfl ?_
      refine i_cvP (c_dist M σ c hw b b0 b1) lmX8_202 dX8_down_55 (Nat.le_of_ble_eq_true rfl) rfl ⟨_, _, rfl⟩ (by decide) (by decide) rfl rfl (Nat.le_of_ble_eq_true rfl) ?_
      refine i_icmp_ge 65 dX8_down_58 rfl ⟨by omega, by omega⟩ ⟨by omega, by omega⟩ (fun q58 => ?_) (fun q58 => ?_)
      · skip
        refine i_iinc dX8_down_65 rfl (Nat.le_of_ble_eq_true rfl) ?_
        refine r_goto 39 dX8_down_68 rfl ?_
        first
          | exact ih (t + 1) t (by omega) (by omega) (by omega) (by omega) z (by rw [if_pos (show dst M t < dst M b by omega)] at hz; exact hz)
          | exact ih (t + 1) b (by omega) (by omega) b0 b1 z (by rw [if_neg (show ¬ dst M t < dst M b by omega)] at hz; exact hz)
      · skip
        refine r_iload dX8_down_61 rfl ?_
        refine r_istore dX8_down_63 (Nat.le_of_ble_eq_true rfl) ?_
        refine i_iinc dX8_down_65 rfl (Nat.le_of_ble_eq_true rfl) ?_
        refine r_goto 39 dX8_down_68 rfl ?_
        first
          | exact ih (t + 1) t (by omega) (by omega) (by omega) (by omega) z (by rw [if_pos (show dst M t < dst M b by omega)] at hz; exact hz)
          | exact ih (t + 1) b (by omega) (by omega) b0 b1 z (by rw [if_neg (show ¬ dst M t < dst M b by omega)] at hz; exact hz)

set_option maxRecDepth 20000 in
theorem c_down (M σ : rl_S) (c : IC M σ) (hw : WF M) (t m w : Int) (ht : -2147483648 ≤ t ∧ t < 2147483648) (hm : -2147483648 ≤ m ∧ m < 2147483648) (hw2 : -2147483648 ≤ w ∧ w < 2147483648) : Ct cW mX8_down [.ref 0, .int (iI t), .int (iI m), .int (iI w)] σ (pR (.int (iI (q_down M t m w))) σ) := by
  refine Ct.of plX8 (Nat.le_of_ble_eq_true rfl) ?_
  have ob1 := ob_bd (decide (0 ≤ t ∧ t ≤ 399))
  have ob2 := ob_bd (decide (1 ≤ m ∧ m ≤ 100))
  have ob3 := ob_bd (decide (w = 0 ∨ w = 1))
  refine r_iload_n dX8_down_0 rfl ?_
  refine i_csP (c_isTenth σ t ht) lmX8_122 dX8_down_1 (by decide) (by decide) rfl rfl (Nat.le_of_ble_eq_true rfl) ?_
  refine i_if_eq 21 dX8_down_4 rfl ⟨by omega, by omega⟩ (fun q4 => ?_) (fun q4 => ?_)
  · have e4 := ob_df q4
    refine i_bipush dX8_down_21 (by decide) ?_
    refine r_iret rfl dX8_down_23 ?_
    exact ⟨by unfold q_down; rw [if_neg (by omega)], rfl⟩
  · have e4 := ob_dt q4
    refine r_iload_n dX8_down_7 rfl ?_
    refine i_csP (c_isSpan σ m hm) lmX8_160 dX8_down_8 (by decide) (by decide) rfl rfl (Nat.le_of_ble_eq_true rfl) ?_
    refine i_if_eq 21 dX8_down_11 rfl ⟨by omega, by omega⟩ (fun q11 => ?_) (fun q11 => ?_)
    · have e11 := ob_df q11
      refine i_bipush dX8_down_21 (by decide) ?_
      refine r_iret rfl dX8_down_23 ?_
      exact ⟨by unfold q_down; rw [if_neg (by omega)], rfl⟩
    · have e11 := ob_dt q11
      refine r_iload_n dX8_down_14 rfl ?_
      refine i_csP (c_isEither σ w hw2) lmX8_103 dX8_down_15 (by decide) (by decide) rfl rfl (Nat.le_of_ble_eq_true rfl) ?_
      refine i_if_ne 24 dX8_down_18 rfl ⟨by omega, by omega⟩ (fun q18 => ?_) (fun q18 => ?_)
      · have e18 := ob_dt q18
        refine r_iload_n dX8_down_24 rfl ?_
        refine r_istore dX8_down_25 (Nat.le_of_ble_eq_true rfl) ?_
        refine r_iload_n dX8_down_27 rfl ?_
        refine r_iload_n dX8_down_28 rfl ?_
        refine i_csP (c_spanEnd σ t m (by omega) (by omega)) lmX8_196 dX8_down_29 (by decide) (by decide) rfl rfl (Nat.le_of_ble_eq_true rfl) ?_
        refine r_istore dX8_down_32 (Nat.le_of_ble_eq_true rfl) ?_
        refine r_iload_n dX8_down_34 rfl ?_
        refine i_const dX8_down_35 ?_
        refine i_iadd dX8_down_36 ?_
        refine r_istore dX8_down_37 (Nat.le_of_ble_eq_true rfl) ?_
        exact c_down_l M σ c hw t m w (min 400 (t + m)) (by omega) e18 (min 400 (t + m) - t - 1).toNat (t + 1) t (by omega) (by omega) (by omega) (by omega) _ (by unfold q_down; rw [if_pos (by omega)])
      · have e18 := ob_df q18
        refine i_bipush dX8_down_21 (by decide) ?_
        refine r_iret rfl dX8_down_23 ?_
        exact ⟨by unfold q_down; rw [if_neg (by omega)], rfl⟩

set_option maxRecDepth 20000 in
theorem c_ladder (M σ : rl_S) (c : IC M σ) (hw : WF M) (t m : Int) (ht : -2147483648 ≤ t ∧ t < 2147483648) (hm : -2147483648 ≤ m ∧ m < 2147483648) : Ct cW mX8_ladder [.ref 0, .int (iI t), .int (iI m)] σ (pR (.int (iI (q_ladder M t m))) σ) := by
  refine Ct.of plX8 (Nat.le_of_ble_eq_true rfl) ?_
  obtain ⟨gt, gs, gp, gg, gn, gh1, gf⟩ := id c
  have hb := wf_hb hw
  have hh := gs.2.2.2.2
  have st := wf_set hw
  have ob1 := ob_bd (decide (0 ≤ t ∧ t ≤ 399))
  have ob2 := ob_bd (decide (1 ≤ m ∧ m ≤ 100))
  refine r_iload_n dX8_ladder_0 rfl ?_
  refine i_csP (c_isTenth σ t ht) lmX8_122 dX8_ladder_1 (by decide) (by decide) rfl rfl (Nat.le_of_ble_eq_true rfl) ?_
  refine i_if_eq 14 dX8_ladder_4 rfl ⟨by omega, by omega⟩ (fun q4 => ?_) (fun q4 => ?_)
  · have e4 := ob_df q4
    refine i_bipush dX8_ladder_14 (by decide) ?_
    refine r_iret rfl dX8_ladder_16 ?_
    exact ⟨by unfold q_ladder; (repeat (first | rfl | (rw [if_pos (by omega)]) | (rw [if_neg (by omega)]))), rfl⟩
  · have e4 := ob_dt q4
    refine r_iload_n dX8_ladder_7 rfl ?_
    refine i_csP (c_isSpan σ m hm) lmX8_160 dX8_ladder_8 (by decide) (by decide) rfl rfl (Nat.le_of_ble_eq_true rfl) ?_
    refine i_if_ne 17 dX8_ladder_11 rfl ⟨by omega, by omega⟩ (fun q11 => ?_) (fun q11 => ?_)
    · have e11 := ob_dt q11
      refine r_iload_n dX8_ladder_17 rfl ?_
      refine r_iload_n dX8_ladder_18 rfl ?_
      refine i_csP (c_spanEnd σ t m (by omega) (by omega)) lmX8_196 dX8_ladder_19 (by decide) (by decide) rfl rfl (Nat.le_of_ble_eq_true rfl) ?_
      refine r_istore_n dX8_ladder_22 (Nat.le_of_ble_eq_true rfl) ?_
      refine i_sipush dX8_ladder_23 (by decide) ?_
      refine r_aload_n dX8_ladder_26 rfl ?_
      refine r_get (k := 0) lfX8_26 dX8_ladder_27 (Nat.le_of_ble_eq_true rfl) rfl rfl ?_
      refine r_iload_n dX8_ladder_30 rfl ?_
      refine r_iload_n dX8_ladder_31 rfl ?_
      refine i_cvP (c_least σ (hi M) hh hb t (min 400 (t + m)) (by omega) (by omega) (by omega)) lmX8_209 dX8_ladder_32 (Nat.le_of_ble_eq_true rfl) rfl ⟨_, _, rfl⟩ (by decide) (by decide) rfl rfl (Nat.le_of_ble_eq_true rfl) ?_
      refine r_aload_n dX8_ladder_35 rfl ?_
      refine r_get (k := 0) lfX8_40 dX8_ladder_36 (Nat.le_of_ble_eq_true rfl) rfl rfl ?_
      refine i_const dX8_ladder_39 ?_
      refine i_cvP (c_of σ 3 (by decide) (by decide)) lmX8_138 dX8_ladder_40 (Nat.le_of_ble_eq_true rfl) rfl ⟨_, _, rfl⟩ (by decide) (by decide) rfl rfl (Nat.le_of_ble_eq_true rfl) ?_
      rw [show (3 : Int).toNat = 3 from rfl, gg 3 (by decide)]
      have lb := lo_bd hb (min 400 (t + m) - t - 1).toNat t (by omega) (by omega)
      refine i_iadd dX8_ladder_43 ?_
      refine i_mmin lmX8_212 dX8_ladder_44 (by decide) (Nat.le_of_ble_eq_true rfl) ⟨by omega, by omega⟩ ⟨by omega, by omega⟩ ?_
      refine r_istore dX8_ladder_47 (Nat.le_of_ble_eq_true rfl) ?_
      refine r_aload_n dX8_ladder_49 rfl ?_
      refine r_get (k := 0) lfX8_26 dX8_ladder_50 (Nat.le_of_ble_eq_true rfl) rfl rfl ?_
      refine r_iload dX8_ladder_53 rfl ?_
      refine r_iload_n dX8_ladder_55 rfl ?_
      refine r_iload_n dX8_ladder_56 rfl ?_
      refine i_cvP (c_gh σ (hi M) hh hb (min 999 (lo (hi M) (min 400 (t + m) - t - 1).toNat t + M 6 3)) t (min 400 (t + m)) (by omega) (by omega) (by omega) (by omega) (by omega)) lmX8_217 dX8_ladder_57 (Nat.le_of_ble_eq_true rfl) rfl ⟨_, _, rfl⟩ (by decide) (by decide) rfl rfl (Nat.le_of_ble_eq_true rfl) ?_
      refine r_iret rfl dX8_ladder_60 ?_
      exact ⟨by unfold q_ladder; (repeat (first | rfl | (rw [if_pos (by omega)]) | (rw [if_neg (by omega)]))), rfl⟩
    · have e11 := ob_df q11
      refine i_bipush dX8_ladder_14 (by decide) ?_
      refine r_iret rfl dX8_ladder_16 ?_
      exact ⟨by unfold q_ladder; (repeat (first | rfl | (rw [if_pos (by omega)]) | (rw [if_neg (by omega)]))), rfl⟩
