def ob (x : Bool) : Int := bif x then 1 else 0
theorem ob_bd (x : Bool) : 0 ≤ ob x ∧ ob x ≤ 1 := by cases x <;> decide
theorem ob_t {x : Bool} (h : ¬ ob x = 0) : x = true := by cases x <;> first | rfl | exact absurd rfl h
theorem ob_f {x : Bool} (h : ob x = 0) : x = false := by cases x <;> first | rfl | cases h
theorem sup_at (σ : rl_S) (k i : Nat) (x : Int) (a j : Nat) : sup σ k i x a j = if a = k then (if j = i then x else σ k j) else σ a j := by
  unfold sup
  split <;> rfl
theorem sup_h (σ : rl_S) (k i : Nat) (x : Int) : sup σ k i x k i = x := by simp [sup]
theorem sup_i (σ : rl_S) (k i : Nat) (x : Int) {j : Nat} (h : j ≠ i) : sup σ k i x k j = σ k j := by simp [sup, h]
theorem sup_k (σ : rl_S) (k i : Nat) (x : Int) {a : Nat} (j : Nat) (h : a ≠ k) : sup σ k i x a j = σ a j := by simp [sup, h]
/-! a text of swells: bytes b, most m, n bytes -/
def two (b : Int → Int) (k : Int) : Int := 10 * (b k - 48) + (b (k + 1) - 48)
def okA (b : Int → Int) (m k : Int) : Bool :=
  if k % 4 = 3 then decide (b k = 59) else decide (48 ≤ b k) && decide (b k ≤ 57) && (if k % 4 = 0 then decide (k / 4 < m) else if k % 4 = 1 then true else decide (2 ≤ two b (k - 1)))
def flt (b : Int → Int) (m n : Int) : Nat → Int → Int
  | 0, _ => if n = 0 ∨ n % 4 = 3 then -1 else n
  | f + 1, k => if okA b m k = true then flt b m n f (k + 1) else k
def fF (b : Int → Int) (m n : Int) : Int := flt b m n n.toNat 0
def nF (b : Int → Int) (m n : Int) : Int := if fF b m n = -1 then (n + 1) / 4 else 0
theorem flt_bd (b : Int → Int) (m n : Int) : ∀ (f : Nat) (k : Int), 0 ≤ k → k + f = n → -1 ≤ flt b m n f k ∧ flt b m n f k ≤ n
  | 0, k, h0, h1 => by
    simp only [flt]
    split <;> omega
  | f + 1, k, h0, h1 => by
    have := flt_bd b m n f (k + 1) (by omega) (by omega)
    simp only [flt]
    split <;> omega
theorem fF_bd (b : Int → Int) (m : Int) {n : Int} (h : 0 ≤ n) : -1 ≤ fF b m n ∧ fF b m n ≤ n := flt_bd b m n n.toNat 0 (by omega) (by omega)
theorem nF_bd (b : Int → Int) (m : Int) {n : Int} (h : 0 ≤ n) : 0 ≤ nF b m n ∧ 4 * nF b m n ≤ n + 1 := by
  unfold nF
  split <;> omega
def hF (b : Int → Int) (N s : Int) : Int := if s < N then b (4 * s) - 48 else 0
def lF (b : Int → Int) (N s : Int) : Int := if s < N then two b (4 * s + 1) else 0
/-- the bytes that text B keeps -/
def SB (B : Nat) (σ : rl_S) (b : Int → Int) : Prop := ∀ z : Int, 0 ≤ z → z < 23 → σ B z.toNat = b z
def BB (b : Int → Int) : Prop := ∀ z : Int, 0 ≤ z → z < 23 → 0 ≤ b z ∧ b z ≤ 255
def S6 (B : Nat) (σ : rl_S) (f : Int → Int) : Prop := ∀ z : Int, 0 ≤ z → z < 6 → σ B z.toNat = f z
def B6 (f : Int → Int) : Prop := ∀ z : Int, 0 ≤ z → z < 6 → 0 ≤ f z ∧ f z ≤ 99
theorem row_up {σ : rl_S} {B : Nat} {k v : Int} {f : Int → Int} (h : ∀ z : Int, 0 ≤ z → z < k → σ B z.toNat = f z) (hk : 0 ≤ k) (hv : v = f k) : ∀ z : Int, 0 ≤ z → z < k + 1 → sup σ B k.toNat v B z.toNat = f z := by
  intro z z0 z1
  by_cases hz : z = k
  · subst hz
    rw [sup_h, hv]
  · rw [sup_i _ _ _ _ (by omega)]
    exact h z z0 (by omega)
theorem row_o {σ : rl_S} {B C i : Nat} {k v : Int} {f : Int → Int} (h : ∀ z : Int, 0 ≤ z → z < k → σ B z.toNat = f z) (hB : B ≠ C) : ∀ z : Int, 0 ≤ z → z < k → sup σ C i v B z.toNat = f z := fun z z0 z1 => (sup_k _ _ _ _ _ hB).trans (h z z0 z1)
def sm (f : Int → Int) : Nat → Int
  | 0 => 0
  | n + 1 => sm f n + f n
theorem sm_bd {f : Int → Int} (h : B6 f) : ∀ n : Nat, n ≤ 6 → 0 ≤ sm f n ∧ sm f n ≤ 99 * n
  | 0, _ => by simp [sm]
  | n + 1, h1 => by
    have := sm_bd h n (by omega)
    have := h n (by omega) (by omega)
    simp only [sm]
    omega
def bUp (b : Int → Int) (k x : Int) : Int → Int := fun z => if z = k then x else b z

set_option maxRecDepth 20000 in
theorem c_byteAt_1 (σ : rl_S) (b : Int → Int) (hs : SB 2 σ b) (hb : BB b) (t : Int) (h0 : 0 ≤ t) (h1 : t < 23) : Ct cW mX7_byteAt [.ref 1, .int (iI t)] σ (pR (.int (iI (b t))) σ) := by
  refine Ct.of plX7 (Nat.le_of_ble_eq_true rfl) ?_
  refine r_iload_n dX7_byteAt_0 rfl ?_
  refine i_if_lt 22 dX7_byteAt_1 rfl ⟨by omega, by omega⟩ (fun q1 => ?_) (fun q1 => ?_)
  · exfalso
    omega
  · skip
    refine r_iload_n dX7_byteAt_4 rfl ?_
    refine r_aload_n dX7_byteAt_5 rfl ?_
    refine r_get (k := 1) lfX7_9 dX7_byteAt_6 (Nat.le_of_ble_eq_true rfl) rfl rfl ?_
    refine i_alen (k := 2) dX7_byteAt_9 (Nat.le_of_ble_eq_true rfl) rfl rfl ?_
    refine i_icmp_ge 22 dX7_byteAt_10 rfl ⟨by omega, by omega⟩ ⟨by omega, by omega⟩ (fun q10 => ?_) (fun q10 => ?_)
    · exfalso
      omega
    · skip
      refine r_aload_n dX7_byteAt_13 rfl ?_
      refine r_get (k := 1) lfX7_9 dX7_byteAt_14 (Nat.le_of_ble_eq_true rfl) rfl rfl ?_
      refine r_iload_n dX7_byteAt_17 rfl ?_
      refine i_ald (k := 2) dX7_byteAt_18 (Nat.le_of_ble_eq_true rfl) rfl rfl ⟨by omega, by omega⟩ (by decide) ?_
      refine r_goto 23 dX7_byteAt_19 rfl ?_
      refine r_iret rfl dX7_byteAt_23 ?_
      exact ⟨by rw [hs t h0 h1], rfl⟩

set_option maxRecDepth 20000 in
theorem c_two_1 (σ : rl_S) (b : Int → Int) (hs : SB 2 σ b) (hb : BB b) (t : Int) (h0 : 0 ≤ t) (h1 : t < 22) : Ct cW mX7_twoFiguresAt [.ref 1, .int (iI t)] σ (pR (.int (iI (two b t))) σ) := by
  refine Ct.of plX7 (Nat.le_of_ble_eq_true rfl) ?_
  refine i_bipush dX7_twoFiguresAt_0 (by decide) ?_
  refine r_aload_n dX7_twoFiguresAt_2 rfl ?_
  refine r_iload_n dX7_twoFiguresAt_3 rfl ?_
  refine i_cvP (c_byteAt_1 σ b hs hb t h0 (by omega)) lmX7_48 dX7_twoFiguresAt_4 (Nat.le_of_ble_eq_true rfl) rfl ⟨_, _, rfl⟩ (by decide) (by decide) rfl rfl (Nat.le_of_ble_eq_true rfl) ?_
  refine i_bipush dX7_twoFiguresAt_7 (by decide) ?_
  refine i_isub dX7_twoFiguresAt_9 ?_
  refine i_imul dX7_twoFiguresAt_10 ?_
  refine r_aload_n dX7_twoFiguresAt_11 rfl ?_
  refine r_iload_n dX7_twoFiguresAt_12 rfl ?_
  refine i_const dX7_twoFiguresAt_13 ?_
  refine i_iadd dX7_twoFiguresAt_14 ?_
  refine i_cvP (c_byteAt_1 σ b hs hb (t + 1) (by omega) (by omega)) lmX7_48 dX7_twoFiguresAt_15 (Nat.le_of_ble_eq_true rfl) rfl ⟨_, _, rfl⟩ (by decide) (by decide) rfl rfl (Nat.le_of_ble_eq_true rfl) ?_
  refine i_bipush dX7_twoFiguresAt_18 (by decide) ?_
  refine i_isub dX7_twoFiguresAt_20 ?_
  refine i_iadd dX7_twoFiguresAt_21 ?_
  refine r_iret rfl dX7_twoFiguresAt_22 ?_
  exact ⟨rfl, rfl⟩

set_option maxRecDepth 20000 in
theorem c_goesOn_1 (σ : rl_S) (b : Int → Int) (hs : SB 2 σ b) (hb : BB b) (t : Int) (h0 : 0 ≤ t) (h1 : t < 23) : Ct cW mX7_goesOn [.ref 1, .int (iI t)] σ (pR (.int (iI (ob (okA b 6 t)))) σ) := by
  refine Ct.of plX7 (Nat.le_of_ble_eq_true rfl) ?_
  have b0 := hb t h0 h1
  refine r_iload_n dX7_goesOn_0 rfl ?_
  refine i_const dX7_goesOn_1 ?_
  refine i_irem dX7_goesOn_2 ⟨by omega, by omega⟩ ⟨by omega, by omega⟩ ?_
  refine i_const dX7_goesOn_3 ?_
  refine i_icmp_ne 23 dX7_goesOn_4 rfl ⟨by omega, by omega⟩ ⟨by omega, by omega⟩ (fun q4 => ?_) (fun q4 => ?_)
  · skip
    refine r_aload_n dX7_goesOn_23 rfl ?_
    refine r_iload_n dX7_goesOn_24 rfl ?_
    refine i_cvP (c_byteAt_1 σ b hs hb t h0 h1) lmX7_48 dX7_goesOn_25 (Nat.le_of_ble_eq_true rfl) rfl ⟨_, _, rfl⟩ (by decide) (by decide) rfl rfl (Nat.le_of_ble_eq_true rfl) ?_
    refine i_bipush dX7_goesOn_28 (by decide) ?_
    refine i_icmp_lt 43 dX7_goesOn_30 rfl ⟨by omega, by omega⟩ ⟨by omega, by omega⟩ (fun q30 => ?_) (fun q30 => ?_)
    · skip
      refine i_const dX7_goesOn_43 ?_
      refine r_zret rfl dX7_goesOn_44 rfl ?_
      refine ⟨?_, rfl⟩
      first
        | (have e : okA b 6 t = true := by
            simp only [okA]
            (repeat (first | (rw [if_pos (by omega)]) | (rw [if_neg (by omega)])))
            simp only [Bool.and_eq_true, decide_eq_true_eq, and_true]
            omega
           rw [e]; rfl)
        | (have e : okA b 6 t = false := by
            simp only [okA]
            (repeat (first | (rw [if_pos (by omega)]) | (rw [if_neg (by omega)])))
            simp only [Bool.and_eq_false_iff, decide_eq_false_iff_not, Bool.true_eq_false, or_false]
            omega
           rw [e]; rfl)
    · skip
      refine r_aload_n dX7_goesOn_33 rfl ?_
      refine r_iload_n dX7_goesOn_34 rfl ?_
      refine i_cvP (c_byteAt_1 σ b hs hb t h0 h1) lmX7_48 dX7_goesOn_35 (Nat.le_of_ble_eq_true rfl) rfl ⟨_, _, rfl⟩ (by decide) (by decide) rfl rfl (Nat.le_of_ble_eq_true rfl) ?_
      refine i_bipush dX7_goesOn_38 (by decide) ?_
      refine i_icmp_le 45 dX7_goesOn_40 rfl ⟨by omega, by omega⟩ ⟨by omega, by omega⟩ (fun q40 => ?_) (fun q40 => ?_)
      · skip
        refine r_iload_n dX7_goesOn_45 rfl ?_
        refine i_const dX7_goesOn_46 ?_
        refine i_irem dX7_goesOn_47 ⟨by omega, by omega⟩ ⟨by omega, by omega⟩ ?_
        refine i_if_ne 67 dX7_goesOn_48 rfl ⟨by omega, by omega⟩ (fun q48 => ?_) (fun q48 => ?_)
        · skip
          refine r_iload_n dX7_goesOn_67 rfl ?_
          refine i_const dX7_goesOn_68 ?_
          refine i_irem dX7_goesOn_69 ⟨by omega, by omega⟩ ⟨by omega, by omega⟩ ?_
          refine i_const dX7_goesOn_70 ?_
          refine i_icmp_eq 85 dX7_goesOn_71 rfl ⟨by omega, by omega⟩ ⟨by omega, by omega⟩ (fun q71 => ?_) (fun q71 => ?_)
          · skip
            refine i_const dX7_goesOn_85 ?_
            refine r_goto 90 dX7_goesOn_86 rfl ?_
            refine r_zret rfl dX7_goesOn_90 rfl ?_
            refine ⟨?_, rfl⟩
            first
              | (have e : okA b 6 t = true := by
                  simp only [okA]
                  (repeat (first | (rw [if_pos (by omega)]) | (rw [if_neg (by omega)])))
                  simp only [Bool.and_eq_true, decide_eq_true_eq, and_true]
                  omega
                 rw [e]; rfl)
              | (have e : okA b 6 t = false := by
                  simp only [okA]
                  (repeat (first | (rw [if_pos (by omega)]) | (rw [if_neg (by omega)])))
                  simp only [Bool.and_eq_false_iff, decide_eq_false_iff_not, Bool.true_eq_false, or_false]
                  omega
                 rw [e]; rfl)
          · skip
            refine r_aload_n dX7_goesOn_74 rfl ?_
            refine r_iload_n dX7_goesOn_75 rfl ?_
            refine i_const dX7_goesOn_76 ?_
            refine i_isub dX7_goesOn_77 ?_
            have b1 := hb (t - 1) (by omega) (by omega)
            refine i_cvP (c_two_1 σ b hs hb (t - 1) (by omega) (by omega)) lmX7_51 dX7_goesOn_78 (Nat.le_of_ble_eq_true rfl) rfl ⟨_, _, rfl⟩ (by decide) (by decide) rfl rfl (Nat.le_of_ble_eq_true rfl) ?_
            have b2 : two b (t - 1) = 10 * (b (t - 1) - 48) + (b (t - 1 + 1) - 48) := rfl
            have b3 : t - 1 + 1 = t := by omega
            rw [b3] at b2
            refine i_const dX7_goesOn_81 ?_
            refine i_icmp_lt 89 dX7_goesOn_82 rfl ⟨by omega, by omega⟩ ⟨by omega, by omega⟩ (fun q82 => ?_) (fun q82 => ?_)
            · skip
              refine i_const dX7_goesOn_89 ?_
              refine r_zret rfl dX7_goesOn_90 rfl ?_
              refine ⟨?_, rfl⟩
              first
                | (have e : okA b 6 t = true := by
                    simp only [okA]
                    (repeat (first | (rw [if_pos (by omega)]) | (rw [if_neg (by omega)])))
                    simp only [Bool.and_eq_true, decide_eq_true_eq, and_true]
                    omega
                   rw [e]; rfl)
                | (have e : okA b 6 t = false := by
                    simp only [okA]
                    (repeat (first | (rw [if_pos (by omega)]) | (rw [if_neg (by omega)])))
                    simp only [Bool.and_eq_false_iff, decide_eq_false_iff_not, Bool.true_eq_false, or_false]
                    omega
                   rw [e]; rfl)
            · skip
              refine i_const dX7_goesOn_85 ?_
              refine r_goto 90 dX7_goesOn_86 rfl ?_
              refine r_zret rfl dX7_goesOn_90 rfl ?_
              refine ⟨?_, rfl⟩
              first
                | (have e : okA b 6 t = true := by
                    simp only [okA]
                    (repeat (first | (rw [if_pos (by omega)]) | (rw [if_neg (by omega)])))
                    simp only [Bool.and_eq_true, decide_eq_true_eq, and_true]
                    omega
                   rw [e]; rfl)
                | (have e : okA b 6 t = false := by
                    simp only [okA]
                    (repeat (first | (rw [if_pos (by omega)]) | (rw [if_neg (by omega)])))
                    simp only [Bool.and_eq_false_iff, decide_eq_false_iff_not, Bool.true_eq_false, or_false]
                    omega
                   rw [e]; rfl)
        · skip
          refine r_iload_n dX7_goesOn_51 rfl ?_
          refine i_const dX7_goesOn_52 ?_
          refine i_idiv dX7_goesOn_53 ⟨by omega, by omega⟩ ⟨by omega, by omega⟩ ?_
          refine r_aload_n dX7_goesOn_54 rfl ?_
          refine r_get (k := 1) lfX7_28 dX7_goesOn_55 (Nat.le_of_ble_eq_true rfl) rfl rfl ?_
          rw [show Value.int 6 = .int (iI 6) from rfl]
          refine i_icmp_ge 65 dX7_goesOn_58 rfl ⟨by omega, by omega⟩ ⟨by omega, by omega⟩ (fun q58 => ?_) (fun q58 => ?_)
          · skip
            refine i_const dX7_goesOn_65 ?_
            refine r_zret rfl dX7_goesOn_66 rfl ?_
            refine ⟨?_, rfl⟩
            first
              | (have e : okA b 6 t = true := by
                  simp only [okA]
                  (repeat (first | (rw [if_pos (by omega)]) | (rw [if_neg (by omega)])))
                  simp only [Bool.and_eq_true, decide_eq_true_eq, and_true]
                  omega
                 rw [e]; rfl)
              | (have e : okA b 6 t = false := by
                  simp only [okA]
                  (repeat (first | (rw [if_pos (by omega)]) | (rw [if_neg (by omega)])))
                  simp only [Bool.and_eq_false_iff, decide_eq_false_iff_not, Bool.true_eq_false, or_false]
                  omega
                 rw [e]; rfl)
          · skip
            refine i_const dX7_goesOn_61 ?_
            refine r_goto 66 dX7_goesOn_62 rfl ?_
            refine r_zret rfl dX7_goesOn_66 rfl ?_
            refine ⟨?_, rfl⟩
            first
              | (have e : okA b 6 t = true := by
                  simp only [okA]
                  (repeat (first | (rw [if_pos (by omega)]) | (rw [if_neg (by omega)])))
                  simp only [Bool.and_eq_true, decide_eq_true_eq, and_true]
                  omega
                 rw [e]; rfl)
              | (have e : okA b 6 t = false := by
                  simp only [okA]
                  (repeat (first | (rw [if_pos (by omega)]) | (rw [if_neg (by omega)])))
                  simp only [Bool.and_eq_false_iff, decide_eq_false_iff_not, Bool.true_eq_false, or_false]
                  omega
                 rw [e]; rfl)
      · skip
        refine i_const dX7_goesOn_43 ?_
        refine r_zret rfl dX7_goesOn_44 rfl ?_
        refine ⟨?_, rfl⟩
        first
          | (have e : okA b 6 t = true := by
              simp only [okA]
              (repeat (first | (rw [if_pos (by omega)]) | (rw [if_neg (by omega)])))
              simp only [Bool.and_eq_true, decide_eq_true_eq, and_true]
              omega
             rw [e]; rfl)
          | (have e : okA b 6 t = false := by
              simp only [okA]
              (repeat (first | (rw [if_pos (by omega)]) | (rw [if_neg (by omega)])))
              simp only [Bool.and_eq_false_iff, decide_eq_false_iff_not, Bool.true_eq_false, or_false]
              omega
             rw [e]; rfl)
  · skip
    refine r_aload_n dX7_goesOn_7 rfl ?_
    refine r_iload_n dX7_goesOn_8 rfl ?_
    refine i_cvP (c_byteAt_1 σ b hs hb t h0 h1) lmX7_48 dX7_goesOn_9 (Nat.le_of_ble_eq_true rfl) rfl ⟨_, _, rfl⟩ (by decide) (by decide) rfl rfl (Nat.le_of_ble_eq_true rfl) ?_
    refine i_bipush dX7_goesOn_12 (by decide) ?_
    refine i_icmp_ne 21 dX7_goesOn_14 rfl ⟨by omega, by omega⟩ ⟨by omega, by omega⟩ (fun q14 => ?_) (fun q14 => ?_)
    · skip
      refine i_const dX7_goesOn_21 ?_
      refine r_zret rfl dX7_goesOn_22 rfl ?_
      refine ⟨?_, rfl⟩
      first
        | (have e : okA b 6 t = true := by
            simp only [okA]
            (repeat (first | (rw [if_pos (by omega)]) | (rw [if_neg (by omega)])))
            simp only [Bool.and_eq_true, decide_eq_true_eq, and_true]
            omega
           rw [e]; rfl)
        | (have e : okA b 6 t = false := by
            simp only [okA]
            (repeat (first | (rw [if_pos (by omega)]) | (rw [if_neg (by omega)])))
            simp only [Bool.and_eq_false_iff, decide_eq_false_iff_not, Bool.true_eq_false, or_false]
            omega
           rw [e]; rfl)
    · skip
      refine i_const dX7_goesOn_17 ?_
      refine r_goto 22 dX7_goesOn_18 rfl ?_
      refine r_zret rfl dX7_goesOn_22 rfl ?_
      refine ⟨?_, rfl⟩
      first
        | (have e : okA b 6 t = true := by
            simp only [okA]
            (repeat (first | (rw [if_pos (by omega)]) | (rw [if_neg (by omega)])))
            simp only [Bool.and_eq_true, decide_eq_true_eq, and_true]
            omega
           rw [e]; rfl)
        | (have e : okA b 6 t = false := by
            simp only [okA]
            (repeat (first | (rw [if_pos (by omega)]) | (rw [if_neg (by omega)])))
            simp only [Bool.and_eq_false_iff, decide_eq_false_iff_not, Bool.true_eq_false, or_false]
            omega
           rw [e]; rfl)

theorem c_firstFault_l_1 (σ : rl_S) (b : Int → Int) (hs : SB 2 σ b) (hb : BB b) (n0 : 0 ≤ σ 1 5) (n1 : σ 1 5 ≤ 23) : ∀ (n : Nat) (k : Int), 0 ≤ k → k + n = σ 1 5 → ∀ z, z = flt b 6 (σ 1 5) n k → Rn cW mX7_firstFault 2 [.ref 1, .int (iI k)] [] σ (pR (.int (iI z)) σ) := by
  intro n
  induction n with
  | zero =>
    intro k h0 hk z hz
    simp only [flt] at hz
    refine r_iload_n dX7_firstFault_2 rfl ?_
    refine r_aload_n dX7_firstFault_3 rfl ?_
    refine r_get (k := 1) lfX7_31 dX7_firstFault_4 (Nat.le_of_ble_eq_true rfl) rfl rfl ?_
    refine i_icmp_ge 26 dX7_firstFault_7 rfl ⟨by omega, by omega⟩ ⟨by omega, by omega⟩ (fun q7 => ?_) (fun q7 => ?_)
    · skip
      refine r_aload_n dX7_firstFault_26 rfl ?_
      refine r_get (k := 1) lfX7_31 dX7_firstFault_27 (Nat.le_of_ble_eq_true rfl) rfl rfl ?_
      refine i_if_eq 43 dX7_firstFault_30 rfl ⟨by omega, by omega⟩ (fun q30 => ?_) (fun q30 => ?_)
      · skip
        refine i_const dX7_firstFault_43 ?_
        refine r_goto 51 dX7_firstFault_44 rfl ?_
        refine r_iret rfl dX7_firstFault_51 ?_
        exact ⟨by rw [hz]; (repeat (first | rfl | (rw [if_pos (by omega)]) | (rw [if_neg (by omega)]))), rfl⟩
      · skip
        refine r_aload_n dX7_firstFault_33 rfl ?_
        refine r_get (k := 1) lfX7_31 dX7_firstFault_34 (Nat.le_of_ble_eq_true rfl) rfl rfl ?_
        refine i_const dX7_firstFault_37 ?_
        refine i_irem dX7_firstFault_38 ⟨by omega, by omega⟩ ⟨by omega, by omega⟩ ?_
        refine i_const dX7_firstFault_39 ?_
        refine i_icmp_ne 47 dX7_firstFault_40 rfl ⟨by omega, by omega⟩ ⟨by omega, by omega⟩ (fun q40 => ?_) (fun q40 => ?_)
        · skip
          refine r_aload_n dX7_firstFault_47 rfl ?_
          refine r_get (k := 1) lfX7_31 dX7_firstFault_48 (Nat.le_of_ble_eq_true rfl) rfl rfl ?_
          refine r_iret rfl dX7_firstFault_51 ?_
          exact ⟨by rw [hz]; (repeat (first | rfl | (rw [if_pos (by omega)]) | (rw [if_neg (by omega)]))), rfl⟩
        · skip
          refine i_const dX7_firstFault_43 ?_
          refine r_goto 51 dX7_firstFault_44 rfl ?_
          refine r_iret rfl dX7_firstFault_51 ?_
          exact ⟨by rw [hz]; (repeat (first | rfl | (rw [if_pos (by omega)]) | (rw [if_neg (by omega)]))), rfl⟩
    · exfalso
      omega
  | succ n ih =>
    intro k h0 hk z hz
    have ho := ob_bd (okA b 6 k)
    simp only [flt] at hz
    refine r_iload_n dX7_firstFault_2 rfl ?_
    refine r_aload_n dX7_firstFault_3 rfl ?_
    refine r_get (k := 1) lfX7_31 dX7_firstFault_4 (Nat.le_of_ble_eq_true rfl) rfl rfl ?_
    refine i_icmp_ge 26 dX7_firstFault_7 rfl ⟨by omega, by omega⟩ ⟨by omega, by omega⟩ (fun q7 => ?_) (fun q7 => ?_)
    · exfalso
      omega
    · skip
      refine r_aload_n dX7_firstFault_10 rfl ?_
      refine r_iload_n dX7_firstFault_11 rfl ?_
      refine i_cvP (c_goesOn_1 σ b hs hb k h0 (by omega)) lmX7_54 dX7_firstFault_12 (Nat.le_of_ble_eq_true rfl) rfl ⟨_, _, rfl⟩ (by decide) (by decide) rfl rfl (Nat.le_of_ble_eq_true rfl) ?_
      refine i_if_ne 20 dX7_firstFault_15 rfl ⟨by omega, by omega⟩ (fun q15 => ?_) (fun q15 => ?_)
      · skip
        refine i_iinc dX7_firstFault_20 rfl (Nat.le_of_ble_eq_true rfl) ?_
        refine r_goto 2 dX7_firstFault_23 rfl ?_
        rw [if_pos (ob_t q15)] at hz
        exact ih (k + 1) (by omega) (by omega) z hz
      · skip
        refine r_iload_n dX7_firstFault_18 rfl ?_
        refine r_iret rfl dX7_firstFault_19 ?_
        rw [if_neg (by rw [ob_f q15]; decide)] at hz
        exact ⟨by rw [hz], rfl⟩

set_option maxRecDepth 20000 in
theorem c_firstFault_1 (σ : rl_S) (b : Int → Int) (hs : SB 2 σ b) (hb : BB b) (n0 : 0 ≤ σ 1 5) (n1 : σ 1 5 ≤ 23) : Ct cW mX7_firstFault [.ref 1] σ (pR (.int (iI (fF b 6 (σ 1 5)))) σ) := by
  refine Ct.of plX7 (Nat.le_of_ble_eq_true rfl) ?_
  refine i_const dX7_firstFault_0 ?_
  refine r_istore_n dX7_firstFault_1 (Nat.le_of_ble_eq_true rfl) ?_
  exact c_firstFault_l_1 σ b hs hb n0 n1 (σ 1 5).toNat 0 (by omega) (by omega) _ rfl

set_option maxRecDepth 20000 in
theorem c_heightOf_1 (σ : rl_S) (f : Int → Int) (hs : S6 3 σ f) (t : Int) (h0 : 0 ≤ t) (h1 : t < 6) : Ct cW mX7_heightOf [.ref 1, .int (iI t)] σ (pR (.int (iI (f t))) σ) := by
  refine Ct.of plX7 (Nat.le_of_ble_eq_true rfl) ?_
  refine r_iload_n dX7_heightOf_0 rfl ?_
  refine i_if_lt 22 dX7_heightOf_1 rfl ⟨by omega, by omega⟩ (fun q1 => ?_) (fun q1 => ?_)
  · exfalso
    omega
  · skip
    refine r_iload_n dX7_heightOf_4 rfl ?_
    refine r_aload_n dX7_heightOf_5 rfl ?_
    refine r_get (k := 1) lfX7_15 dX7_heightOf_6 (Nat.le_of_ble_eq_true rfl) rfl rfl ?_
    refine i_alen (k := 3) dX7_heightOf_9 (Nat.le_of_ble_eq_true rfl) rfl rfl ?_
    refine i_icmp_ge 22 dX7_heightOf_10 rfl ⟨by omega, by omega⟩ ⟨by omega, by omega⟩ (fun q10 => ?_) (fun q10 => ?_)
    · exfalso
      omega
    · skip
      refine r_aload_n dX7_heightOf_13 rfl ?_
      refine r_get (k := 1) lfX7_15 dX7_heightOf_14 (Nat.le_of_ble_eq_true rfl) rfl rfl ?_
      refine r_iload_n dX7_heightOf_17 rfl ?_
      refine i_ald (k := 3) dX7_heightOf_18 (Nat.le_of_ble_eq_true rfl) rfl rfl ⟨by omega, by omega⟩ (by decide) ?_
      refine r_goto 23 dX7_heightOf_19 rfl ?_
      refine r_iret rfl dX7_heightOf_23 ?_
      exact ⟨by rw [hs t h0 h1], rfl⟩

set_option maxRecDepth 20000 in
theorem c_lengthOf_1 (σ : rl_S) (f : Int → Int) (hs : S6 4 σ f) (t : Int) (h0 : 0 ≤ t) (h1 : t < 6) : Ct cW mX7_lengthOf [.ref 1, .int (iI t)] σ (pR (.int (iI (f t))) σ) := by
  refine Ct.of plX7 (Nat.le_of_ble_eq_true rfl) ?_
  refine r_iload_n dX7_lengthOf_0 rfl ?_
  refine i_if_lt 22 dX7_lengthOf_1 rfl ⟨by omega, by omega⟩ (fun q1 => ?_) (fun q1 => ?_)
  · exfalso
    omega
  · skip
    refine r_iload_n dX7_lengthOf_4 rfl ?_
    refine r_aload_n dX7_lengthOf_5 rfl ?_
    refine r_get (k := 1) lfX7_18 dX7_lengthOf_6 (Nat.le_of_ble_eq_true rfl) rfl rfl ?_
    refine i_alen (k := 4) dX7_lengthOf_9 (Nat.le_of_ble_eq_true rfl) rfl rfl ?_
    refine i_icmp_ge 22 dX7_lengthOf_10 rfl ⟨by omega, by omega⟩ ⟨by omega, by omega⟩ (fun q10 => ?_) (fun q10 => ?_)
    · exfalso
      omega
    · skip
      refine r_aload_n dX7_lengthOf_13 rfl ?_
      refine r_get (k := 1) lfX7_18 dX7_lengthOf_14 (Nat.le_of_ble_eq_true rfl) rfl rfl ?_
      refine r_iload_n dX7_lengthOf_17 rfl ?_
      refine i_ald (k := 4) dX7_lengthOf_18 (Nat.le_of_ble_eq_true rfl) rfl rfl ⟨by omega, by omega⟩ (by decide) ?_
      refine r_goto 23 dX7_lengthOf_19 rfl ?_
      refine r_iret rfl dX7_lengthOf_23 ?_
      exact ⟨by rw [hs t h0 h1], rfl⟩

set_option maxRecDepth 20000 in
theorem c_isFull_1 (σ : rl_S) (n0 : 0 ≤ σ 1 5) (n1 : σ 1 5 ≤ 23) : Ct cW mX7_isFull [.ref 1] σ (pR (.int (iI (ob (decide (23 ≤ σ 1 5))))) σ) := by
  refine Ct.of plX7 (Nat.le_of_ble_eq_true rfl) ?_
  refine r_aload_n dX7_isFull_0 rfl ?_
  refine r_get (k := 1) lfX7_31 dX7_isFull_1 (Nat.le_of_ble_eq_true rfl) rfl rfl ?_
  refine r_aload_n dX7_isFull_4 rfl ?_
  refine r_get (k := 1) lfX7_25 dX7_isFull_5 (Nat.le_of_ble_eq_true rfl) rfl rfl ?_
  rw [show Value.int 23 = .int (iI 23) from rfl]
  refine i_icmp_lt 15 dX7_isFull_8 rfl ⟨by omega, by omega⟩ ⟨by omega, by omega⟩ (fun q8 => ?_) (fun q8 => ?_)
  · skip
    refine i_const dX7_isFull_15 ?_
    refine r_zret rfl dX7_isFull_16 rfl ?_
    first
      | (refine ⟨?_, rfl⟩; rw [decide_eq_true (by omega)]; rfl)
      | (refine ⟨?_, rfl⟩; rw [decide_eq_false (by omega)]; rfl)
  · skip
    refine i_const dX7_isFull_11 ?_
    refine r_goto 16 dX7_isFull_12 rfl ?_
    refine r_zret rfl dX7_isFull_16 rfl ?_
    first
      | (refine ⟨?_, rfl⟩; rw [decide_eq_true (by omega)]; rfl)
      | (refine ⟨?_, rfl⟩; rw [decide_eq_false (by omega)]; rfl)

/-- what understanding a text does -/
def und_1 (σ : rl_S) (b : Int → Int) : rl_S → Prop := fun σ2 => σ2 1 6 = fF b 6 (σ 1 5) ∧ σ2 1 7 = nF b 6 (σ 1 5) ∧ S6 3 σ2 (hF b (nF b 6 (σ 1 5))) ∧ S6 4 σ2 (lF b (nF b 6 (σ 1 5))) ∧ ∀ k i, k ≠ 3 → k ≠ 4 → (k = 1 → i ≠ 6 ∧ i ≠ 7) → σ2 k i = σ k i
theorem c_understand_l_1 (σ : rl_S) (b : Int → Int) (hs : SB 2 σ b) (hb : BB b) (n0 : 0 ≤ σ 1 5) (n1 : σ 1 5 ≤ 23) (N : Int) (hN : N = nF b 6 (σ 1 5)) : ∀ (n : Nat) (k : Int) (lx : Value) (σ2 : rl_S), 0 ≤ k → k + n = 6 →
    σ2 1 6 = fF b 6 (σ 1 5) → σ2 1 7 = N → (∀ z : Int, 0 ≤ z → z < k → σ2 3 z.toNat = hF b N z) → (∀ z : Int, 0 ≤ z → z < k → σ2 4 z.toNat = lF b N z) → (∀ k i, k ≠ 3 → k ≠ 4 → (k = 1 → i ≠ 6 ∧ i ≠ 7) → σ2 k i = σ k i) →
    Rn cW mX7_understand 34 [.ref 1, .int (iI k), lx] [] σ2 (qV (und_1 σ b)) := by
  intro n
  induction n with
  | zero =>
    intro k lx σ2 h0 hk e6 e7 eh el eo
    refine r_iload_n dX7_understand_34 rfl ?_
    refine r_aload_n dX7_understand_35 rfl ?_
    refine r_get (k := 1) lfX7_15 dX7_understand_36 (Nat.le_of_ble_eq_true rfl) rfl rfl ?_
    refine i_alen (k := 3) dX7_understand_39 (Nat.le_of_ble_eq_true rfl) rfl rfl ?_
    refine i_icmp_ge 119 dX7_understand_40 rfl ⟨by omega, by omega⟩ ⟨by omega, by omega⟩ (fun q40 => ?_) (fun q40 => ?_)
    · skip
      refine r_vret rfl dX7_understand_119 ?_
      refine ⟨rfl, e6, by rw [e7, hN], fun z z0 z1 => ?_, fun z z0 z1 => ?_, eo⟩
      · rw [← hN]; exact eh z z0 (by omega)
      · rw [← hN]; exact el z z0 (by omega)
    · exfalso
      omega
  | succ n ih =>
    intro k lx σ2 h0 hk e6 e7 eh el eo
    have hnb := nF_bd b 6 n0
    rw [← hN] at hnb
    have hs2 : SB 2 σ2 b := fun z z0 z1 => by rw [eo 2 _ (by decide) (by decide) (fun q => absurd q (by decide))]; exact hs z z0 z1
    refine r_iload_n dX7_understand_34 rfl ?_
    refine r_aload_n dX7_understand_35 rfl ?_
    refine r_get (k := 1) lfX7_15 dX7_understand_36 (Nat.le_of_ble_eq_true rfl) rfl rfl ?_
    refine i_alen (k := 3) dX7_understand_39 (Nat.le_of_ble_eq_true rfl) rfl rfl ?_
    refine i_icmp_ge 119 dX7_understand_40 rfl ⟨by omega, by omega⟩ ⟨by omega, by omega⟩ (fun q40 => ?_) (fun q40 => ?_)
    · exfalso
      omega
    · skip
      refine r_iload_n dX7_understand_43 rfl ?_
      refine r_aload_n dX7_understand_44 rfl ?_
      refine r_get (k := 1) lfX7_18 dX7_understand_45 (Nat.le_of_ble_eq_true rfl) rfl rfl ?_
      refine i_alen (k := 4) dX7_understand_48 (Nat.le_of_ble_eq_true rfl) rfl rfl ?_
      refine i_icmp_ge 119 dX7_understand_49 rfl ⟨by omega, by omega⟩ ⟨by omega, by omega⟩ (fun q49 => ?_) (fun q49 => ?_)
      · exfalso
        omega
      · skip
        refine r_iload_n dX7_understand_52 rfl ?_
        refine r_aload_n dX7_understand_53 rfl ?_
        refine r_get (k := 1) lfX7_37 dX7_understand_54 (Nat.le_of_ble_eq_true rfl) rfl rfl ?_
        rw [e7]
        refine i_icmp_ge 64 dX7_understand_57 rfl ⟨by omega, by omega⟩ ⟨by omega, by omega⟩ (fun q57 => ?_) (fun q57 => ?_)
        · skip
          refine i_const dX7_understand_64 ?_
          refine r_istore_n dX7_understand_65 (Nat.le_of_ble_eq_true rfl) ?_
          refine r_aload_n dX7_understand_66 rfl ?_
          refine r_get (k := 1) lfX7_15 dX7_understand_67 (Nat.le_of_ble_eq_true rfl) rfl rfl ?_
          refine r_iload_n dX7_understand_70 rfl ?_
          refine r_iload_n dX7_understand_71 rfl ?_
          refine i_if_eq 88 dX7_understand_72 rfl ⟨by omega, by omega⟩ (fun q72 => ?_) (fun q72 => ?_)
          · skip
            refine i_const dX7_understand_88 ?_
            refine i_ast (k := 3) dX7_understand_89 (Nat.le_of_ble_eq_true rfl) rfl rfl ⟨by omega, by omega⟩ (by decide) ?_
            refine r_aload_n dX7_understand_90 rfl ?_
            refine r_get (k := 1) lfX7_18 dX7_understand_91 (Nat.le_of_ble_eq_true rfl) rfl rfl ?_
            refine r_iload_n dX7_understand_94 rfl ?_
            refine r_iload_n dX7_understand_95 rfl ?_
            refine i_if_eq 111 dX7_understand_96 rfl ⟨by omega, by omega⟩ (fun q96 => ?_) (fun q96 => ?_)
            · skip
              refine i_const dX7_understand_111 ?_
              refine i_ast (k := 4) dX7_understand_112 (Nat.le_of_ble_eq_true rfl) rfl rfl ⟨by omega, by omega⟩ (by decide) ?_
              refine i_iinc dX7_understand_113 rfl (Nat.le_of_ble_eq_true rfl) ?_
              refine r_goto 34 dX7_understand_116 rfl ?_
              exact ih (k + 1) _ _ (by omega) (by omega) (by rw [sup_k _ _ _ _ _ (show 1 ≠ 4 by decide), sup_k _ _ _ _ _ (show 1 ≠ 3 by decide)]; exact e6) (by rw [sup_k _ _ _ _ _ (show 1 ≠ 4 by decide), sup_k _ _ _ _ _ (show 1 ≠ 3 by decide)]; exact e7)
                (row_o (row_up eh h0 (by simp only [hF]; first | (rw [if_pos (by omega)]) | (rw [if_neg (by omega)]))) (by decide)) (row_up (row_o el (by decide)) h0 (by simp only [lF]; first | (rw [if_pos (by omega)]) | (rw [if_neg (by omega)])))
                (fun a i g1 g2 g3 => (sup_k _ _ _ _ _ g2).trans ((sup_k _ _ _ _ _ g1).trans (eo a i g1 g2 g3)))
            · exfalso
              omega
          · exfalso
            omega
        · skip
          refine i_const dX7_understand_60 ?_
          refine r_goto 65 dX7_understand_61 rfl ?_
          refine r_istore_n dX7_understand_65 (Nat.le_of_ble_eq_true rfl) ?_
          refine r_aload_n dX7_understand_66 rfl ?_
          refine r_get (k := 1) lfX7_15 dX7_understand_67 (Nat.le_of_ble_eq_true rfl) rfl rfl ?_
          refine r_iload_n dX7_understand_70 rfl ?_
          refine r_iload_n dX7_understand_71 rfl ?_
          refine i_if_eq 88 dX7_understand_72 rfl ⟨by omega, by omega⟩ (fun q72 => ?_) (fun q72 => ?_)
          · exfalso
            omega
          · skip
            refine r_aload_n dX7_understand_75 rfl ?_
            refine i_const dX7_understand_76 ?_
            refine r_iload_n dX7_understand_77 rfl ?_
            refine i_imul dX7_understand_78 ?_
            refine i_cvP (c_byteAt_1 σ2 b hs2 hb (4 * k) (by omega) (by omega)) lmX7_48 dX7_understand_79 (Nat.le_of_ble_eq_true rfl) rfl ⟨_, _, rfl⟩ (by decide) (by decide) rfl rfl (Nat.le_of_ble_eq_true rfl) ?_
            refine i_bipush dX7_understand_82 (by decide) ?_
            refine i_isub dX7_understand_84 ?_
            refine r_goto 89 dX7_understand_85 rfl ?_
            refine i_ast (k := 3) dX7_understand_89 (Nat.le_of_ble_eq_true rfl) rfl rfl ⟨by omega, by omega⟩ (by decide) ?_
            refine r_aload_n dX7_understand_90 rfl ?_
            refine r_get (k := 1) lfX7_18 dX7_understand_91 (Nat.le_of_ble_eq_true rfl) rfl rfl ?_
            refine r_iload_n dX7_understand_94 rfl ?_
            refine r_iload_n dX7_understand_95 rfl ?_
            refine i_if_eq 111 dX7_understand_96 rfl ⟨by omega, by omega⟩ (fun q96 => ?_) (fun q96 => ?_)
            · exfalso
              omega
            · skip
              refine r_aload_n dX7_understand_99 rfl ?_
              refine i_const dX7_understand_100 ?_
              refine r_iload_n dX7_understand_101 rfl ?_
              refine i_imul dX7_understand_102 ?_
              refine i_const dX7_understand_103 ?_
              refine i_iadd dX7_understand_104 ?_
              refine i_cvP (c_two_1 _ b (row_o hs2 (by decide)) hb (4 * k + 1) (by omega) (by omega)) lmX7_51 dX7_understand_105 (Nat.le_of_ble_eq_true rfl) rfl ⟨_, _, rfl⟩ (by decide) (by decide) rfl rfl (Nat.le_of_ble_eq_true rfl) ?_
              refine r_goto 112 dX7_understand_108 rfl ?_
              refine i_ast (k := 4) dX7_understand_112 (Nat.le_of_ble_eq_true rfl) rfl rfl ⟨by omega, by omega⟩ (by decide) ?_
              refine i_iinc dX7_understand_113 rfl (Nat.le_of_ble_eq_true rfl) ?_
              refine r_goto 34 dX7_understand_116 rfl ?_
              exact ih (k + 1) _ _ (by omega) (by omega) (by rw [sup_k _ _ _ _ _ (show 1 ≠ 4 by decide), sup_k _ _ _ _ _ (show 1 ≠ 3 by decide)]; exact e6) (by rw [sup_k _ _ _ _ _ (show 1 ≠ 4 by decide), sup_k _ _ _ _ _ (show 1 ≠ 3 by decide)]; exact e7)
                (row_o (row_up eh h0 (by simp only [hF]; first | (rw [if_pos (by omega)]) | (rw [if_neg (by omega)]))) (by decide)) (row_up (row_o el (by decide)) h0 (by simp only [lF]; first | (rw [if_pos (by omega)]) | (rw [if_neg (by omega)])))
                (fun a i g1 g2 g3 => (sup_k _ _ _ _ _ g2).trans ((sup_k _ _ _ _ _ g1).trans (eo a i g1 g2 g3)))

set_option maxRecDepth 20000 in
theorem c_understand_1 (σ : rl_S) (b : Int → Int) (hs : SB 2 σ b) (hb : BB b) (n0 : 0 ≤ σ 1 5) (n1 : σ 1 5 ≤ 23) : Ct cW mX7_understand [.ref 1] σ (qV (und_1 σ b)) := by
  refine Ct.of plX7 (Nat.le_of_ble_eq_true rfl) ?_
  have hf := fF_bd b 6 n0
  refine r_aload_n dX7_understand_0 rfl ?_
  refine r_aload_n dX7_understand_1 rfl ?_
  refine i_cvP (c_firstFault_1 σ b hs hb n0 n1) lmX7_44 dX7_understand_2 (Nat.le_of_ble_eq_true rfl) rfl ⟨_, _, rfl⟩ (by decide) (by decide) rfl rfl (Nat.le_of_ble_eq_true rfl) ?_
  refine i_put (k := 1) lpX7_21 dX7_understand_5 (Nat.le_of_ble_eq_true rfl) rfl rfl ?_
  refine r_aload_n dX7_understand_8 rfl ?_
  refine r_aload_n dX7_understand_9 rfl ?_
  refine r_get (k := 1) lfX7_21 dX7_understand_10 (Nat.le_of_ble_eq_true rfl) rfl rfl ?_
  rw [sup_h]
  refine i_const dX7_understand_13 ?_
  refine i_icmp_ne 28 dX7_understand_14 rfl ⟨by omega, by omega⟩ ⟨by omega, by omega⟩ (fun q14 => ?_) (fun q14 => ?_)
  · skip
    refine i_const dX7_understand_28 ?_
    refine i_put (k := 1) lpX7_37 dX7_understand_29 (Nat.le_of_ble_eq_true rfl) rfl rfl ?_
    refine i_const dX7_understand_32 ?_
    refine r_istore_n dX7_understand_33 (Nat.le_of_ble_eq_true rfl) ?_
    exact c_understand_l_1 σ b hs hb n0 n1 _ rfl 6 0 _ _ (by omega) (by omega) (by rw [sup_i _ _ _ _ (show (6 : Nat) ≠ 7 by decide), sup_h]) (by rw [sup_h]; unfold nF; first | (rw [if_pos q14]) | (rw [if_neg q14])) (fun z z0 z1 => absurd z1 (by omega)) (fun z z0 z1 => absurd z1 (by omega)) (fun a i g1 g2 g3 => by
        by_cases ha : a = 1
        · subst ha
          rw [sup_i _ _ _ _ (g3 rfl).2, sup_i _ _ _ _ (g3 rfl).1]
        · rw [sup_k _ _ _ _ _ ha, sup_k _ _ _ _ _ ha])
  · skip
    refine r_aload_n dX7_understand_17 rfl ?_
    refine r_get (k := 1) lfX7_31 dX7_understand_18 (Nat.le_of_ble_eq_true rfl) rfl rfl ?_
    refine i_const dX7_understand_21 ?_
    refine i_iadd dX7_understand_22 ?_
    refine i_const dX7_understand_23 ?_
    rw [sup_i _ _ _ _ (show (5 : Nat) ≠ 6 by decide)]
    refine i_idiv dX7_understand_24 ⟨by omega, by omega⟩ ⟨by omega, by omega⟩ ?_
    refine r_goto 29 dX7_understand_25 rfl ?_
    refine i_put (k := 1) lpX7_37 dX7_understand_29 (Nat.le_of_ble_eq_true rfl) rfl rfl ?_
    refine i_const dX7_understand_32 ?_
    refine r_istore_n dX7_understand_33 (Nat.le_of_ble_eq_true rfl) ?_
    exact c_understand_l_1 σ b hs hb n0 n1 _ rfl 6 0 _ _ (by omega) (by omega) (by rw [sup_i _ _ _ _ (show (6 : Nat) ≠ 7 by decide), sup_h]) (by rw [sup_h]; unfold nF; first | (rw [if_pos q14]) | (rw [if_neg q14])) (fun z z0 z1 => absurd z1 (by omega)) (fun z z0 z1 => absurd z1 (by omega)) (fun a i g1 g2 g3 => by
        by_cases ha : a = 1
        · subst ha
          rw [sup_i _ _ _ _ (g3 rfl).2, sup_i _ _ _ _ (g3 rfl).1]
        · rw [sup_k _ _ _ _ _ ha, sup_k _ _ _ _ _ ha])

set_option maxRecDepth 20000 in
theorem c_shorten_1 (σ : rl_S) (b : Int → Int) (hs : SB 2 σ b) (hb : BB b) (v : Int) (n0 : 0 ≤ v) (n1 : v ≤ 23) : Ct cW mX7_shorten [.ref 1, .int (iI v)] σ (qV (und_1 (sup σ 1 5 v) b)) := by
  refine Ct.of plX7 (Nat.le_of_ble_eq_true rfl) ?_
  refine r_aload_n dX7_shorten_0 rfl ?_
  refine r_iload_n dX7_shorten_1 rfl ?_
  refine i_put (k := 1) lpX7_31 dX7_shorten_2 (Nat.le_of_ble_eq_true rfl) rfl rfl ?_
  refine r_aload_n dX7_shorten_5 rfl ?_
  refine i_cvV (c_understand_1 _ b (fun z z0 z1 => (sup_k _ _ _ _ _ (by decide)).trans (hs z z0 z1)) hb (by rw [sup_h]; exact n0) (by rw [sup_h]; exact n1)) lmX7_34 dX7_shorten_6 (Nat.le_of_ble_eq_true rfl) rfl ⟨_, _, rfl⟩ (by decide) (by decide) rfl rfl (Nat.le_of_ble_eq_true rfl) (fun σ1 hu => ?_)
  refine r_vret rfl dX7_shorten_9 ?_
  exact ⟨rfl, hu⟩

set_option maxRecDepth 20000 in
theorem c_append_1 (σ : rl_S) (b : Int → Int) (hs : SB 2 σ b) (hb : BB b) (v : Int) (v0 : 0 ≤ v ∧ v ≤ 255) (n0 : 0 ≤ σ 1 5) (n1 : σ 1 5 < 23) : Ct cW mX7_append [.ref 1, .int (iI v)] σ (qV (und_1 (sup (sup σ 2 (σ 1 5).toNat v) 1 5 (σ 1 5 + 1)) (bUp b (σ 1 5) v))) := by
  refine Ct.of plX7 (Nat.le_of_ble_eq_true rfl) ?_
  refine r_aload_n dX7_append_0 rfl ?_
  refine r_get (k := 1) lfX7_31 dX7_append_1 (Nat.le_of_ble_eq_true rfl) rfl rfl ?_
  refine i_if_lt 43 dX7_append_4 rfl ⟨by omega, by omega⟩ (fun q4 => ?_) (fun q4 => ?_)
  · exfalso
    omega
  · skip
    refine r_aload_n dX7_append_7 rfl ?_
    refine r_get (k := 1) lfX7_31 dX7_append_8 (Nat.le_of_ble_eq_true rfl) rfl rfl ?_
    refine r_aload_n dX7_append_11 rfl ?_
    refine r_get (k := 1) lfX7_9 dX7_append_12 (Nat.le_of_ble_eq_true rfl) rfl rfl ?_
    refine i_alen (k := 2) dX7_append_15 (Nat.le_of_ble_eq_true rfl) rfl rfl ?_
    refine i_icmp_ge 43 dX7_append_16 rfl ⟨by omega, by omega⟩ ⟨by omega, by omega⟩ (fun q16 => ?_) (fun q16 => ?_)
    · exfalso
      omega
    · skip
      refine r_aload_n dX7_append_19 rfl ?_
      refine r_get (k := 1) lfX7_9 dX7_append_20 (Nat.le_of_ble_eq_true rfl) rfl rfl ?_
      refine r_aload_n dX7_append_23 rfl ?_
      refine r_get (k := 1) lfX7_31 dX7_append_24 (Nat.le_of_ble_eq_true rfl) rfl rfl ?_
      refine r_iload_n dX7_append_27 rfl ?_
      refine i_ast (k := 2) dX7_append_28 (Nat.le_of_ble_eq_true rfl) rfl rfl ⟨by omega, by omega⟩ (by decide) ?_
      refine r_aload_n dX7_append_29 rfl ?_
      refine r_dup dX7_append_30 rfl ?_
      refine r_get (k := 1) lfX7_31 dX7_append_31 (Nat.le_of_ble_eq_true rfl) rfl rfl ?_
      rw [sup_k _ _ _ _ _ (show 1 ≠ 2 by decide)]
      refine i_const dX7_append_34 ?_
      refine i_iadd dX7_append_35 ?_
      refine i_put (k := 1) lpX7_31 dX7_append_36 (Nat.le_of_ble_eq_true rfl) rfl rfl ?_
      refine r_aload_n dX7_append_39 rfl ?_
      refine i_cvV (c_understand_1 _ (bUp b (σ 1 5) v) (fun z z0 z1 => (sup_k _ _ _ _ _ (by decide)).trans (by
          unfold bUp
          by_cases hz : z = σ 1 5
          · rw [if_pos hz, hz, sup_h]
          · rw [if_neg hz, sup_i _ _ _ _ (by omega)]
            exact hs z z0 z1))
          (fun z z0 z1 => by
            unfold bUp
            by_cases hz : z = σ 1 5
            · rw [if_pos hz]; exact v0
            · rw [if_neg hz]; exact hb z z0 z1) (by rw [sup_h]; omega) (by rw [sup_h]; omega)) lmX7_34 dX7_append_40 (Nat.le_of_ble_eq_true rfl) rfl ⟨_, _, rfl⟩ (by decide) (by decide) rfl rfl (Nat.le_of_ble_eq_true rfl) (fun σ1 hu => ?_)
      refine r_vret rfl dX7_append_43 ?_
      exact ⟨rfl, hu⟩

set_option maxRecDepth 20000 in
theorem c_byteAt_5 (σ : rl_S) (b : Int → Int) (hs : SB 6 σ b) (hb : BB b) (t : Int) (h0 : 0 ≤ t) (h1 : t < 23) : Ct cW mX7_byteAt [.ref 5, .int (iI t)] σ (pR (.int (iI (b t))) σ) := by
  refine Ct.of plX7 (Nat.le_of_ble_eq_true rfl) ?_
  refine r_iload_n dX7_byteAt_0 rfl ?_
  refine i_if_lt 22 dX7_byteAt_1 rfl ⟨by omega, by omega⟩ (fun q1 => ?_) (fun q1 => ?_)
  · exfalso
    omega
  · skip
    refine r_iload_n dX7_byteAt_4 rfl ?_
    refine r_aload_n dX7_byteAt_5 rfl ?_
    refine r_get (k := 5) lfX7_9 dX7_byteAt_6 (Nat.le_of_ble_eq_true rfl) rfl rfl ?_
    refine i_alen (k := 6) dX7_byteAt_9 (Nat.le_of_ble_eq_true rfl) rfl rfl ?_
    refine i_icmp_ge 22 dX7_byteAt_10 rfl ⟨by omega, by omega⟩ ⟨by omega, by omega⟩ (fun q10 => ?_) (fun q10 => ?_)
    · exfalso
      omega
    · skip
      refine r_aload_n dX7_byteAt_13 rfl ?_
      refine r_get (k := 5) lfX7_9 dX7_byteAt_14 (Nat.le_of_ble_eq_true rfl) rfl rfl ?_
      refine r_iload_n dX7_byteAt_17 rfl ?_
      refine i_ald (k := 6) dX7_byteAt_18 (Nat.le_of_ble_eq_true rfl) rfl rfl ⟨by omega, by omega⟩ (by decide) ?_
      refine r_goto 23 dX7_byteAt_19 rfl ?_
      refine r_iret rfl dX7_byteAt_23 ?_
      exact ⟨by rw [hs t h0 h1], rfl⟩

set_option maxRecDepth 20000 in
theorem c_two_5 (σ : rl_S) (b : Int → Int) (hs : SB 6 σ b) (hb : BB b) (t : Int) (h0 : 0 ≤ t) (h1 : t < 22) : Ct cW mX7_twoFiguresAt [.ref 5, .int (iI t)] σ (pR (.int (iI (two b t))) σ) := by
  refine Ct.of plX7 (Nat.le_of_ble_eq_true rfl) ?_
  refine i_bipush dX7_twoFiguresAt_0 (by decide) ?_
  refine r_aload_n dX7_twoFiguresAt_2 rfl ?_
  refine r_iload_n dX7_twoFiguresAt_3 rfl ?_
  refine i_cvP (c_byteAt_5 σ b hs hb t h0 (by omega)) lmX7_48 dX7_twoFiguresAt_4 (Nat.le_of_ble_eq_true rfl) rfl ⟨_, _, rfl⟩ (by decide) (by decide) rfl rfl (Nat.le_of_ble_eq_true rfl) ?_
  refine i_bipush dX7_twoFiguresAt_7 (by decide) ?_
  refine i_isub dX7_twoFiguresAt_9 ?_
  refine i_imul dX7_twoFiguresAt_10 ?_
  refine r_aload_n dX7_twoFiguresAt_11 rfl ?_
  refine r_iload_n dX7_twoFiguresAt_12 rfl ?_
  refine i_const dX7_twoFiguresAt_13 ?_
  refine i_iadd dX7_twoFiguresAt_14 ?_
  refine i_cvP (c_byteAt_5 σ b hs hb (t + 1) (by omega) (by omega)) lmX7_48 dX7_twoFiguresAt_15 (Nat.le_of_ble_eq_true rfl) rfl ⟨_, _, rfl⟩ (by decide) (by decide) rfl rfl (Nat.le_of_ble_eq_true rfl) ?_
  refine i_bipush dX7_twoFiguresAt_18 (by decide) ?_
  refine i_isub dX7_twoFiguresAt_20 ?_
  refine i_iadd dX7_twoFiguresAt_21 ?_
  refine r_iret rfl dX7_twoFiguresAt_22 ?_
  exact ⟨rfl, rfl⟩

set_option maxRecDepth 20000 in
theorem c_goesOn_5 (σ : rl_S) (b : Int → Int) (hs : SB 6 σ b) (hb : BB b) (t : Int) (h0 : 0 ≤ t) (h1 : t < 23) : Ct cW mX7_goesOn [.ref 5, .int (iI t)] σ (pR (.int (iI (ob (okA b 1 t)))) σ) := by
  refine Ct.of plX7 (Nat.le_of_ble_eq_true rfl) ?_
  have b0 := hb t h0 h1
  refine r_iload_n dX7_goesOn_0 rfl ?_
  refine i_const dX7_goesOn_1 ?_
  refine i_irem dX7_goesOn_2 ⟨by omega, by omega⟩ ⟨by omega, by omega⟩ ?_
  refine i_const dX7_goesOn_3 ?_
  refine i_icmp_ne 23 dX7_goesOn_4 rfl ⟨by omega, by omega⟩ ⟨by omega, by omega⟩ (fun q4 => ?_) (fun q4 => ?_)
  · skip
    refine r_aload_n dX7_goesOn_23 rfl ?_
    refine r_iload_n dX7_goesOn_24 rfl ?_
    refine i_cvP (c_byteAt_5 σ b hs hb t h0 h1) lmX7_48 dX7_goesOn_25 (Nat.le_of_ble_eq_true rfl) rfl ⟨_, _, rfl⟩ (by decide) (by decide) rfl rfl (Nat.le_of_ble_eq_true rfl) ?_
    refine i_bipush dX7_goesOn_28 (by decide) ?_
    refine i_icmp_lt 43 dX7_goesOn_30 rfl ⟨by omega, by omega⟩ ⟨by omega, by omega⟩ (fun q30 => ?_) (fun q30 => ?_)
    · skip
      refine i_const dX7_goesOn_43 ?_
      refine r_zret rfl dX7_goesOn_44 rfl ?_
      refine ⟨?_, rfl⟩
      first
        | (have e : okA b 1 t = true := by
            simp only [okA]
            (repeat (first | (rw [if_pos (by omega)]) | (rw [if_neg (by omega)])))
            simp only [Bool.and_eq_true, decide_eq_true_eq, and_true]
            omega
           rw [e]; rfl)
        | (have e : okA b 1 t = false := by
            simp only [okA]
            (repeat (first | (rw [if_pos (by omega)]) | (rw [if_neg (by omega)])))
            simp only [Bool.and_eq_false_iff, decide_eq_false_iff_not, Bool.true_eq_false, or_false]
            omega
           rw [e]; rfl)
    · skip
      refine r_aload_n dX7_goesOn_33 rfl ?_
      refine r_iload_n dX7_goesOn_34 rfl ?_
      refine i_cvP (c_byteAt_5 σ b hs hb t h0 h1) lmX7_48 dX7_goesOn_35 (Nat.le_of_ble_eq_true rfl) rfl ⟨_, _, rfl⟩ (by decide) (by decide) rfl rfl (Nat.le_of_ble_eq_true rfl) ?_
      refine i_bipush dX7_goesOn_38 (by decide) ?_
      refine i_icmp_le 45 dX7_goesOn_40 rfl ⟨by omega, by omega⟩ ⟨by omega, by omega⟩ (fun q40 => ?_) (fun q40 => ?_)
      · skip
        refine r_iload_n dX7_goesOn_45 rfl ?_
        refine i_const dX7_goesOn_46 ?_
        refine i_irem dX7_goesOn_47 ⟨by omega, by omega⟩ ⟨by omega, by omega⟩ ?_
        refine i_if_ne 67 dX7_goesOn_48 rfl ⟨by omega, by omega⟩ (fun q48 => ?_) (fun q48 => ?_)
        · skip
          refine r_iload_n dX7_goesOn_67 rfl ?_
          refine i_const dX7_goesOn_68 ?_
          refine i_irem dX7_goesOn_69 ⟨by omega, by omega⟩ ⟨by omega, by omega⟩ ?_
          refine i_const dX7_goesOn_70 ?_
          refine i_icmp_eq 85 dX7_goesOn_71 rfl ⟨by omega, by omega⟩ ⟨by omega, by omega⟩ (fun q71 => ?_) (fun q71 => ?_)
          · skip
            refine i_const dX7_goesOn_85 ?_
            refine r_goto 90 dX7_goesOn_86 rfl ?_
            refine r_zret rfl dX7_goesOn_90 rfl ?_
            refine ⟨?_, rfl⟩
            first
              | (have e : okA b 1 t = true := by
                  simp only [okA]
                  (repeat (first | (rw [if_pos (by omega)]) | (rw [if_neg (by omega)])))
                  simp only [Bool.and_eq_true, decide_eq_true_eq, and_true]
                  omega
                 rw [e]; rfl)
              | (have e : okA b 1 t = false := by
                  simp only [okA]
                  (repeat (first | (rw [if_pos (by omega)]) | (rw [if_neg (by omega)])))
                  simp only [Bool.and_eq_false_iff, decide_eq_false_iff_not, Bool.true_eq_false, or_false]
                  omega
                 rw [e]; rfl)
          · skip
            refine r_aload_n dX7_goesOn_74 rfl ?_
            refine r_iload_n dX7_goesOn_75 rfl ?_
            refine i_const dX7_goesOn_76 ?_
            refine i_isub dX7_goesOn_77 ?_
            have b1 := hb (t - 1) (by omega) (by omega)
            refine i_cvP (c_two_5 σ b hs hb (t - 1) (by omega) (by omega)) lmX7_51 dX7_goesOn_78 (Nat.le_of_ble_eq_true rfl) rfl ⟨_, _, rfl⟩ (by decide) (by decide) rfl rfl (Nat.le_of_ble_eq_true rfl) ?_
            have b2 : two b (t - 1) = 10 * (b (t - 1) - 48) + (b (t - 1 + 1) - 48) := rfl
            have b3 : t - 1 + 1 = t := by omega
            rw [b3] at b2
            refine i_const dX7_goesOn_81 ?_
            refine i_icmp_lt 89 dX7_goesOn_82 rfl ⟨by omega, by omega⟩ ⟨by omega, by omega⟩ (fun q82 => ?_) (fun q82 => ?_)
            · skip
              refine i_const dX7_goesOn_89 ?_
              refine r_zret rfl dX7_goesOn_90 rfl ?_
              refine ⟨?_, rfl⟩
              first
                | (have e : okA b 1 t = true := by
                    simp only [okA]
                    (repeat (first | (rw [if_pos (by omega)]) | (rw [if_neg (by omega)])))
                    simp only [Bool.and_eq_true, decide_eq_true_eq, and_true]
                    omega
                   rw [e]; rfl)
                | (have e : okA b 1 t = false := by
                    simp only [okA]
                    (repeat (first | (rw [if_pos (by omega)]) | (rw [if_neg (by omega)])))
                    simp only [Bool.and_eq_false_iff, decide_eq_false_iff_not, Bool.true_eq_false, or_false]
                    omega
                   rw [e]; rfl)
            · skip
              refine i_const dX7_goesOn_85 ?_
              refine r_goto 90 dX7_goesOn_86 rfl ?_
              refine r_zret rfl dX7_goesOn_90 rfl ?_
              refine ⟨?_, rfl⟩
              first
                | (have e : okA b 1 t = true := by
                    simp only [okA]
                    (repeat (first | (rw [if_pos (by omega)]) | (rw [if_neg (by omega)])))
                    simp only [Bool.and_eq_true, decide_eq_true_eq, and_true]
                    omega
                   rw [e]; rfl)
                | (have e : okA b 1 t = false := by
                    simp only [okA]
                    (repeat (first | (rw [if_pos (by omega)]) | (rw [if_neg (by omega)])))
                    simp only [Bool.and_eq_false_iff, decide_eq_false_iff_not, Bool.true_eq_false, or_false]
                    omega
                   rw [e]; rfl)
        · skip
          refine r_iload_n dX7_goesOn_51 rfl ?_
          refine i_const dX7_goesOn_52 ?_
          refine i_idiv dX7_goesOn_53 ⟨by omega, by omega⟩ ⟨by omega, by omega⟩ ?_
          refine r_aload_n dX7_goesOn_54 rfl ?_
          refine r_get (k := 5) lfX7_28 dX7_goesOn_55 (Nat.le_of_ble_eq_true rfl) rfl rfl ?_
          rw [show Value.int 1 = .int (iI 1) from rfl]
          refine i_icmp_ge 65 dX7_goesOn_58 rfl ⟨by omega, by omega⟩ ⟨by omega, by omega⟩ (fun q58 => ?_) (fun q58 => ?_)
          · skip
            refine i_const dX7_goesOn_65 ?_
            refine r_zret rfl dX7_goesOn_66 rfl ?_
            refine ⟨?_, rfl⟩
            first
              | (have e : okA b 1 t = true := by
                  simp only [okA]
                  (repeat (first | (rw [if_pos (by omega)]) | (rw [if_neg (by omega)])))
                  simp only [Bool.and_eq_true, decide_eq_true_eq, and_true]
                  omega
                 rw [e]; rfl)
              | (have e : okA b 1 t = false := by
                  simp only [okA]
                  (repeat (first | (rw [if_pos (by omega)]) | (rw [if_neg (by omega)])))
                  simp only [Bool.and_eq_false_iff, decide_eq_false_iff_not, Bool.true_eq_false, or_false]
                  omega
                 rw [e]; rfl)
          · skip
            refine i_const dX7_goesOn_61 ?_
            refine r_goto 66 dX7_goesOn_62 rfl ?_
            refine r_zret rfl dX7_goesOn_66 rfl ?_
            refine ⟨?_, rfl⟩
            first
              | (have e : okA b 1 t = true := by
                  simp only [okA]
                  (repeat (first | (rw [if_pos (by omega)]) | (rw [if_neg (by omega)])))
                  simp only [Bool.and_eq_true, decide_eq_true_eq, and_true]
                  omega
                 rw [e]; rfl)
              | (have e : okA b 1 t = false := by
                  simp only [okA]
                  (repeat (first | (rw [if_pos (by omega)]) | (rw [if_neg (by omega)])))
                  simp only [Bool.and_eq_false_iff, decide_eq_false_iff_not, Bool.true_eq_false, or_false]
                  omega
                 rw [e]; rfl)
      · skip
        refine i_const dX7_goesOn_43 ?_
        refine r_zret rfl dX7_goesOn_44 rfl ?_
        refine ⟨?_, rfl⟩
        first
          | (have e : okA b 1 t = true := by
              simp only [okA]
              (repeat (first | (rw [if_pos (by omega)]) | (rw [if_neg (by omega)])))
              simp only [Bool.and_eq_true, decide_eq_true_eq, and_true]
              omega
             rw [e]; rfl)
          | (have e : okA b 1 t = false := by
              simp only [okA]
              (repeat (first | (rw [if_pos (by omega)]) | (rw [if_neg (by omega)])))
              simp only [Bool.and_eq_false_iff, decide_eq_false_iff_not, Bool.true_eq_false, or_false]
              omega
             rw [e]; rfl)
  · skip
    refine r_aload_n dX7_goesOn_7 rfl ?_
    refine r_iload_n dX7_goesOn_8 rfl ?_
    refine i_cvP (c_byteAt_5 σ b hs hb t h0 h1) lmX7_48 dX7_goesOn_9 (Nat.le_of_ble_eq_true rfl) rfl ⟨_, _, rfl⟩ (by decide) (by decide) rfl rfl (Nat.le_of_ble_eq_true rfl) ?_
    refine i_bipush dX7_goesOn_12 (by decide) ?_
    refine i_icmp_ne 21 dX7_goesOn_14 rfl ⟨by omega, by omega⟩ ⟨by omega, by omega⟩ (fun q14 => ?_) (fun q14 => ?_)
    · skip
      refine i_const dX7_goesOn_21 ?_
      refine r_zret rfl dX7_goesOn_22 rfl ?_
      refine ⟨?_, rfl⟩
      first
        | (have e : okA b 1 t = true := by
            simp only [okA]
            (repeat (first | (rw [if_pos (by omega)]) | (rw [if_neg (by omega)])))
            simp only [Bool.and_eq_true, decide_eq_true_eq, and_true]
            omega
           rw [e]; rfl)
        | (have e : okA b 1 t = false := by
            simp only [okA]
            (repeat (first | (rw [if_pos (by omega)]) | (rw [if_neg (by omega)])))
            simp only [Bool.and_eq_false_iff, decide_eq_false_iff_not, Bool.true_eq_false, or_false]
            omega
           rw [e]; rfl)
    · skip
      refine i_const dX7_goesOn_17 ?_
      refine r_goto 22 dX7_goesOn_18 rfl ?_
      refine r_zret rfl dX7_goesOn_22 rfl ?_
      refine ⟨?_, rfl⟩
      first
        | (have e : okA b 1 t = true := by
            simp only [okA]
            (repeat (first | (rw [if_pos (by omega)]) | (rw [if_neg (by omega)])))
            simp only [Bool.and_eq_true, decide_eq_true_eq, and_true]
            omega
           rw [e]; rfl)
        | (have e : okA b 1 t = false := by
            simp only [okA]
            (repeat (first | (rw [if_pos (by omega)]) | (rw [if_neg (by omega)])))
            simp only [Bool.and_eq_false_iff, decide_eq_false_iff_not, Bool.true_eq_false, or_false]
            omega
           rw [e]; rfl)

theorem c_firstFault_l_5 (σ : rl_S) (b : Int → Int) (hs : SB 6 σ b) (hb : BB b) (n0 : 0 ≤ σ 5 5) (n1 : σ 5 5 ≤ 23) : ∀ (n : Nat) (k : Int), 0 ≤ k → k + n = σ 5 5 → ∀ z, z = flt b 1 (σ 5 5) n k → Rn cW mX7_firstFault 2 [.ref 5, .int (iI k)] [] σ (pR (.int (iI z)) σ) := by
  intro n
  induction n with
  | zero =>
    intro k h0 hk z hz
    simp only [flt] at hz
    refine r_iload_n dX7_firstFault_2 rfl ?_
    refine r_aload_n dX7_firstFault_3 rfl ?_
    refine r_get (k := 5) lfX7_31 dX7_firstFault_4 (Nat.le_of_ble_eq_true rfl) rfl rfl ?_
    refine i_icmp_ge 26 dX7_firstFault_7 rfl ⟨by omega, by omega⟩ ⟨by omega, by omega⟩ (fun q7 => ?_) (fun q7 => ?_)
    · skip
      refine r_aload_n dX7_firstFault_26 rfl ?_
      refine r_get (k := 5) lfX7_31 dX7_firstFault_27 (Nat.le_of_ble_eq_true rfl) rfl rfl ?_
      refine i_if_eq 43 dX7_firstFault_30 rfl ⟨by omega, by omega⟩ (fun q30 => ?_) (fun q30 => ?_)
      · skip
        refine i_const dX7_firstFault_43 ?_
        refine r_goto 51 dX7_firstFault_44 rfl ?_
        refine r_iret rfl dX7_firstFault_51 ?_
        exact ⟨by rw [hz]; (repeat (first | rfl | (rw [if_pos (by omega)]) | (rw [if_neg (by omega)]))), rfl⟩
      · skip
        refine r_aload_n dX7_firstFault_33 rfl ?_
        refine r_get (k := 5) lfX7_31 dX7_firstFault_34 (Nat.le_of_ble_eq_true rfl) rfl rfl ?_
        refine i_const dX7_firstFault_37 ?_
        refine i_irem dX7_firstFault_38 ⟨by omega, by omega⟩ ⟨by omega, by omega⟩ ?_
        refine i_const dX7_firstFault_39 ?_
        refine i_icmp_ne 47 dX7_firstFault_40 rfl ⟨by omega, by omega⟩ ⟨by omega, by omega⟩ (fun q40 => ?_) (fun q40 => ?_)
        · skip
          refine r_aload_n dX7_firstFault_47 rfl ?_
          refine r_get (k := 5) lfX7_31 dX7_firstFault_48 (Nat.le_of_ble_eq_true rfl) rfl rfl ?_
          refine r_iret rfl dX7_firstFault_51 ?_
          exact ⟨by rw [hz]; (repeat (first | rfl | (rw [if_pos (by omega)]) | (rw [if_neg (by omega)]))), rfl⟩
        · skip
          refine i_const dX7_firstFault_43 ?_
          refine r_goto 51 dX7_firstFault_44 rfl ?_
          refine r_iret rfl dX7_firstFault_51 ?_
          exact ⟨by rw [hz]; (repeat (first | rfl | (rw [if_pos (by omega)]) | (rw [if_neg (by omega)]))), rfl⟩
    · exfalso
      omega
  | succ n ih =>
    intro k h0 hk z hz
    have ho := ob_bd (okA b 1 k)
    simp only [flt] at hz
    refine r_iload_n dX7_firstFault_2 rfl ?_
    refine r_aload_n dX7_firstFault_3 rfl ?_
    refine r_get (k := 5) lfX7_31 dX7_firstFault_4 (Nat.le_of_ble_eq_true rfl) rfl rfl ?_
    refine i_icmp_ge 26 dX7_firstFault_7 rfl ⟨by omega, by omega⟩ ⟨by omega, by omega⟩ (fun q7 => ?_) (fun q7 => ?_)
    · exfalso
      omega
    · skip
      refine r_aload_n dX7_firstFault_10 rfl ?_
      refine r_iload_n dX7_firstFault_11 rfl ?_
      refine i_cvP (c_goesOn_5 σ b hs hb k h0 (by omega)) lmX7_54 dX7_firstFault_12 (Nat.le_of_ble_eq_true rfl) rfl ⟨_, _, rfl⟩ (by decide) (by decide) rfl rfl (Nat.le_of_ble_eq_true rfl) ?_
      refine i_if_ne 20 dX7_firstFault_15 rfl ⟨by omega, by omega⟩ (fun q15 => ?_) (fun q15 => ?_)
      · skip
        refine i_iinc dX7_firstFault_20 rfl (Nat.le_of_ble_eq_true rfl) ?_
        refine r_goto 2 dX7_firstFault_23 rfl ?_
        rw [if_pos (ob_t q15)] at hz
        exact ih (k + 1) (by omega) (by omega) z hz
      · skip
        refine r_iload_n dX7_firstFault_18 rfl ?_
        refine r_iret rfl dX7_firstFault_19 ?_
        rw [if_neg (by rw [ob_f q15]; decide)] at hz
        exact ⟨by rw [hz], rfl⟩

set_option maxRecDepth 20000 in
theorem c_firstFault_5 (σ : rl_S) (b : Int → Int) (hs : SB 6 σ b) (hb : BB b) (n0 : 0 ≤ σ 5 5) (n1 : σ 5 5 ≤ 23) : Ct cW mX7_firstFault [.ref 5] σ (pR (.int (iI (fF b 1 (σ 5 5)))) σ) := by
  refine Ct.of plX7 (Nat.le_of_ble_eq_true rfl) ?_
  refine i_const dX7_firstFault_0 ?_
  refine r_istore_n dX7_firstFault_1 (Nat.le_of_ble_eq_true rfl) ?_
  exact c_firstFault_l_5 σ b hs hb n0 n1 (σ 5 5).toNat 0 (by omega) (by omega) _ rfl

set_option maxRecDepth 20000 in
theorem c_heightOf_5 (σ : rl_S) (f : Int → Int) (hs : S6 7 σ f) (t : Int) (h0 : 0 ≤ t) (h1 : t < 6) : Ct cW mX7_heightOf [.ref 5, .int (iI t)] σ (pR (.int (iI (f t))) σ) := by
  refine Ct.of plX7 (Nat.le_of_ble_eq_true rfl) ?_
  refine r_iload_n dX7_heightOf_0 rfl ?_
  refine i_if_lt 22 dX7_heightOf_1 rfl ⟨by omega, by omega⟩ (fun q1 => ?_) (fun q1 => ?_)
  · exfalso
    omega
  · skip
    refine r_iload_n dX7_heightOf_4 rfl ?_
    refine r_aload_n dX7_heightOf_5 rfl ?_
    refine r_get (k := 5) lfX7_15 dX7_heightOf_6 (Nat.le_of_ble_eq_true rfl) rfl rfl ?_
    refine i_alen (k := 7) dX7_heightOf_9 (Nat.le_of_ble_eq_true rfl) rfl rfl ?_
    refine i_icmp_ge 22 dX7_heightOf_10 rfl ⟨by omega, by omega⟩ ⟨by omega, by omega⟩ (fun q10 => ?_) (fun q10 => ?_)
    · exfalso
      omega
    · skip
      refine r_aload_n dX7_heightOf_13 rfl ?_
      refine r_get (k := 5) lfX7_15 dX7_heightOf_14 (Nat.le_of_ble_eq_true rfl) rfl rfl ?_
      refine r_iload_n dX7_heightOf_17 rfl ?_
      refine i_ald (k := 7) dX7_heightOf_18 (Nat.le_of_ble_eq_true rfl) rfl rfl ⟨by omega, by omega⟩ (by decide) ?_
      refine r_goto 23 dX7_heightOf_19 rfl ?_
      refine r_iret rfl dX7_heightOf_23 ?_
      exact ⟨by rw [hs t h0 h1], rfl⟩

set_option maxRecDepth 20000 in
theorem c_lengthOf_5 (σ : rl_S) (f : Int → Int) (hs : S6 8 σ f) (t : Int) (h0 : 0 ≤ t) (h1 : t < 6) : Ct cW mX7_lengthOf [.ref 5, .int (iI t)] σ (pR (.int (iI (f t))) σ) := by
  refine Ct.of plX7 (Nat.le_of_ble_eq_true rfl) ?_
  refine r_iload_n dX7_lengthOf_0 rfl ?_
  refine i_if_lt 22 dX7_lengthOf_1 rfl ⟨by omega, by omega⟩ (fun q1 => ?_) (fun q1 => ?_)
  · exfalso
    omega
  · skip
    refine r_iload_n dX7_lengthOf_4 rfl ?_
    refine r_aload_n dX7_lengthOf_5 rfl ?_
    refine r_get (k := 5) lfX7_18 dX7_lengthOf_6 (Nat.le_of_ble_eq_true rfl) rfl rfl ?_
    refine i_alen (k := 8) dX7_lengthOf_9 (Nat.le_of_ble_eq_true rfl) rfl rfl ?_
    refine i_icmp_ge 22 dX7_lengthOf_10 rfl ⟨by omega, by omega⟩ ⟨by omega, by omega⟩ (fun q10 => ?_) (fun q10 => ?_)
    · exfalso
      omega
    · skip
      refine r_aload_n dX7_lengthOf_13 rfl ?_
      refine r_get (k := 5) lfX7_18 dX7_lengthOf_14 (Nat.le_of_ble_eq_true rfl) rfl rfl ?_
      refine r_iload_n dX7_lengthOf_17 rfl ?_
      refine i_ald (k := 8) dX7_lengthOf_18 (Nat.le_of_ble_eq_true rfl) rfl rfl ⟨by omega, by omega⟩ (by decide) ?_
      refine r_goto 23 dX7_lengthOf_19 rfl ?_
      refine r_iret rfl dX7_lengthOf_23 ?_
      exact ⟨by rw [hs t h0 h1], rfl⟩

set_option maxRecDepth 20000 in
theorem c_isFull_5 (σ : rl_S) (n0 : 0 ≤ σ 5 5) (n1 : σ 5 5 ≤ 23) : Ct cW mX7_isFull [.ref 5] σ (pR (.int (iI (ob (decide (3 ≤ σ 5 5))))) σ) := by
  refine Ct.of plX7 (Nat.le_of_ble_eq_true rfl) ?_
  refine r_aload_n dX7_isFull_0 rfl ?_
  refine r_get (k := 5) lfX7_31 dX7_isFull_1 (Nat.le_of_ble_eq_true rfl) rfl rfl ?_
  refine r_aload_n dX7_isFull_4 rfl ?_
  refine r_get (k := 5) lfX7_25 dX7_isFull_5 (Nat.le_of_ble_eq_true rfl) rfl rfl ?_
  rw [show Value.int 3 = .int (iI 3) from rfl]
  refine i_icmp_lt 15 dX7_isFull_8 rfl ⟨by omega, by omega⟩ ⟨by omega, by omega⟩ (fun q8 => ?_) (fun q8 => ?_)
  · skip
    refine i_const dX7_isFull_15 ?_
    refine r_zret rfl dX7_isFull_16 rfl ?_
    first
      | (refine ⟨?_, rfl⟩; rw [decide_eq_true (by omega)]; rfl)
      | (refine ⟨?_, rfl⟩; rw [decide_eq_false (by omega)]; rfl)
  · skip
    refine i_const dX7_isFull_11 ?_
    refine r_goto 16 dX7_isFull_12 rfl ?_
    refine r_zret rfl dX7_isFull_16 rfl ?_
    first
      | (refine ⟨?_, rfl⟩; rw [decide_eq_true (by omega)]; rfl)
      | (refine ⟨?_, rfl⟩; rw [decide_eq_false (by omega)]; rfl)

/-- what understanding a text does -/
def und_5 (σ : rl_S) (b : Int → Int) : rl_S → Prop := fun σ2 => σ2 5 6 = fF b 1 (σ 5 5) ∧ σ2 5 7 = nF b 1 (σ 5 5) ∧ S6 7 σ2 (hF b (nF b 1 (σ 5 5))) ∧ S6 8 σ2 (lF b (nF b 1 (σ 5 5))) ∧ ∀ k i, k ≠ 7 → k ≠ 8 → (k = 5 → i ≠ 6 ∧ i ≠ 7) → σ2 k i = σ k i
theorem c_understand_l_5 (σ : rl_S) (b : Int → Int) (hs : SB 6 σ b) (hb : BB b) (n0 : 0 ≤ σ 5 5) (n1 : σ 5 5 ≤ 23) (N : Int) (hN : N = nF b 1 (σ 5 5)) : ∀ (n : Nat) (k : Int) (lx : Value) (σ2 : rl_S), 0 ≤ k → k + n = 6 →
    σ2 5 6 = fF b 1 (σ 5 5) → σ2 5 7 = N → (∀ z : Int, 0 ≤ z → z < k → σ2 7 z.toNat = hF b N z) → (∀ z : Int, 0 ≤ z → z < k → σ2 8 z.toNat = lF b N z) → (∀ k i, k ≠ 7 → k ≠ 8 → (k = 5 → i ≠ 6 ∧ i ≠ 7) → σ2 k i = σ k i) →
    Rn cW mX7_understand 34 [.ref 5, .int (iI k), lx] [] σ2 (qV (und_5 σ b)) := by
  intro n
  induction n with
  | zero =>
    intro k lx σ2 h0 hk e6 e7 eh el eo
    refine r_iload_n dX7_understand_34 rfl ?_
    refine r_aload_n dX7_understand_35 rfl ?_
    refine r_get (k := 5) lfX7_15 dX7_understand_36 (Nat.le_of_ble_eq_true rfl) rfl rfl ?_
    refine i_alen (k := 7) dX7_understand_39 (Nat.le_of_ble_eq_true rfl) rfl rfl ?_
    refine i_icmp_ge 119 dX7_understand_40 rfl ⟨by omega, by omega⟩ ⟨by omega, by omega⟩ (fun q40 => ?_) (fun q40 => ?_)
    · skip
      refine r_vret rfl dX7_understand_119 ?_
      refine ⟨rfl, e6, by rw [e7, hN], fun z z0 z1 => ?_, fun z z0 z1 => ?_, eo⟩
      · rw [← hN]; exact eh z z0 (by omega)
      · rw [← hN]; exact el z z0 (by omega)
    · exfalso
      omega
  | succ n ih =>
    intro k lx σ2 h0 hk e6 e7 eh el eo
    have hnb := nF_bd b 1 n0
    rw [← hN] at hnb
    have hs2 : SB 6 σ2 b := fun z z0 z1 => by rw [eo 6 _ (by decide) (by decide) (fun q => absurd q (by decide))]; exact hs z z0 z1
    refine r_iload_n dX7_understand_34 rfl ?_
    refine r_aload_n dX7_understand_35 rfl ?_
    refine r_get (k := 5) lfX7_15 dX7_understand_36 (Nat.le_of_ble_eq_true rfl) rfl rfl ?_
    refine i_alen (k := 7) dX7_understand_39 (Nat.le_of_ble_eq_true rfl) rfl rfl ?_
    refine i_icmp_ge 119 dX7_understand_40 rfl ⟨by omega, by omega⟩ ⟨by omega, by omega⟩ (fun q40 => ?_) (fun q40 => ?_)
    · exfalso
      omega
    · skip
      refine r_iload_n dX7_understand_43 rfl ?_
      refine r_aload_n dX7_understand_44 rfl ?_
      refine r_get (k := 5) lfX7_18 dX7_understand_45 (Nat.le_of_ble_eq_true rfl) rfl rfl ?_
      refine i_alen (k := 8) dX7_understand_48 (Nat.le_of_ble_eq_true rfl) rfl rfl ?_
      refine i_icmp_ge 119 dX7_understand_49 rfl ⟨by omega, by omega⟩ ⟨by omega, by omega⟩ (fun q49 => ?_) (fun q49 => ?_)
      · exfalso
        omega
      · skip
        refine r_iload_n dX7_understand_52 rfl ?_
        refine r_aload_n dX7_understand_53 rfl ?_
        refine r_get (k := 5) lfX7_37 dX7_understand_54 (Nat.le_of_ble_eq_true rfl) rfl rfl ?_
        rw [e7]
        refine i_icmp_ge 64 dX7_understand_57 rfl ⟨by omega, by omega⟩ ⟨by omega, by omega⟩ (fun q57 => ?_) (fun q57 => ?_)
        · skip
          refine i_const dX7_understand_64 ?_
          refine r_istore_n dX7_understand_65 (Nat.le_of_ble_eq_true rfl) ?_
          refine r_aload_n dX7_understand_66 rfl ?_
          refine r_get (k := 5) lfX7_15 dX7_understand_67 (Nat.le_of_ble_eq_true rfl) rfl rfl ?_
          refine r_iload_n dX7_understand_70 rfl ?_
          refine r_iload_n dX7_understand_71 rfl ?_
          refine i_if_eq 88 dX7_understand_72 rfl ⟨by omega, by omega⟩ (fun q72 => ?_) (fun q72 => ?_)
          · skip
            refine i_const dX7_understand_88 ?_
            refine i_ast (k := 7) dX7_understand_89 (Nat.le_of_ble_eq_true rfl) rfl rfl ⟨by omega, by omega⟩ (by decide) ?_
            refine r_aload_n dX7_understand_90 rfl ?_
            refine r_get (k := 5) lfX7_18 dX7_understand_91 (Nat.le_of_ble_eq_true rfl) rfl rfl ?_
            refine r_iload_n dX7_understand_94 rfl ?_
            refine r_iload_n dX7_understand_95 rfl ?_
            refine i_if_eq 111 dX7_understand_96 rfl ⟨by omega, by omega⟩ (fun q96 => ?_) (fun q96 => ?_)
            · skip
              refine i_const dX7_understand_111 ?_
              refine i_ast (k := 8) dX7_understand_112 (Nat.le_of_ble_eq_true rfl) rfl rfl ⟨by omega, by omega⟩ (by decide) ?_
              refine i_iinc dX7_understand_113 rfl (Nat.le_of_ble_eq_true rfl) ?_
              refine r_goto 34 dX7_understand_116 rfl ?_
              exact ih (k + 1) _ _ (by omega) (by omega) (by rw [sup_k _ _ _ _ _ (show 5 ≠ 8 by decide), sup_k _ _ _ _ _ (show 5 ≠ 7 by decide)]; exact e6) (by rw [sup_k _ _ _ _ _ (show 5 ≠ 8 by decide), sup_k _ _ _ _ _ (show 5 ≠ 7 by decide)]; exact e7)
                (row_o (row_up eh h0 (by simp only [hF]; first | (rw [if_pos (by omega)]) | (rw [if_neg (by omega)]))) (by decide)) (row_up (row_o el (by decide)) h0 (by simp only [lF]; first | (rw [if_pos (by omega)]) | (rw [if_neg (by omega)])))
                (fun a i g1 g2 g3 => (sup_k _ _ _ _ _ g2).trans ((sup_k _ _ _ _ _ g1).trans (eo a i g1 g2 g3)))
            · exfalso
              omega
          · exfalso
            omega
        · skip
          refine i_const dX7_understand_60 ?_
          refine r_goto 65 dX7_understand_61 rfl ?_
          refine r_istore_n dX7_understand_65 (Nat.le_of_ble_eq_true rfl) ?_
          refine r_aload_n dX7_understand_66 rfl ?_
          refine r_get (k := 5) lfX7_15 dX7_understand_67 (Nat.le_of_ble_eq_true rfl) rfl rfl ?_
          refine r_iload_n dX7_understand_70 rfl ?_
          refine r_iload_n dX7_understand_71 rfl ?_
          refine i_if_eq 88 dX7_understand_72 rfl ⟨by omega, by omega⟩ (fun q72 => ?_) (fun q72 => ?_)
          · exfalso
            omega
          · skip
            refine r_aload_n dX7_understand_75 rfl ?_
            refine i_const dX7_understand_76 ?_
            refine r_iload_n dX7_understand_77 rfl ?_
            refine i_imul dX7_understand_78 ?_
            refine i_cvP (c_byteAt_5 σ2 b hs2 hb (4 * k) (by omega) (by omega)) lmX7_48 dX7_understand_79 (Nat.le_of_ble_eq_true rfl) rfl ⟨_, _, rfl⟩ (by decide) (by decide) rfl rfl (Nat.le_of_ble_eq_true rfl) ?_
            refine i_bipush dX7_understand_82 (by decide) ?_
            refine i_isub dX7_understand_84 ?_
            refine r_goto 89 dX7_understand_85 rfl ?_
            refine i_ast (k := 7) dX7_understand_89 (Nat.le_of_ble_eq_true rfl) rfl rfl ⟨by omega, by omega⟩ (by decide) ?_
            refine r_aload_n dX7_understand_90 rfl ?_
            refine r_get (k := 5) lfX7_18 dX7_understand_91 (Nat.le_of_ble_eq_true rfl) rfl rfl ?_
            refine r_iload_n dX7_understand_94 rfl ?_
            refine r_iload_n dX7_understand_95 rfl ?_
            refine i_if_eq 111 dX7_understand_96 rfl ⟨by omega, by omega⟩ (fun q96 => ?_) (fun q96 => ?_)
            · exfalso
              omega
            · skip
              refine r_aload_n dX7_understand_99 rfl ?_
              refine i_const dX7_understand_100 ?_
              refine r_iload_n dX7_understand_101 rfl ?_
              refine i_imul dX7_understand_102 ?_
              refine i_const dX7_understand_103 ?_
              refine i_iadd dX7_understand_104 ?_
              refine i_cvP (c_two_5 _ b (row_o hs2 (by decide)) hb (4 * k + 1) (by omega) (by omega)) lmX7_51 dX7_understand_105 (Nat.le_of_ble_eq_true rfl) rfl ⟨_, _, rfl⟩ (by decide) (by decide) rfl rfl (Nat.le_of_ble_eq_true rfl) ?_
              refine r_goto 112 dX7_understand_108 rfl ?_
              refine i_ast (k := 8) dX7_understand_112 (Nat.le_of_ble_eq_true rfl) rfl rfl ⟨by omega, by omega⟩ (by decide) ?_
              refine i_iinc dX7_understand_113 rfl (Nat.le_of_ble_eq_true rfl) ?_
              refine r_goto 34 dX7_understand_116 rfl ?_
              exact ih (k + 1) _ _ (by omega) (by omega) (by rw [sup_k _ _ _ _ _ (show 5 ≠ 8 by decide), sup_k _ _ _ _ _ (show 5 ≠ 7 by decide)]; exact e6) (by rw [sup_k _ _ _ _ _ (show 5 ≠ 8 by decide), sup_k _ _ _ _ _ (show 5 ≠ 7 by decide)]; exact e7)
                (row_o (row_up eh h0 (by simp only [hF]; first | (rw [if_pos (by omega)]) | (rw [if_neg (by omega)]))) (by decide)) (row_up (row_o el (by decide)) h0 (by simp only [lF]; first | (rw [if_pos (by omega)]) | (rw [if_neg (by omega)])))
                (fun a i g1 g2 g3 => (sup_k _ _ _ _ _ g2).trans ((sup_k _ _ _ _ _ g1).trans (eo a i g1 g2 g3)))

set_option maxRecDepth 20000 in
theorem c_understand_5 (σ : rl_S) (b : Int → Int) (hs : SB 6 σ b) (hb : BB b) (n0 : 0 ≤ σ 5 5) (n1 : σ 5 5 ≤ 23) : Ct cW mX7_understand [.ref 5] σ (qV (und_5 σ b)) := by
  refine Ct.of plX7 (Nat.le_of_ble_eq_true rfl) ?_
  have hf := fF_bd b 1 n0
  refine r_aload_n dX7_understand_0 rfl ?_
  refine r_aload_n dX7_understand_1 rfl ?_
  refine i_cvP (c_firstFault_5 σ b hs hb n0 n1) lmX7_44 dX7_understand_2 (Nat.le_of_ble_eq_true rfl) rfl ⟨_, _, rfl⟩ (by decide) (by decide) rfl rfl (Nat.le_of_ble_eq_true rfl) ?_
  refine i_put (k := 5) lpX7_21 dX7_understand_5 (Nat.le_of_ble_eq_true rfl) rfl rfl ?_
  refine r_aload_n dX7_understand_8 rfl ?_
  refine r_aload_n dX7_understand_9 rfl ?_
  refine r_get (k := 5) lfX7_21 dX7_understand_10 (Nat.le_of_ble_eq_true rfl) rfl rfl ?_
  rw [sup_h]
  refine i_const dX7_understand_13 ?_
  refine i_icmp_ne 28 dX7_understand_14 rfl ⟨by omega, by omega⟩ ⟨by omega, by omega⟩ (fun q14 => ?_) (fun q14 => ?_)
  · skip
    refine i_const dX7_understand_28 ?_
    refine i_put (k := 5) lpX7_37 dX7_understand_29 (Nat.le_of_ble_eq_true rfl) rfl rfl ?_
    refine i_const dX7_understand_32 ?_
    refine r_istore_n dX7_understand_33 (Nat.le_of_ble_eq_true rfl) ?_
    exact c_understand_l_5 σ b hs hb n0 n1 _ rfl 6 0 _ _ (by omega) (by omega) (by rw [sup_i _ _ _ _ (show (6 : Nat) ≠ 7 by decide), sup_h]) (by rw [sup_h]; unfold nF; first | (rw [if_pos q14]) | (rw [if_neg q14])) (fun z z0 z1 => absurd z1 (by omega)) (fun z z0 z1 => absurd z1 (by omega)) (fun a i g1 g2 g3 => by
        by_cases ha : a = 5
        · subst ha
          rw [sup_i _ _ _ _ (g3 rfl).2, sup_i _ _ _ _ (g3 rfl).1]
        · rw [sup_k _ _ _ _ _ ha, sup_k _ _ _ _ _ ha])
  · skip
    refine r_aload_n dX7_understand_17 rfl ?_
    refine r_get (k := 5) lfX7_31 dX7_understand_18 (Nat.le_of_ble_eq_true rfl) rfl rfl ?_
    refine i_const dX7_understand_21 ?_
    refine i_iadd dX7_understand_22 ?_
    refine i_const dX7_understand_23 ?_
    rw [sup_i _ _ _ _ (show (5 : Nat) ≠ 6 by decide)]
    refine i_idiv dX7_understand_24 ⟨by omega, by omega⟩ ⟨by omega, by omega⟩ ?_
    refine r_goto 29 dX7_understand_25 rfl ?_
    refine i_put (k := 5) lpX7_37 dX7_understand_29 (Nat.le_of_ble_eq_true rfl) rfl rfl ?_
    refine i_const dX7_understand_32 ?_
    refine r_istore_n dX7_understand_33 (Nat.le_of_ble_eq_true rfl) ?_
    exact c_understand_l_5 σ b hs hb n0 n1 _ rfl 6 0 _ _ (by omega) (by omega) (by rw [sup_i _ _ _ _ (show (6 : Nat) ≠ 7 by decide), sup_h]) (by rw [sup_h]; unfold nF; first | (rw [if_pos q14]) | (rw [if_neg q14])) (fun z z0 z1 => absurd z1 (by omega)) (fun z z0 z1 => absurd z1 (by omega)) (fun a i g1 g2 g3 => by
        by_cases ha : a = 5
        · subst ha
          rw [sup_i _ _ _ _ (g3 rfl).2, sup_i _ _ _ _ (g3 rfl).1]
        · rw [sup_k _ _ _ _ _ ha, sup_k _ _ _ _ _ ha])

set_option maxRecDepth 20000 in
theorem c_shorten_5 (σ : rl_S) (b : Int → Int) (hs : SB 6 σ b) (hb : BB b) (v : Int) (n0 : 0 ≤ v) (n1 : v ≤ 23) : Ct cW mX7_shorten [.ref 5, .int (iI v)] σ (qV (und_5 (sup σ 5 5 v) b)) := by
  refine Ct.of plX7 (Nat.le_of_ble_eq_true rfl) ?_
  refine r_aload_n dX7_shorten_0 rfl ?_
  refine r_iload_n dX7_shorten_1 rfl ?_
  refine i_put (k := 5) lpX7_31 dX7_shorten_2 (Nat.le_of_ble_eq_true rfl) rfl rfl ?_
  refine r_aload_n dX7_shorten_5 rfl ?_
  refine i_cvV (c_understand_5 _ b (fun z z0 z1 => (sup_k _ _ _ _ _ (by decide)).trans (hs z z0 z1)) hb (by rw [sup_h]; exact n0) (by rw [sup_h]; exact n1)) lmX7_34 dX7_shorten_6 (Nat.le_of_ble_eq_true rfl) rfl ⟨_, _, rfl⟩ (by decide) (by decide) rfl rfl (Nat.le_of_ble_eq_true rfl) (fun σ1 hu => ?_)
  refine r_vret rfl dX7_shorten_9 ?_
  exact ⟨rfl, hu⟩

set_option maxRecDepth 20000 in
theorem c_append_5 (σ : rl_S) (b : Int → Int) (hs : SB 6 σ b) (hb : BB b) (v : Int) (v0 : 0 ≤ v ∧ v ≤ 255) (n0 : 0 ≤ σ 5 5) (n1 : σ 5 5 < 23) : Ct cW mX7_append [.ref 5, .int (iI v)] σ (qV (und_5 (sup (sup σ 6 (σ 5 5).toNat v) 5 5 (σ 5 5 + 1)) (bUp b (σ 5 5) v))) := by
  refine Ct.of plX7 (Nat.le_of_ble_eq_true rfl) ?_
  refine r_aload_n dX7_append_0 rfl ?_
  refine r_get (k := 5) lfX7_31 dX7_append_1 (Nat.le_of_ble_eq_true rfl) rfl rfl ?_
  refine i_if_lt 43 dX7_append_4 rfl ⟨by omega, by omega⟩ (fun q4 => ?_) (fun q4 => ?_)
  · exfalso
    omega
  · skip
    refine r_aload_n dX7_append_7 rfl ?_
    refine r_get (k := 5) lfX7_31 dX7_append_8 (Nat.le_of_ble_eq_true rfl) rfl rfl ?_
    refine r_aload_n dX7_append_11 rfl ?_
    refine r_get (k := 5) lfX7_9 dX7_append_12 (Nat.le_of_ble_eq_true rfl) rfl rfl ?_
    refine i_alen (k := 6) dX7_append_15 (Nat.le_of_ble_eq_true rfl) rfl rfl ?_
    refine i_icmp_ge 43 dX7_append_16 rfl ⟨by omega, by omega⟩ ⟨by omega, by omega⟩ (fun q16 => ?_) (fun q16 => ?_)
    · exfalso
      omega
    · skip
      refine r_aload_n dX7_append_19 rfl ?_
      refine r_get (k := 5) lfX7_9 dX7_append_20 (Nat.le_of_ble_eq_true rfl) rfl rfl ?_
      refine r_aload_n dX7_append_23 rfl ?_
      refine r_get (k := 5) lfX7_31 dX7_append_24 (Nat.le_of_ble_eq_true rfl) rfl rfl ?_
      refine r_iload_n dX7_append_27 rfl ?_
      refine i_ast (k := 6) dX7_append_28 (Nat.le_of_ble_eq_true rfl) rfl rfl ⟨by omega, by omega⟩ (by decide) ?_
      refine r_aload_n dX7_append_29 rfl ?_
      refine r_dup dX7_append_30 rfl ?_
      refine r_get (k := 5) lfX7_31 dX7_append_31 (Nat.le_of_ble_eq_true rfl) rfl rfl ?_
      rw [sup_k _ _ _ _ _ (show 5 ≠ 6 by decide)]
      refine i_const dX7_append_34 ?_
      refine i_iadd dX7_append_35 ?_
      refine i_put (k := 5) lpX7_31 dX7_append_36 (Nat.le_of_ble_eq_true rfl) rfl rfl ?_
      refine r_aload_n dX7_append_39 rfl ?_
      refine i_cvV (c_understand_5 _ (bUp b (σ 5 5) v) (fun z z0 z1 => (sup_k _ _ _ _ _ (by decide)).trans (by
          unfold bUp
          by_cases hz : z = σ 5 5
          · rw [if_pos hz, hz, sup_h]
          · rw [if_neg hz, sup_i _ _ _ _ (by omega)]
            exact hs z z0 z1))
          (fun z z0 z1 => by
            unfold bUp
            by_cases hz : z = σ 5 5
            · rw [if_pos hz]; exact v0
            · rw [if_neg hz]; exact hb z z0 z1) (by rw [sup_h]; omega) (by rw [sup_h]; omega)) lmX7_34 dX7_append_40 (Nat.le_of_ble_eq_true rfl) rfl ⟨_, _, rfl⟩ (by decide) (by decide) rfl rfl (Nat.le_of_ble_eq_true rfl) (fun σ1 hu => ?_)
      refine r_vret rfl dX7_append_43 ?_
      exact ⟨rfl, hu⟩

theorem c_heightsT_l (σ : rl_S) (f : Int → Int) (hs : S6 3 σ f) (hf : B6 f) (n0 : 0 ≤ σ 1 7) (n1 : σ 1 7 ≤ 6) : ∀ (n : Nat) (k : Int) (m : Nat), k = m → k + n = σ 1 7 → Rn cW mX7_heightsTogether 4 [.ref 1, .int (iI (sm f m)), .int (iI k)] [] σ (pR (.int (iI (sm f (σ 1 7).toNat))) σ) := by
  intro n
  induction n with
  | zero =>
    intro k m hm hk
    refine r_iload_n dX7_heightsTogether_4 rfl ?_
    refine r_aload_n dX7_heightsTogether_5 rfl ?_
    refine r_get (k := 1) lfX7_37 dX7_heightsTogether_6 (Nat.le_of_ble_eq_true rfl) rfl rfl ?_
    refine i_icmp_ge 26 dX7_heightsTogether_9 rfl ⟨by omega, by omega⟩ ⟨by omega, by omega⟩ (fun q9 => ?_) (fun q9 => ?_)
    · skip
      refine r_iload_n dX7_heightsTogether_26 rfl ?_
      refine r_iret rfl dX7_heightsTogether_27 ?_
      exact ⟨by rw [show (σ 1 7).toNat = m by omega], rfl⟩
    · exfalso
      omega
  | succ n ih =>
    intro k m hm hk
    have hb := sm_bd hf m (by omega)
    refine r_iload_n dX7_heightsTogether_4 rfl ?_
    refine r_aload_n dX7_heightsTogether_5 rfl ?_
    refine r_get (k := 1) lfX7_37 dX7_heightsTogether_6 (Nat.le_of_ble_eq_true rfl) rfl rfl ?_
    refine i_icmp_ge 26 dX7_heightsTogether_9 rfl ⟨by omega, by omega⟩ ⟨by omega, by omega⟩ (fun q9 => ?_) (fun q9 => ?_)
    · exfalso
      omega
    · skip
      refine r_iload_n dX7_heightsTogether_12 rfl ?_
      refine r_aload_n dX7_heightsTogether_13 rfl ?_
      refine r_iload_n dX7_heightsTogether_14 rfl ?_
      refine i_cvP (c_heightOf_1 σ f hs k (by omega) (by omega)) lmX7_40 dX7_heightsTogether_15 (Nat.le_of_ble_eq_true rfl) rfl ⟨_, _, rfl⟩ (by decide) (by decide) rfl rfl (Nat.le_of_ble_eq_true rfl) ?_
      refine i_iadd dX7_heightsTogether_18 ?_
      refine r_istore_n dX7_heightsTogether_19 (Nat.le_of_ble_eq_true rfl) ?_
      refine i_iinc dX7_heightsTogether_20 rfl (Nat.le_of_ble_eq_true rfl) ?_
      refine r_goto 4 dX7_heightsTogether_23 rfl ?_
      subst hm
      exact ih (m + 1) (m + 1) (by omega) (by omega)

set_option maxRecDepth 20000 in
theorem c_heightsT (σ : rl_S) (f : Int → Int) (hs : S6 3 σ f) (hf : B6 f) (n0 : 0 ≤ σ 1 7) (n1 : σ 1 7 ≤ 6) : Ct cW mX7_heightsTogether [.ref 1] σ (pR (.int (iI (sm f (σ 1 7).toNat))) σ) := by
  refine Ct.of plX7 (Nat.le_of_ble_eq_true rfl) ?_
  refine i_const dX7_heightsTogether_0 ?_
  refine r_istore_n dX7_heightsTogether_1 (Nat.le_of_ble_eq_true rfl) ?_
  refine i_const dX7_heightsTogether_2 ?_
  refine r_istore_n dX7_heightsTogether_3 (Nat.le_of_ble_eq_true rfl) ?_
  exact c_heightsT_l σ f hs hf n0 n1 (σ 1 7).toNat 0 0 rfl (by omega)
