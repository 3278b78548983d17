/-! the reference keeps the state as it is; the rest of its cells is made anew at each call -/
def IM (M σ : rl_S) : Prop := (∀ k i, (k = 1 ∨ k = 2 ∨ k = 5 ∨ k = 6 ∨ (8 ≤ k ∧ k ≤ 13)) → σ k i = M k i) ∧ σ 0 7 = M 0 7 ∧ σ 0 8 = M 0 8 ∧ σ 0 12 = M 0 12 ∧ σ 0 21 = M 0 21
/-- cells that only serve a call are changed -/
def scr (σ σ' : rl_S) : Prop := ∀ k i, k ≠ 3 → k ≠ 4 → k ≠ 7 → k ≠ 14 → (k = 0 → i ≠ 2 ∧ i ≠ 5 ∧ i ≠ 11 ∧ i ≠ 15) → σ' k i = σ k i
theorem im_scr {M σ σ' : rl_S} (h : IM M σ) (f : scr σ σ') : IM M σ' := by
  obtain ⟨h1, h2, h3, h4, h5⟩ := h
  refine ⟨fun k i hk => (f k i (by omega) (by omega) (by omega) (by omega) (fun z => by omega)).trans (h1 k i hk), ?_, ?_, ?_, ?_⟩
  · exact (f 0 7 (by decide) (by decide) (by decide) (by decide) (fun _ => by decide)).trans h2
  · exact (f 0 8 (by decide) (by decide) (by decide) (by decide) (fun _ => by decide)).trans h3
  · exact (f 0 12 (by decide) (by decide) (by decide) (by decide) (fun _ => by decide)).trans h4
  · exact (f 0 21 (by decide) (by decide) (by decide) (by decide) (fun _ => by decide)).trans h5
theorem ob_nar (x : Bool) : narrow .boolean (.int (iI (ob x))) = .int (iI (ob x)) := by cases x <;> rfl
theorem ob_i32 (x : Bool) : -2147483648 ≤ ob x ∧ ob x < 2147483648 := by cases x <;> decide
theorem sup_id (σ : rl_S) (k i : Nat) : sup σ k i (σ k i) = σ := by
  funext a j
  rw [sup_at]
  split
  · rename_i h; subst h
    split
    · rename_i h; subst h; rfl
    · rfl
  · rfl
/-- a text: where the first fault is, by the places -/
theorem flt_at {b : Int → Int} {m n : Int} {p : Int} : ∀ (f : Nat) (k : Int), k + f = n → k ≤ p → p < n → (∀ j, k ≤ j → j < p → okA b m j = true) → okA b m p = false → flt b m n f k = p
  | 0, k, h, h1, h2, _, _ => by omega
  | f + 1, k, h, h1, h2, h3, h4 => by
    simp only [flt]
    by_cases hk : k = p
    · subst hk; rw [if_neg (by rw [h4]; decide)]
    · rw [if_pos (h3 k (by omega) (by omega))]
      exact flt_at f (k + 1) (by omega) (by omega) h2 (fun j j0 j1 => h3 j (by omega) j1) h4
theorem flt_all {b : Int → Int} {m n : Int} : ∀ (f : Nat) (k : Int), k + f = n → (∀ j, k ≤ j → j < n → okA b m j = true) → flt b m n f k = if n = 0 ∨ n % 4 = 3 then -1 else n
  | 0, k, h, _ => rfl
  | f + 1, k, h, h3 => by
    simp only [flt]
    rw [if_pos (h3 k (by omega) (by omega))]
    exact flt_all f (k + 1) (by omega) (fun j j0 j1 => h3 j (by omega) j1)
theorem fF_at {b : Int → Int} {m n : Int} {p : Int} (p0 : 0 ≤ p) (p1 : p < n) (h : ∀ j, 0 ≤ j → j < p → okA b m j = true) (h2 : okA b m p = false) : fF b m n = p := flt_at n.toNat 0 (by omega) p0 p1 h h2
theorem fF_all {b : Int → Int} {m n : Int} (n0 : 0 ≤ n) (h : ∀ j, 0 ≤ j → j < n → okA b m j = true) : fF b m n = if n = 0 ∨ n % 4 = 3 then -1 else n := flt_all n.toNat 0 (by omega) h
theorem okA_0 {b : Int → Int} {m n : Int} (h : n < m) (h1 : 48 ≤ b (4 * n) ∧ b (4 * n) ≤ 57) : okA b m (4 * n) = true := by
  simp only [okA]; rw [if_neg (by omega), if_pos (by omega)]; simp only [Bool.and_eq_true, decide_eq_true_eq]; omega
theorem okA_1 {b : Int → Int} {m n : Int} (h1 : 48 ≤ b (4 * n + 1) ∧ b (4 * n + 1) ≤ 57) : okA b m (4 * n + 1) = true := by
  simp only [okA]; rw [if_neg (by omega), if_neg (by omega), if_pos (by omega)]; simp only [Bool.and_eq_true, decide_eq_true_eq, and_true]; omega
theorem okA_2 {b : Int → Int} {m n : Int} (h1 : 48 ≤ b (4 * n + 2) ∧ b (4 * n + 2) ≤ 57) (h2 : 2 ≤ two b (4 * n + 1)) : okA b m (4 * n + 2) = true := by
  simp only [okA]; rw [if_neg (by omega), if_neg (by omega), if_neg (by omega), show 4 * n + 2 - 1 = 4 * n + 1 by omega]; simp only [Bool.and_eq_true, decide_eq_true_eq]; omega
theorem okA_2n {b : Int → Int} {m n : Int} (h2 : ¬ 2 ≤ two b (4 * n + 1)) : okA b m (4 * n + 2) = false := by
  simp only [okA]; rw [if_neg (by omega), if_neg (by omega), if_neg (by omega), show 4 * n + 2 - 1 = 4 * n + 1 by omega]; simp only [Bool.and_eq_false_iff, decide_eq_false_iff_not]; omega
theorem okA_3 {b : Int → Int} {m n : Int} (h1 : b (4 * n + 3) = 59) : okA b m (4 * n + 3) = true := by
  simp only [okA]; rw [if_pos (by omega), h1]; rfl
theorem okA_3n {b : Int → Int} {m n : Int} (h1 : ¬ b (4 * n + 3) = 59) : okA b m (4 * n + 3) = false := by
  simp only [okA]; rw [if_pos (by omega)]; simp only [decide_eq_false_iff_not]; exact h1
theorem okA_fn {b : Int → Int} {m k : Int} (h : k % 4 ≠ 3) (h1 : b k < 48 ∨ 57 < b k) : okA b m k = false := by
  simp only [okA]; rw [if_neg h]; simp only [Bool.and_eq_false_iff, decide_eq_false_iff_not]; omega
def fg (b : Int → Int) (n k : Int) : Int := if k < n ∧ 48 ≤ b k ∧ b k ≤ 57 then b k - 48 else -1
theorem fg_bd (b : Int → Int) (n k : Int) : -1 ≤ fg b n k ∧ fg b n k ≤ 9 := by
  unfold fg; split <;> omega
theorem fg_ne {b : Int → Int} {n k : Int} (h : ¬ fg b n k = -1) : k < n ∧ 48 ≤ b k ∧ b k ≤ 57 ∧ fg b n k = b k - 48 := by
  unfold fg at h ⊢
  split at h
  · rename_i q; rw [if_pos q]; exact ⟨q.1, q.2.1, q.2.2, rfl⟩
  · exact absurd rfl h
theorem fg_eq {b : Int → Int} {n k : Int} (h : fg b n k = -1) : n ≤ k ∨ b k < 48 ∨ 57 < b k := by
  unfold fg at h
  split at h
  · omega
  · omega
/-- a text that ends or goes wrong at place g of swell n -/
theorem rt_flt {b : Int → Int} {m N n g : Int} (n0 : 0 ≤ n) (hn : n < m) (hg : ∀ j, 0 ≤ j → j < 4 * n → okA b m j = true) (g0 : 0 ≤ g) (g1 : g ≤ 2) (hN : 4 * n ≤ N) (hN0 : ¬ N = 0) (hi : ∀ i, 0 ≤ i → i < g → ¬ fg b N (4 * n + i) = -1) (hf : fg b N (4 * n + g) = -1) : fF b m N = 4 * n + g := by
  have hlt : ∀ j, 0 ≤ j → j < 4 * n + g → j < N ∧ okA b m j = true := by
    intro j j0 j1
    by_cases h : j < 4 * n
    · exact ⟨by omega, hg j j0 h⟩
    · have e := fg_ne (hi (j - 4 * n) (by omega) (by omega))
      rw [show 4 * n + (j - 4 * n) = j by omega] at e
      refine ⟨e.1, ?_⟩
      have : j = 4 * n ∨ j = 4 * n + 1 := by omega
      rcases this with rfl | rfl
      · exact okA_0 hn ⟨e.2.1, e.2.2.1⟩
      · exact okA_1 ⟨e.2.1, e.2.2.1⟩
  rcases Int.lt_or_le (4 * n + g) N with h | h
  · exact fF_at (by omega) h (fun j j0 j1 => (hlt j j0 j1).2) (okA_fn (by omega) (by have := fg_eq hf; omega))
  · have e : 4 * n + g = N := by
      by_cases hg0 : g = 0
      · omega
      · have := (hlt (4 * n + g - 1) (by omega) (by omega)).1
        omega
    rw [fF_all (by omega) (fun j j0 j1 => (hlt j j0 (by omega)).2), if_neg (by omega)]
    omega
set_option maxRecDepth 20000 in
theorem m_in (σ : rl_S) (v l h : Int) (hv : -2147483648 ≤ v ∧ v < 2147483648) (hl : -2147483648 ≤ l ∧ l < 2147483648) (hh : -2147483648 ≤ h ∧ h < 2147483648) : Ct mW mX9_in [.int (iI v), .int (iI l), .int (iI h)] σ (pR (.int (iI (ob (decide (l ≤ v ∧ v ≤ h))))) σ) := by
  refine Ct.of plX9 (Nat.le_of_ble_eq_true rfl) ?_
  refine r_iload_n dX9_in_0 rfl ?_
  refine r_iload_n dX9_in_1 rfl ?_
  refine i_icmp_lt 14 dX9_in_2 rfl ⟨by omega, by omega⟩ ⟨by omega, by omega⟩ (fun q2 => ?_) (fun q2 => ?_)
  · skip
    refine i_const dX9_in_14 ?_
    refine r_zret rfl dX9_in_15 (by first | rfl | exact ob_nar _) ?_
    first
      | exact ⟨by rw [decide_eq_true (by omega)]; rfl, rfl⟩
      | exact ⟨by rw [decide_eq_false (by omega)]; rfl, rfl⟩
  · skip
    refine r_iload_n dX9_in_5 rfl ?_
    refine r_iload_n dX9_in_6 rfl ?_
    refine i_icmp_gt 14 dX9_in_7 rfl ⟨by omega, by omega⟩ ⟨by omega, by omega⟩ (fun q7 => ?_) (fun q7 => ?_)
    · skip
      refine i_const dX9_in_14 ?_
      refine r_zret rfl dX9_in_15 (by first | rfl | exact ob_nar _) ?_
      first
        | exact ⟨by rw [decide_eq_true (by omega)]; rfl, rfl⟩
        | exact ⟨by rw [decide_eq_false (by omega)]; rfl, rfl⟩
    · skip
      refine i_const dX9_in_10 ?_
      refine r_goto 15 dX9_in_11 rfl ?_
      refine r_zret rfl dX9_in_15 (by first | rfl | exact ob_nar _) ?_
      first
        | exact ⟨by rw [decide_eq_true (by omega)]; rfl, rfl⟩
        | exact ⟨by rw [decide_eq_false (by omega)]; rfl, rfl⟩

set_option maxRecDepth 20000 in
theorem m_isText (σ : rl_S) (t : Int) (ht : -2147483648 ≤ t ∧ t < 2147483648) : Ct mW mX9_isText [.int (iI t)] σ (pR (.int (iI (ob (decide (0 ≤ t ∧ t ≤ 1))))) σ) := by
  refine Ct.of plX9 (Nat.le_of_ble_eq_true rfl) ?_
  refine r_iload_n dX9_isText_0 rfl ?_
  refine i_const dX9_isText_1 ?_
  refine i_const dX9_isText_2 ?_
  refine i_csP (m_in σ t 0 1 ht (by decide) (by decide)) lmX9_55 dX9_isText_3 (by decide) (by decide) rfl rfl (Nat.le_of_ble_eq_true rfl) ?_
  refine r_zret rfl dX9_isText_6 (by first | rfl | exact ob_nar _) ?_
  exact ⟨rfl, rfl⟩

set_option maxRecDepth 20000 in
theorem m_isTenth (σ : rl_S) (t : Int) (ht : -2147483648 ≤ t ∧ t < 2147483648) : Ct mW mX9_isTenth [.int (iI t)] σ (pR (.int (iI (ob (decide (0 ≤ t ∧ t ≤ 399))))) σ) := by
  refine Ct.of plX9 (Nat.le_of_ble_eq_true rfl) ?_
  refine r_iload_n dX9_isTenth_0 rfl ?_
  refine i_const dX9_isTenth_1 ?_
  refine i_sipush dX9_isTenth_2 (by decide) ?_
  refine i_csP (m_in σ t 0 399 ht (by decide) (by decide)) lmX9_55 dX9_isTenth_5 (by decide) (by decide) rfl rfl (Nat.le_of_ble_eq_true rfl) ?_
  refine r_zret rfl dX9_isTenth_8 (by first | rfl | exact ob_nar _) ?_
  exact ⟨rfl, rfl⟩

set_option maxRecDepth 20000 in
theorem m_figureAt_0 (σ : rl_S) (b : Int → Int) (hs : ∀ z : Int, 0 ≤ z → z < 23 → σ 2 (0 + z.toNat) = b z) (hb : BB b) (N : Int) (hN : σ 1 0 = N) (n0 : 0 ≤ N ∧ N ≤ 23) (k : Int) (k0 : 0 ≤ k) (k1 : k < 40) : Ct mW mX9_figureAt [.ref 0, .int (iI 0), .int (iI k)] σ (pR (.int (iI (fg b N k))) σ) := by
  refine Ct.of plX9 (Nat.le_of_ble_eq_true rfl) ?_
  refine r_iload_n dX9_figureAt_0 rfl ?_
  refine r_aload_n dX9_figureAt_1 rfl ?_
  refine r_get (k := 0) lfX9_7 dX9_figureAt_2 (Nat.le_of_ble_eq_true rfl) rfl rfl ?_
  refine r_iload_n dX9_figureAt_5 rfl ?_
  refine i_ald (k := 1) dX9_figureAt_6 (Nat.le_of_ble_eq_true rfl) rfl rfl ⟨by omega, by omega⟩ (by decide) ?_
  rw [show (0 : Int).toNat = 0 from rfl, hN]
  refine i_icmp_ge 27 dX9_figureAt_7 rfl ⟨by omega, by omega⟩ ⟨by omega, by omega⟩ (fun q7 => ?_) (fun q7 => ?_)
  · skip
    refine i_const dX9_figureAt_27 ?_
    refine r_istore_n dX9_figureAt_28 (Nat.le_of_ble_eq_true rfl) ?_
    refine r_iload_n dX9_figureAt_29 rfl ?_
    refine i_const dX9_figureAt_30 ?_
    refine i_bipush dX9_figureAt_31 (by decide) ?_
    refine i_csP (m_in σ _ 0 9 (by omega) (by decide) (by decide)) lmX9_55 dX9_figureAt_33 (by decide) (by decide) rfl rfl (Nat.le_of_ble_eq_true rfl) ?_
    refine i_if_eq 43 dX9_figureAt_36 rfl (ob_i32 _) (fun q36 => ?_) (fun q36 => ?_)
    · have e36 := ob_df q36
      refine i_const dX9_figureAt_43 ?_
      refine r_iret rfl dX9_figureAt_44 ?_
      refine ⟨?_, rfl⟩
      unfold fg
      first
        | (exfalso; omega)
        | (rw [if_pos (by omega)])
        | (rw [if_neg (by omega)])
    · have e36 := ob_dt q36
      refine r_iload_n dX9_figureAt_39 rfl ?_
      refine r_goto 44 dX9_figureAt_40 rfl ?_
      refine r_iret rfl dX9_figureAt_44 ?_
      refine ⟨?_, rfl⟩
      unfold fg
      first
        | (exfalso; omega)
        | (rw [if_pos (by omega)])
        | (rw [if_neg (by omega)])
  · skip
    refine r_aload_n dX9_figureAt_10 rfl ?_
    refine r_get (k := 0) lfX9_13 dX9_figureAt_11 (Nat.le_of_ble_eq_true rfl) rfl rfl ?_
    refine i_bipush dX9_figureAt_14 (by decide) ?_
    refine r_iload_n dX9_figureAt_16 rfl ?_
    refine i_imul dX9_figureAt_17 ?_
    refine r_iload_n dX9_figureAt_18 rfl ?_
    refine i_iadd dX9_figureAt_19 ?_
    refine i_ald (k := 2) dX9_figureAt_20 (Nat.le_of_ble_eq_true rfl) rfl rfl ⟨by omega, by omega⟩ (by decide) ?_
    have hbk := hb k k0 (by omega)
    rw [show (23 * (0 : Int) + k).toNat = 0 + k.toNat by omega, hs k k0 (by omega)]
    refine i_bipush dX9_figureAt_21 (by decide) ?_
    refine i_isub dX9_figureAt_23 ?_
    refine r_goto 28 dX9_figureAt_24 rfl ?_
    refine r_istore_n dX9_figureAt_28 (Nat.le_of_ble_eq_true rfl) ?_
    refine r_iload_n dX9_figureAt_29 rfl ?_
    refine i_const dX9_figureAt_30 ?_
    refine i_bipush dX9_figureAt_31 (by decide) ?_
    refine i_csP (m_in σ _ 0 9 (by omega) (by decide) (by decide)) lmX9_55 dX9_figureAt_33 (by decide) (by decide) rfl rfl (Nat.le_of_ble_eq_true rfl) ?_
    refine i_if_eq 43 dX9_figureAt_36 rfl (ob_i32 _) (fun q36 => ?_) (fun q36 => ?_)
    · have e36 := ob_df q36
      refine i_const dX9_figureAt_43 ?_
      refine r_iret rfl dX9_figureAt_44 ?_
      refine ⟨?_, rfl⟩
      unfold fg
      first
        | (exfalso; omega)
        | (rw [if_pos (by omega)])
        | (rw [if_neg (by omega)])
    · have e36 := ob_dt q36
      refine r_iload_n dX9_figureAt_39 rfl ?_
      refine r_goto 44 dX9_figureAt_40 rfl ?_
      refine r_iret rfl dX9_figureAt_44 ?_
      refine ⟨?_, rfl⟩
      unfold fg
      first
        | (exfalso; omega)
        | (rw [if_pos (by omega)])
        | (rw [if_neg (by omega)])

/-- what reading text 0 leaves -/
def rt_0 (σ : rl_S) (b : Int → Int) (N : Int) (σ' : rl_S) : Prop := σ' 0 2 = nF b 6 N ∧ (∀ z : Int, 0 ≤ z → z < nF b 6 N → σ' 3 z.toNat = b (4 * z) - 48 ∧ σ' 4 z.toNat = two b (4 * z + 1)) ∧ ∀ k i, k ≠ 3 → k ≠ 4 → (k = 0 → i ≠ 2) → σ' k i = σ k i
theorem rt_none_0 {σ σ2 : rl_S} {b : Int → Int} {N p : Int} (h : fF b 6 N = p) (p0 : 0 ≤ p) (h2 : σ2 0 2 = 0) (f : ∀ k i, k ≠ 3 → k ≠ 4 → (k = 0 → i ≠ 2) → σ2 k i = σ k i) : rt_0 σ b N σ2 := by
  have e : nF b 6 N = 0 := by unfold nF; rw [if_neg (by omega)]
  exact ⟨by rw [e, h2], by rw [e]; first | exact fun z z0 z1 => absurd z1 (by omega) | exact fun z => absurd rfl z, f⟩
theorem m_rt_in_0 (σ : rl_S) (b : Int → Int) (hs : ∀ z : Int, 0 ≤ z → z < 23 → σ 2 (0 + z.toNat) = b z) (hb : BB b) (N : Int) (hN : σ 1 0 = N) (n0 : 0 ≤ N ∧ N ≤ 23) (n at0 : Int) (l6 : Value) (n1 : 0 ≤ n) (n2 : n < 6) (a0 : 0 ≤ at0) (a1 : at0 < 30) (Post : Option Value → rl_S → Prop) (K : ∀ g : Int, 0 ≤ g → g ≤ 3 → (∀ i, 0 ≤ i → i < g → ¬ fg b N (at0 + i) = -1) → (g < 3 → fg b N (at0 + g) = -1) → Rn mW mX9_readsText 99 [.ref 0, .int (iI 0), .int (iI 6), .int (iI n), .int (iI at0), .int (iI g), l6] [] σ Post) : ∀ (f : Nat) (g : Int), g + f = 3 → 0 ≤ g → (∀ i, 0 ≤ i → i < g → ¬ fg b N (at0 + i) = -1) → Rn mW mX9_readsText 68 [.ref 0, .int (iI 0), .int (iI 6), .int (iI n), .int (iI at0), .int (iI g), l6] [] σ Post := by
  intro f
  induction f with
  | zero =>
    intro g hg g0 hi
    refine r_iload_n dX9_readsText_68 rfl ?_
    refine r_iload_n dX9_readsText_69 rfl ?_
    refine i_icmp_ge 99 dX9_readsText_70 rfl ⟨by omega, by omega⟩ ⟨by omega, by omega⟩ (fun q70 => ?_) (fun q70 => ?_)
    · exfalso
      omega
    · skip
      refine r_iload dX9_readsText_73 rfl ?_
      refine i_const dX9_readsText_75 ?_
      refine i_icmp_ge 99 dX9_readsText_76 rfl ⟨by omega, by omega⟩ ⟨by omega, by omega⟩ (fun q76 => ?_) (fun q76 => ?_)
      · skip
        exact K g g0 (by omega) hi (fun h => absurd h (by omega))
      · exfalso
        omega
  | succ f ih =>
    intro g hg g0 hi
    have fb := fg_bd b N (at0 + g)
    refine r_iload_n dX9_readsText_68 rfl ?_
    refine r_iload_n dX9_readsText_69 rfl ?_
    refine i_icmp_ge 99 dX9_readsText_70 rfl ⟨by omega, by omega⟩ ⟨by omega, by omega⟩ (fun q70 => ?_) (fun q70 => ?_)
    · exfalso
      omega
    · skip
      refine r_iload dX9_readsText_73 rfl ?_
      refine i_const dX9_readsText_75 ?_
      refine i_icmp_ge 99 dX9_readsText_76 rfl ⟨by omega, by omega⟩ ⟨by omega, by omega⟩ (fun q76 => ?_) (fun q76 => ?_)
      · exfalso
        omega
      · skip
        refine r_aload_n dX9_readsText_79 rfl ?_
        refine r_iload_n dX9_readsText_80 rfl ?_
        refine r_iload dX9_readsText_81 rfl ?_
        refine r_iload dX9_readsText_83 rfl ?_
        refine i_iadd dX9_readsText_85 ?_
        refine i_cvP (m_figureAt_0 σ b hs hb N hN n0 (at0 + g) (by omega) (by omega)) lmX9_70 dX9_readsText_86 (Nat.le_of_ble_eq_true rfl) rfl ⟨_, _, rfl⟩ (by decide) (by decide) rfl rfl (Nat.le_of_ble_eq_true rfl) ?_
        refine i_const dX9_readsText_89 ?_
        refine i_icmp_eq 99 dX9_readsText_90 rfl ⟨by omega, by omega⟩ ⟨by omega, by omega⟩ (fun q90 => ?_) (fun q90 => ?_)
        · skip
          exact K g g0 (by omega) hi (fun h => by omega)
        · skip
          refine i_iinc dX9_readsText_93 rfl (Nat.le_of_ble_eq_true rfl) ?_
          refine r_goto 68 dX9_readsText_96 rfl ?_
          refine ih (g + 1) (by omega) (by omega) (fun i i0 i1 => ?_)
          by_cases h : i = g
          · rw [h]; omega
          · exact hi i i0 (by omega)

theorem m_rt_l_0 (σ : rl_S) (b : Int → Int) (hs : ∀ z : Int, 0 ≤ z → z < 23 → σ 2 (0 + z.toNat) = b z) (hb : BB b) (N : Int) (hN : σ 1 0 = N) (n0 : 0 ≤ N ∧ N ≤ 23) : ∀ (f : Nat) (n : Int) (l5 l6 : Value) (σ2 : rl_S), n + f = 6 → 0 ≤ n → 4 * n ≤ N → (∀ j, 0 ≤ j → j < 4 * n → okA b 6 j = true) → (∀ z : Int, 0 ≤ z → z < n → σ2 3 z.toNat = b (4 * z) - 48 ∧ σ2 4 z.toNat = two b (4 * z + 1)) → (∀ k i, k ≠ 3 → k ≠ 4 → (k = 0 → i ≠ 2) → σ2 k i = σ k i) → σ2 0 2 = 0 → Rn mW mX9_readsText 49 [.ref 0, .int (iI 0), .int (iI 6), .int (iI n), .int (iI (4 * n)), l5, l6] [] σ2 (qI (fun z σ' => z = fF b 6 N ∧ rt_0 σ b N σ')) := by
  intro f
  induction f with
  | zero =>
    intro n l5 l6 σ2 hn0 n1 n2
    exfalso
    omega
  | succ f ih =>
    intro n l5 l6 σ2 hn0 n1 n2 hg er hf e0
    have hs2 : ∀ z : Int, 0 ≤ z → z < 23 → σ2 2 (0 + z.toNat) = b z := fun z z0 z1 => (hf 2 _ (by decide) (by decide) (fun q => absurd q (by decide))).trans (hs z z0 z1)
    have hN2 : σ2 1 0 = N := (hf 1 _ (by decide) (by decide) (fun q => absurd q (by decide))).trans hN
    have K : ∀ g : Int, 0 ≤ g → g ≤ 3 → ¬ N = 0 → (∀ i, 0 ≤ i → i < g → ¬ fg b N (4 * n + i) = -1) → (g < 3 → fg b N (4 * n + g) = -1) → Rn mW mX9_readsText 99 [.ref 0, .int (iI 0), .int (iI 6), .int (iI n), .int (iI (4 * n)), .int (iI g), l6] [] σ2 (qI (fun z σ' => z = fF b 6 N ∧ rt_0 σ b N σ')) := by
     intro g g0 g1 hNz hi hfn
     have g4 : g = 0 ∨ g = 1 ∨ g = 2 ∨ g = 3 := by omega
     rcases g4 with rfl | rfl | rfl | rfl
     · skip
       refine r_iload dX9_readsText_99 rfl ?_
       refine i_const dX9_readsText_101 ?_
       refine i_icmp_ne 130 dX9_readsText_102 rfl ⟨by omega, by omega⟩ ⟨by omega, by omega⟩ (fun q102 => ?_) (fun q102 => ?_)
       · skip
         refine i_const dX9_readsText_130 ?_
         refine r_istore dX9_readsText_131 (Nat.le_of_ble_eq_true rfl) ?_
         refine r_iload dX9_readsText_133 rfl ?_
         refine i_const dX9_readsText_135 ?_
         refine i_icmp_lt 145 dX9_readsText_136 rfl ⟨by omega, by omega⟩ ⟨by omega, by omega⟩ (fun q136 => ?_) (fun q136 => ?_)
         · skip
           refine r_iload dX9_readsText_145 rfl ?_
           refine r_iload dX9_readsText_147 rfl ?_
           refine i_const dX9_readsText_149 ?_
           refine i_icmp_ge 158 dX9_readsText_150 rfl ⟨by omega, by omega⟩ ⟨by omega, by omega⟩ (fun q150 => ?_) (fun q150 => ?_)
           · exfalso
             omega
           · skip
             refine r_iload dX9_readsText_153 rfl ?_
             refine r_goto 159 dX9_readsText_155 rfl ?_
             refine i_iadd dX9_readsText_159 ?_
             refine r_iret rfl dX9_readsText_160 ?_
             have hz := rt_flt (b := b) (m := 6) (N := N) (n := n) (g := 0) (by omega) (by omega) hg (by omega) (by omega) (by omega) (by omega) (fun i i0 i1 => hi i i0 i1) (hfn (by decide))
             exact ⟨_, rfl, by rw [hz]; first | done | omega, rt_none_0 hz (by omega) e0 hf⟩
         · exfalso
           omega
       · exfalso
         omega
     · skip
       refine r_iload dX9_readsText_99 rfl ?_
       refine i_const dX9_readsText_101 ?_
       refine i_icmp_ne 130 dX9_readsText_102 rfl ⟨by omega, by omega⟩ ⟨by omega, by omega⟩ (fun q102 => ?_) (fun q102 => ?_)
       · skip
         refine i_const dX9_readsText_130 ?_
         refine r_istore dX9_readsText_131 (Nat.le_of_ble_eq_true rfl) ?_
         refine r_iload dX9_readsText_133 rfl ?_
         refine i_const dX9_readsText_135 ?_
         refine i_icmp_lt 145 dX9_readsText_136 rfl ⟨by omega, by omega⟩ ⟨by omega, by omega⟩ (fun q136 => ?_) (fun q136 => ?_)
         · skip
           refine r_iload dX9_readsText_145 rfl ?_
           refine r_iload dX9_readsText_147 rfl ?_
           refine i_const dX9_readsText_149 ?_
           refine i_icmp_ge 158 dX9_readsText_150 rfl ⟨by omega, by omega⟩ ⟨by omega, by omega⟩ (fun q150 => ?_) (fun q150 => ?_)
           · exfalso
             omega
           · skip
             refine r_iload dX9_readsText_153 rfl ?_
             refine r_goto 159 dX9_readsText_155 rfl ?_
             refine i_iadd dX9_readsText_159 ?_
             refine r_iret rfl dX9_readsText_160 ?_
             have hz := rt_flt (b := b) (m := 6) (N := N) (n := n) (g := 1) (by omega) (by omega) hg (by omega) (by omega) (by omega) (by omega) (fun i i0 i1 => hi i i0 i1) (hfn (by decide))
             exact ⟨_, rfl, by rw [hz]; first | done | omega, rt_none_0 hz (by omega) e0 hf⟩
         · exfalso
           omega
       · exfalso
         omega
     · skip
       refine r_iload dX9_readsText_99 rfl ?_
       refine i_const dX9_readsText_101 ?_
       refine i_icmp_ne 130 dX9_readsText_102 rfl ⟨by omega, by omega⟩ ⟨by omega, by omega⟩ (fun q102 => ?_) (fun q102 => ?_)
       · skip
         refine i_const dX9_readsText_130 ?_
         refine r_istore dX9_readsText_131 (Nat.le_of_ble_eq_true rfl) ?_
         refine r_iload dX9_readsText_133 rfl ?_
         refine i_const dX9_readsText_135 ?_
         refine i_icmp_lt 145 dX9_readsText_136 rfl ⟨by omega, by omega⟩ ⟨by omega, by omega⟩ (fun q136 => ?_) (fun q136 => ?_)
         · skip
           refine r_iload dX9_readsText_145 rfl ?_
           refine r_iload dX9_readsText_147 rfl ?_
           refine i_const dX9_readsText_149 ?_
           refine i_icmp_ge 158 dX9_readsText_150 rfl ⟨by omega, by omega⟩ ⟨by omega, by omega⟩ (fun q150 => ?_) (fun q150 => ?_)
           · exfalso
             omega
           · skip
             refine r_iload dX9_readsText_153 rfl ?_
             refine r_goto 159 dX9_readsText_155 rfl ?_
             refine i_iadd dX9_readsText_159 ?_
             refine r_iret rfl dX9_readsText_160 ?_
             have hz := rt_flt (b := b) (m := 6) (N := N) (n := n) (g := 2) (by omega) (by omega) hg (by omega) (by omega) (by omega) (by omega) (fun i i0 i1 => hi i i0 i1) (hfn (by decide))
             exact ⟨_, rfl, by rw [hz]; first | done | omega, rt_none_0 hz (by omega) e0 hf⟩
         · exfalso
           omega
       · exfalso
         omega
     · skip
       have f0 := fg_ne (hi 0 (by decide) (by decide))
       have f1 := fg_ne (hi 1 (by decide) (by decide))
       have f2 := fg_ne (hi 2 (by decide) (by decide))
       rw [show 4 * n + 0 = (4 * n : Int) by omega] at f0
       have et : two b (4 * n + 1) = 10 * (b (4 * n + 1) - 48) + (b (4 * n + 1 + 1) - 48) := rfl
       rw [show 4 * n + 1 + 1 = 4 * n + 2 by omega] at et
       have okj : ∀ j, 0 ≤ j → j < 4 * n + 2 → okA b 6 j = true := by
         intro j j0 j1
         by_cases h : j < 4 * n
         · exact hg j j0 (by omega)
         · have : j = 4 * n ∨ j = 4 * n + 1 := by omega
           rcases this with rfl | rfl
           · exact okA_0 (by omega) ⟨f0.2.1, f0.2.2.1⟩
           · exact okA_1 ⟨f1.2.1, f1.2.2.1⟩
       refine r_iload dX9_readsText_99 rfl ?_
       refine i_const dX9_readsText_101 ?_
       refine i_icmp_ne 130 dX9_readsText_102 rfl ⟨by omega, by omega⟩ ⟨by omega, by omega⟩ (fun q102 => ?_) (fun q102 => ?_)
       · exfalso
         omega
       · skip
         refine i_bipush dX9_readsText_105 (by decide) ?_
         refine r_aload_n dX9_readsText_107 rfl ?_
         refine r_iload_n dX9_readsText_108 rfl ?_
         refine r_iload dX9_readsText_109 rfl ?_
         refine i_const dX9_readsText_111 ?_
         refine i_iadd dX9_readsText_112 ?_
         refine i_cvP (m_figureAt_0 _ b (fun z z0 z1 => hs2 z z0 z1) hb N hN2 n0 _ (by omega) (by omega)) lmX9_70 dX9_readsText_113 (Nat.le_of_ble_eq_true rfl) rfl ⟨_, _, rfl⟩ (by decide) (by decide) rfl rfl (Nat.le_of_ble_eq_true rfl) ?_
         first | rw [f1.2.2.2] | rw [show (0 + 1 : Int) = 1 from rfl, f1.2.2.2]
         refine i_imul dX9_readsText_116 ?_
         refine r_aload_n dX9_readsText_117 rfl ?_
         refine r_iload_n dX9_readsText_118 rfl ?_
         refine r_iload dX9_readsText_119 rfl ?_
         refine i_const dX9_readsText_121 ?_
         refine i_iadd dX9_readsText_122 ?_
         refine i_cvP (m_figureAt_0 _ b (fun z z0 z1 => hs2 z z0 z1) hb N hN2 n0 _ (by omega) (by omega)) lmX9_70 dX9_readsText_123 (Nat.le_of_ble_eq_true rfl) rfl ⟨_, _, rfl⟩ (by decide) (by decide) rfl rfl (Nat.le_of_ble_eq_true rfl) ?_
         first | rw [f2.2.2.2] | rw [show (0 + 2 : Int) = 2 from rfl, f2.2.2.2]
         refine i_iadd dX9_readsText_126 ?_
         refine r_goto 131 dX9_readsText_127 rfl ?_
         refine r_istore dX9_readsText_131 (Nat.le_of_ble_eq_true rfl) ?_
         refine r_iload dX9_readsText_133 rfl ?_
         refine i_const dX9_readsText_135 ?_
         refine i_icmp_lt 145 dX9_readsText_136 rfl ⟨by omega, by omega⟩ ⟨by omega, by omega⟩ (fun q136 => ?_) (fun q136 => ?_)
         · exfalso
           omega
         · skip
           refine r_iload dX9_readsText_139 rfl ?_
           refine i_const dX9_readsText_141 ?_
           refine i_icmp_ge 161 dX9_readsText_142 rfl ⟨by omega, by omega⟩ ⟨by omega, by omega⟩ (fun q142 => ?_) (fun q142 => ?_)
           · skip
             refine r_aload_n dX9_readsText_161 rfl ?_
             refine r_get (k := 0) lfX9_16 dX9_readsText_162 (Nat.le_of_ble_eq_true rfl) rfl rfl ?_
             refine r_iload_n dX9_readsText_165 rfl ?_
             refine i_if_ne 173 dX9_readsText_166 rfl ⟨by omega, by omega⟩ (fun q166 => ?_) (fun q166 => ?_)
             · exfalso
               omega
             · skip
               refine r_iload_n dX9_readsText_169 rfl ?_
               refine r_goto 175 dX9_readsText_170 rfl ?_
               refine r_aload_n dX9_readsText_175 rfl ?_
               refine r_iload_n dX9_readsText_176 rfl ?_
               refine r_iload dX9_readsText_177 rfl ?_
               refine i_cvP (m_figureAt_0 _ b (fun z z0 z1 => hs2 z z0 z1) hb N hN2 n0 _ (by omega) (by omega)) lmX9_70 dX9_readsText_179 (Nat.le_of_ble_eq_true rfl) rfl ⟨_, _, rfl⟩ (by decide) (by decide) rfl rfl (Nat.le_of_ble_eq_true rfl) ?_
               rw [f0.2.2.2]
               refine i_ast (k := 3) dX9_readsText_182 (Nat.le_of_ble_eq_true rfl) rfl rfl ⟨by omega, by omega⟩ (by decide) ?_
               refine r_aload_n dX9_readsText_183 rfl ?_
               refine r_get (k := 0) lfX9_19 dX9_readsText_184 (Nat.le_of_ble_eq_true rfl) rfl rfl ?_
               refine r_iload_n dX9_readsText_187 rfl ?_
               refine i_if_ne 195 dX9_readsText_188 rfl ⟨by omega, by omega⟩ (fun q188 => ?_) (fun q188 => ?_)
               · exfalso
                 omega
               · skip
                 refine r_iload_n dX9_readsText_191 rfl ?_
                 refine r_goto 197 dX9_readsText_192 rfl ?_
                 refine r_iload dX9_readsText_197 rfl ?_
                 refine i_ast (k := 4) dX9_readsText_199 (Nat.le_of_ble_eq_true rfl) rfl rfl ⟨by omega, by omega⟩ (by decide) ?_
                 refine i_iinc dX9_readsText_200 rfl (Nat.le_of_ble_eq_true rfl) ?_
                 refine i_iinc dX9_readsText_203 rfl (Nat.le_of_ble_eq_true rfl) ?_
                 refine r_iload dX9_readsText_206 rfl ?_
                 refine r_aload_n dX9_readsText_208 rfl ?_
                 refine r_get (k := 0) lfX9_7 dX9_readsText_209 (Nat.le_of_ble_eq_true rfl) rfl rfl ?_
                 refine r_iload_n dX9_readsText_212 rfl ?_
                 refine i_ald (k := 1) dX9_readsText_213 (Nat.le_of_ble_eq_true rfl) rfl rfl ⟨by omega, by omega⟩ (by decide) ?_
                 rw [sup_k _ _ _ _ _ (show (1 : Nat) ≠ 4 by decide), sup_k _ _ _ _ _ (show (1 : Nat) ≠ 3 by decide)]
                 rw [show (0 : Int).toNat = 0 from rfl, hN2]
                 refine i_icmp_ne 252 dX9_readsText_214 rfl ⟨by omega, by omega⟩ ⟨by omega, by omega⟩ (fun q214 => ?_) (fun q214 => ?_)
                 · skip
                   refine r_aload_n dX9_readsText_252 rfl ?_
                   refine r_get (k := 0) lfX9_13 dX9_readsText_253 (Nat.le_of_ble_eq_true rfl) rfl rfl ?_
                   refine i_bipush dX9_readsText_256 (by decide) ?_
                   refine r_iload_n dX9_readsText_258 rfl ?_
                   refine i_imul dX9_readsText_259 ?_
                   refine r_iload dX9_readsText_260 rfl ?_
                   refine i_iadd dX9_readsText_262 ?_
                   refine i_ald (k := 2) dX9_readsText_263 (Nat.le_of_ble_eq_true rfl) rfl rfl ⟨by omega, by omega⟩ (by decide) ?_
                   rw [sup_k _ _ _ _ _ (show (2 : Nat) ≠ 4 by decide), sup_k _ _ _ _ _ (show (2 : Nat) ≠ 3 by decide)]
                   have hb3 := hb (4 * n + 3) (by omega) (by omega)
                   rw [show (23 * (0 : Int) + (4 * n + 3)).toNat = 0 + (4 * n + 3 : Int).toNat by omega, hs2 (4 * n + 3) (by omega) (by omega)]
                   refine i_bipush dX9_readsText_264 (by decide) ?_
                   refine i_icmp_eq 272 dX9_readsText_266 rfl ⟨by omega, by omega⟩ ⟨by omega, by omega⟩ (fun q266 => ?_) (fun q266 => ?_)
                   · skip
                     refine i_iinc dX9_readsText_272 rfl (Nat.le_of_ble_eq_true rfl) ?_
                     refine r_goto 49 dX9_readsText_275 rfl ?_
                     have ok2 : okA b 6 (4 * n + 2) = true := okA_2 ⟨f2.2.1, f2.2.2.1⟩ (by omega)
                     have okF : ∀ j, 0 ≤ j → j < 4 * n + 3 → okA b 6 j = true := by
                       intro j j0 j1
                       by_cases h : j = 4 * n + 2
                       · rw [h]; exact ok2
                       · exact okj j j0 (by omega)
                     have r3 : ∀ z : Int, 0 ≤ z → z < n + 1 → sup (sup σ2 3 n.toNat (b (4 * n) - 48)) 4 n.toNat (10 * (b (4 * n + 1) - 48) + (b (4 * n + 2) - 48)) 3 z.toNat = b (4 * z) - 48 ∧ sup (sup σ2 3 n.toNat (b (4 * n) - 48)) 4 n.toNat (10 * (b (4 * n + 1) - 48) + (b (4 * n + 2) - 48)) 4 z.toNat = two b (4 * z + 1) := by
                       intro z z0 z1
                       rw [sup_k _ _ _ _ _ (show (3 : Nat) ≠ 4 by decide)]
                       by_cases h : z = n
                       · subst h
                         rw [sup_h, sup_h]; exact ⟨rfl, by omega⟩
                       · rw [sup_i _ _ _ _ (by omega), sup_i _ _ _ _ (by omega), sup_k _ _ _ _ _ (show (4 : Nat) ≠ 3 by decide)]
                         exact er z z0 (by omega)
                     have fr3 : ∀ k i, k ≠ 3 → k ≠ 4 → (k = 0 → i ≠ 2) → sup (sup σ2 3 n.toNat (b (4 * n) - 48)) 4 n.toNat (10 * (b (4 * n + 1) - 48) + (b (4 * n + 2) - 48)) k i = σ k i := fun k i g1 g2 g3 => by rw [sup_k _ _ _ _ _ g2, sup_k _ _ _ _ _ g1]; exact hf k i g1 g2 g3
                     have ea : 4 * n + 3 + 1 = 4 * (n + 1) := by omega
                     rw [ea]
                     refine ih (n + 1) _ _ _ (by omega) (by omega) (by omega) (fun j j0 j1 => ?_) r3 fr3 (by rw [sup_k _ _ _ _ _ (show (0 : Nat) ≠ 4 by decide), sup_k _ _ _ _ _ (show (0 : Nat) ≠ 3 by decide)]; exact e0)
                     by_cases h : j = 4 * n + 3
                     · rw [h]; exact okA_3 (by omega)
                     · exact okF j j0 (by omega)
                   · skip
                     refine r_iload dX9_readsText_269 rfl ?_
                     refine r_iret rfl dX9_readsText_271 ?_
                     have ok2 : okA b 6 (4 * n + 2) = true := okA_2 ⟨f2.2.1, f2.2.2.1⟩ (by omega)
                     have okF : ∀ j, 0 ≤ j → j < 4 * n + 3 → okA b 6 j = true := by
                       intro j j0 j1
                       by_cases h : j = 4 * n + 2
                       · rw [h]; exact ok2
                       · exact okj j j0 (by omega)
                     have r3 : ∀ z : Int, 0 ≤ z → z < n + 1 → sup (sup σ2 3 n.toNat (b (4 * n) - 48)) 4 n.toNat (10 * (b (4 * n + 1) - 48) + (b (4 * n + 2) - 48)) 3 z.toNat = b (4 * z) - 48 ∧ sup (sup σ2 3 n.toNat (b (4 * n) - 48)) 4 n.toNat (10 * (b (4 * n + 1) - 48) + (b (4 * n + 2) - 48)) 4 z.toNat = two b (4 * z + 1) := by
                       intro z z0 z1
                       rw [sup_k _ _ _ _ _ (show (3 : Nat) ≠ 4 by decide)]
                       by_cases h : z = n
                       · subst h
                         rw [sup_h, sup_h]; exact ⟨rfl, by omega⟩
                       · rw [sup_i _ _ _ _ (by omega), sup_i _ _ _ _ (by omega), sup_k _ _ _ _ _ (show (4 : Nat) ≠ 3 by decide)]
                         exact er z z0 (by omega)
                     have fr3 : ∀ k i, k ≠ 3 → k ≠ 4 → (k = 0 → i ≠ 2) → sup (sup σ2 3 n.toNat (b (4 * n) - 48)) 4 n.toNat (10 * (b (4 * n + 1) - 48) + (b (4 * n + 2) - 48)) k i = σ k i := fun k i g1 g2 g3 => by rw [sup_k _ _ _ _ _ g2, sup_k _ _ _ _ _ g1]; exact hf k i g1 g2 g3
                     have hz : fF b 6 N = 4 * n + 3 := fF_at (by omega) (by omega) (fun j j0 j1 => okF j j0 (by omega)) (okA_3n (by omega))
                     exact ⟨_, rfl, by rw [hz], rt_none_0 hz (by omega) (by rw [sup_k _ _ _ _ _ (show (0 : Nat) ≠ 4 by decide), sup_k _ _ _ _ _ (show (0 : Nat) ≠ 3 by decide)]; exact e0) fr3⟩
                 · skip
                   refine r_aload_n dX9_readsText_217 rfl ?_
                   refine r_iload_n dX9_readsText_218 rfl ?_
                   refine i_if_ne 226 dX9_readsText_219 rfl ⟨by omega, by omega⟩ (fun q219 => ?_) (fun q219 => ?_)
                   · exfalso
                     omega
                   · skip
                     refine r_iload_n dX9_readsText_222 rfl ?_
                     refine r_goto 230 dX9_readsText_223 rfl ?_
                     refine i_put (k := 0) lpX9_63 dX9_readsText_230 (Nat.le_of_ble_eq_true rfl) rfl rfl ?_
                     refine r_aload_n dX9_readsText_233 rfl ?_
                     refine r_iload_n dX9_readsText_234 rfl ?_
                     refine i_const dX9_readsText_235 ?_
                     refine i_icmp_ne 243 dX9_readsText_236 rfl ⟨by omega, by omega⟩ ⟨by omega, by omega⟩ (fun q236 => ?_) (fun q236 => ?_)
                     · skip
                       refine r_aload_n dX9_readsText_243 rfl ?_
                       refine r_get (k := 0) lfX9_67 dX9_readsText_244 (Nat.le_of_ble_eq_true rfl) rfl rfl ?_
                       refine i_put (k := 0) lpX9_67 dX9_readsText_247 (Nat.le_of_ble_eq_true rfl) rfl rfl ?_
                       refine i_const dX9_readsText_250 ?_
                       refine r_iret rfl dX9_readsText_251 ?_
                       have ok2 : okA b 6 (4 * n + 2) = true := okA_2 ⟨f2.2.1, f2.2.2.1⟩ (by omega)
                       have okF : ∀ j, 0 ≤ j → j < 4 * n + 3 → okA b 6 j = true := by
                         intro j j0 j1
                         by_cases h : j = 4 * n + 2
                         · rw [h]; exact ok2
                         · exact okj j j0 (by omega)
                       have r3 : ∀ z : Int, 0 ≤ z → z < n + 1 → sup (sup σ2 3 n.toNat (b (4 * n) - 48)) 4 n.toNat (10 * (b (4 * n + 1) - 48) + (b (4 * n + 2) - 48)) 3 z.toNat = b (4 * z) - 48 ∧ sup (sup σ2 3 n.toNat (b (4 * n) - 48)) 4 n.toNat (10 * (b (4 * n + 1) - 48) + (b (4 * n + 2) - 48)) 4 z.toNat = two b (4 * z + 1) := by
                         intro z z0 z1
                         rw [sup_k _ _ _ _ _ (show (3 : Nat) ≠ 4 by decide)]
                         by_cases h : z = n
                         · subst h
                           rw [sup_h, sup_h]; exact ⟨rfl, by omega⟩
                         · rw [sup_i _ _ _ _ (by omega), sup_i _ _ _ _ (by omega), sup_k _ _ _ _ _ (show (4 : Nat) ≠ 3 by decide)]
                           exact er z z0 (by omega)
                       have fr3 : ∀ k i, k ≠ 3 → k ≠ 4 → (k = 0 → i ≠ 2) → sup (sup σ2 3 n.toNat (b (4 * n) - 48)) 4 n.toNat (10 * (b (4 * n + 1) - 48) + (b (4 * n + 2) - 48)) k i = σ k i := fun k i g1 g2 g3 => by rw [sup_k _ _ _ _ _ g2, sup_k _ _ _ _ _ g1]; exact hf k i g1 g2 g3
                       have hz : fF b 6 N = -1 := by rw [fF_all (by omega) (fun j j0 j1 => okF j j0 (by omega)), if_pos (by omega)]
                       have hnf : nF b 6 N = n + 1 := by unfold nF; rw [if_pos hz]; omega
                       refine ⟨_, rfl, by rw [hz], ?_, ?_, ?_⟩
                       · rw [hnf, sup_id, sup_h]
                       · rw [hnf, sup_id]; intro z z0 z1; rw [sup_k _ _ _ _ _ (show (3 : Nat) ≠ 0 by decide), sup_k _ _ _ _ _ (show (4 : Nat) ≠ 0 by decide)]; exact r3 z z0 z1
                       · rw [sup_id]
                         intro k i g1 g2 g3
                         by_cases hk : k = 0
                         · subst hk; rw [sup_i _ _ _ _ (g3 rfl)]; exact fr3 0 i g1 g2 g3
                         · rw [sup_k _ _ _ _ _ hk]; exact fr3 k i g1 g2 g3
                     · exfalso
                       omega
           · skip
             refine r_iload dX9_readsText_145 rfl ?_
             refine r_iload dX9_readsText_147 rfl ?_
             refine i_const dX9_readsText_149 ?_
             refine i_icmp_ge 158 dX9_readsText_150 rfl ⟨by omega, by omega⟩ ⟨by omega, by omega⟩ (fun q150 => ?_) (fun q150 => ?_)
             · skip
               refine i_const dX9_readsText_158 ?_
               refine i_iadd dX9_readsText_159 ?_
               refine r_iret rfl dX9_readsText_160 ?_
               have hz : fF b 6 N = 4 * n + 2 := fF_at (by omega) (by omega) (fun j j0 j1 => okj j j0 (by omega)) (okA_2n (by omega))
               exact ⟨_, rfl, by rw [hz], rt_none_0 hz (by omega) e0 hf⟩
             · exfalso
               omega
 
    refine r_iload dX9_readsText_49 rfl ?_
    refine r_aload_n dX9_readsText_51 rfl ?_
    refine r_get (k := 0) lfX9_7 dX9_readsText_52 (Nat.le_of_ble_eq_true rfl) rfl rfl ?_
    refine r_iload_n dX9_readsText_55 rfl ?_
    refine i_ald (k := 1) dX9_readsText_56 (Nat.le_of_ble_eq_true rfl) rfl rfl ⟨by omega, by omega⟩ (by decide) ?_
    rw [show (0 : Int).toNat = 0 from rfl, hN2]
    refine i_icmp_lt 65 dX9_readsText_57 rfl ⟨by omega, by omega⟩ ⟨by omega, by omega⟩ (fun q57 => ?_) (fun q57 => ?_)
    · skip
      refine i_const dX9_readsText_65 ?_
      refine r_istore dX9_readsText_66 (Nat.le_of_ble_eq_true rfl) ?_
      exact m_rt_in_0 σ2 b hs2 hb N hN2 n0 n (4 * n) l6 n1 (by omega) (by omega) (by omega) _ (fun g g0 g1 => K g g0 g1 (by omega)) 3 0 (by omega) (by omega) (fun i i0 i1 => absurd i1 (by omega))
    · skip
      refine r_iload dX9_readsText_60 rfl ?_
      refine i_if_le 278 dX9_readsText_62 rfl ⟨by omega, by omega⟩ (fun q62 => ?_) (fun q62 => ?_)
      · skip
        refine i_const dX9_readsText_278 ?_
        refine r_iret rfl dX9_readsText_279 ?_
        have hz : fF b 6 N = -1 := by rw [fF_all (by omega) (fun j j0 j1 => absurd j1 (by omega)), if_pos (by omega)]
        have hnf : nF b 6 N = 0 := by unfold nF; rw [if_pos hz]; omega
        exact ⟨_, rfl, by rw [hz], by rw [hnf, e0], by rw [hnf]; first | exact fun z z0 z1 => absurd z1 (by omega) | exact fun z => absurd rfl z, hf⟩
      · skip
        refine i_const dX9_readsText_65 ?_
        refine r_istore dX9_readsText_66 (Nat.le_of_ble_eq_true rfl) ?_
        exact m_rt_in_0 σ2 b hs2 hb N hN2 n0 n (4 * n) l6 n1 (by omega) (by omega) (by omega) _ (fun g g0 g1 => K g g0 g1 (by omega)) 3 0 (by omega) (by omega) (fun i i0 i1 => absurd i1 (by omega))

set_option maxRecDepth 20000 in
theorem m_readsText_0 (σ : rl_S) (b : Int → Int) (hs : ∀ z : Int, 0 ≤ z → z < 23 → σ 2 (0 + z.toNat) = b z) (hb : BB b) (N : Int) (hN : σ 1 0 = N) (n0 : 0 ≤ N ∧ N ≤ 23)  : Ct mW mX9_readsText [.ref 0, .int (iI 0)] σ (qI (fun z σ' => z = fF b 6 N ∧ rt_0 σ b N σ')) := by
  refine Ct.of plX9 (Nat.le_of_ble_eq_true rfl) ?_
  refine r_iload_n dX9_readsText_0 rfl ?_
  refine i_if_ne 9 dX9_readsText_1 rfl ⟨by omega, by omega⟩ (fun q1 => ?_) (fun q1 => ?_)
  · exfalso
    omega
  · skip
    refine i_bipush dX9_readsText_4 (by decide) ?_
    refine r_goto 10 dX9_readsText_6 rfl ?_
    refine r_istore_n dX9_readsText_10 (Nat.le_of_ble_eq_true rfl) ?_
    refine i_const dX9_readsText_11 ?_
    refine r_istore_n dX9_readsText_12 (Nat.le_of_ble_eq_true rfl) ?_
    refine i_const dX9_readsText_13 ?_
    refine r_istore dX9_readsText_14 (Nat.le_of_ble_eq_true rfl) ?_
    refine r_aload_n dX9_readsText_16 rfl ?_
    refine r_iload_n dX9_readsText_17 rfl ?_
    refine i_if_ne 25 dX9_readsText_18 rfl ⟨by omega, by omega⟩ (fun q18 => ?_) (fun q18 => ?_)
    · exfalso
      omega
    · skip
      refine i_const dX9_readsText_21 ?_
      refine r_goto 29 dX9_readsText_22 rfl ?_
      refine i_put (k := 0) lpX9_63 dX9_readsText_29 (Nat.le_of_ble_eq_true rfl) rfl rfl ?_
      refine r_aload_n dX9_readsText_32 rfl ?_
      refine r_iload_n dX9_readsText_33 rfl ?_
      refine i_const dX9_readsText_34 ?_
      refine i_icmp_ne 42 dX9_readsText_35 rfl ⟨by omega, by omega⟩ ⟨by omega, by omega⟩ (fun q35 => ?_) (fun q35 => ?_)
      · skip
        refine r_aload_n dX9_readsText_42 rfl ?_
        refine r_get (k := 0) lfX9_67 dX9_readsText_43 (Nat.le_of_ble_eq_true rfl) rfl rfl ?_
        refine i_put (k := 0) lpX9_67 dX9_readsText_46 (Nat.le_of_ble_eq_true rfl) rfl rfl ?_
        refine m_rt_l_0 σ b hs hb N hN n0 6 0 _ _ _ (by omega) (by omega) (by omega) (fun j j0 j1 => absurd j1 (by omega)) (fun z z0 z1 => absurd z1 (by omega)) (fun k i g1 g2 g3 => ?_) ?_
        · rw [sup_id]
          by_cases hk : k = 0
          · subst hk; exact sup_i _ _ _ _ (g3 rfl)
          · exact sup_k _ _ _ _ _ hk
        · rw [sup_id]; exact sup_h _ _ _ _
      · exfalso
        omega

set_option maxRecDepth 20000 in
theorem m_figureAt_1 (σ : rl_S) (b : Int → Int) (hs : ∀ z : Int, 0 ≤ z → z < 23 → σ 2 (23 + z.toNat) = b z) (hb : BB b) (N : Int) (hN : σ 1 1 = N) (n0 : 0 ≤ N ∧ N ≤ 3) (k : Int) (k0 : 0 ≤ k) (k1 : k < 40) : Ct mW mX9_figureAt [.ref 0, .int (iI 1), .int (iI k)] σ (pR (.int (iI (fg b N k))) σ) := by
  refine Ct.of plX9 (Nat.le_of_ble_eq_true rfl) ?_
  refine r_iload_n dX9_figureAt_0 rfl ?_
  refine r_aload_n dX9_figureAt_1 rfl ?_
  refine r_get (k := 0) lfX9_7 dX9_figureAt_2 (Nat.le_of_ble_eq_true rfl) rfl rfl ?_
  refine r_iload_n dX9_figureAt_5 rfl ?_
  refine i_ald (k := 1) dX9_figureAt_6 (Nat.le_of_ble_eq_true rfl) rfl rfl ⟨by omega, by omega⟩ (by decide) ?_
  rw [show (1 : Int).toNat = 1 from rfl, hN]
  refine i_icmp_ge 27 dX9_figureAt_7 rfl ⟨by omega, by omega⟩ ⟨by omega, by omega⟩ (fun q7 => ?_) (fun q7 => ?_)
  · skip
    refine i_const dX9_figureAt_27 ?_
    refine r_istore_n dX9_figureAt_28 (Nat.le_of_ble_eq_true rfl) ?_
    refine r_iload_n dX9_figureAt_29 rfl ?_
    refine i_const dX9_figureAt_30 ?_
    refine i_bipush dX9_figureAt_31 (by decide) ?_
    refine i_csP (m_in σ _ 0 9 (by omega) (by decide) (by decide)) lmX9_55 dX9_figureAt_33 (by decide) (by decide) rfl rfl (Nat.le_of_ble_eq_true rfl) ?_
    refine i_if_eq 43 dX9_figureAt_36 rfl (ob_i32 _) (fun q36 => ?_) (fun q36 => ?_)
    · have e36 := ob_df q36
      refine i_const dX9_figureAt_43 ?_
      refine r_iret rfl dX9_figureAt_44 ?_
      refine ⟨?_, rfl⟩
      unfold fg
      first
        | (exfalso; omega)
        | (rw [if_pos (by omega)])
        | (rw [if_neg (by omega)])
    · have e36 := ob_dt q36
      refine r_iload_n dX9_figureAt_39 rfl ?_
      refine r_goto 44 dX9_figureAt_40 rfl ?_
      refine r_iret rfl dX9_figureAt_44 ?_
      refine ⟨?_, rfl⟩
      unfold fg
      first
        | (exfalso; omega)
        | (rw [if_pos (by omega)])
        | (rw [if_neg (by omega)])
  · skip
    refine r_aload_n dX9_figureAt_10 rfl ?_
    refine r_get (k := 0) lfX9_13 dX9_figureAt_11 (Nat.le_of_ble_eq_true rfl) rfl rfl ?_
    refine i_bipush dX9_figureAt_14 (by decide) ?_
    refine r_iload_n dX9_figureAt_16 rfl ?_
    refine i_imul dX9_figureAt_17 ?_
    refine r_iload_n dX9_figureAt_18 rfl ?_
    refine i_iadd dX9_figureAt_19 ?_
    refine i_ald (k := 2) dX9_figureAt_20 (Nat.le_of_ble_eq_true rfl) rfl rfl ⟨by omega, by omega⟩ (by decide) ?_
    have hbk := hb k k0 (by omega)
    rw [show (23 * (1 : Int) + k).toNat = 23 + k.toNat by omega, hs k k0 (by omega)]
    refine i_bipush dX9_figureAt_21 (by decide) ?_
    refine i_isub dX9_figureAt_23 ?_
    refine r_goto 28 dX9_figureAt_24 rfl ?_
    refine r_istore_n dX9_figureAt_28 (Nat.le_of_ble_eq_true rfl) ?_
    refine r_iload_n dX9_figureAt_29 rfl ?_
    refine i_const dX9_figureAt_30 ?_
    refine i_bipush dX9_figureAt_31 (by decide) ?_
    refine i_csP (m_in σ _ 0 9 (by omega) (by decide) (by decide)) lmX9_55 dX9_figureAt_33 (by decide) (by decide) rfl rfl (Nat.le_of_ble_eq_true rfl) ?_
    refine i_if_eq 43 dX9_figureAt_36 rfl (ob_i32 _) (fun q36 => ?_) (fun q36 => ?_)
    · have e36 := ob_df q36
      refine i_const dX9_figureAt_43 ?_
      refine r_iret rfl dX9_figureAt_44 ?_
      refine ⟨?_, rfl⟩
      unfold fg
      first
        | (exfalso; omega)
        | (rw [if_pos (by omega)])
        | (rw [if_neg (by omega)])
    · have e36 := ob_dt q36
      refine r_iload_n dX9_figureAt_39 rfl ?_
      refine r_goto 44 dX9_figureAt_40 rfl ?_
      refine r_iret rfl dX9_figureAt_44 ?_
      refine ⟨?_, rfl⟩
      unfold fg
      first
        | (exfalso; omega)
        | (rw [if_pos (by omega)])
        | (rw [if_neg (by omega)])

/-- what reading text 1 leaves -/
def rt_1 (σ : rl_S) (b : Int → Int) (N : Int) (σ' : rl_S) : Prop := σ' 0 5 = nF b 1 N ∧ (¬ nF b 1 N = 0 → σ' 3 6 = b 0 - 48 ∧ σ' 4 6 = two b 1) ∧ ∀ k i, (k = 3 → i ≠ 6) → (k = 4 → i ≠ 6) → (k = 0 → i ≠ 5) → σ' k i = σ k i
theorem rt_none_1 {σ σ2 : rl_S} {b : Int → Int} {N p : Int} (h : fF b 1 N = p) (p0 : 0 ≤ p) (h2 : σ2 0 5 = 0) (f : ∀ k i, (k = 3 → i ≠ 6) → (k = 4 → i ≠ 6) → (k = 0 → i ≠ 5) → σ2 k i = σ k i) : rt_1 σ b N σ2 := by
  have e : nF b 1 N = 0 := by unfold nF; rw [if_neg (by omega)]
  exact ⟨by rw [e, h2], by rw [e]; first | exact fun z z0 z1 => absurd z1 (by omega) | exact fun z => absurd rfl z, f⟩
theorem m_rt_in_1 (σ : rl_S) (b : Int → Int) (hs : ∀ z : Int, 0 ≤ z → z < 23 → σ 2 (23 + z.toNat) = b z) (hb : BB b) (N : Int) (hN : σ 1 1 = N) (n0 : 0 ≤ N ∧ N ≤ 3) (n at0 : Int) (l6 : Value) (n1 : 0 ≤ n) (n2 : n < 1) (a0 : 0 ≤ at0) (a1 : at0 < 30) (Post : Option Value → rl_S → Prop) (K : ∀ g : Int, 0 ≤ g → g ≤ 3 → (∀ i, 0 ≤ i → i < g → ¬ fg b N (at0 + i) = -1) → (g < 3 → fg b N (at0 + g) = -1) → Rn mW mX9_readsText 99 [.ref 0, .int (iI 1), .int (iI 1), .int (iI n), .int (iI at0), .int (iI g), l6] [] σ Post) : ∀ (f : Nat) (g : Int), g + f = 3 → 0 ≤ g → (∀ i, 0 ≤ i → i < g → ¬ fg b N (at0 + i) = -1) → Rn mW mX9_readsText 68 [.ref 0, .int (iI 1), .int (iI 1), .int (iI n), .int (iI at0), .int (iI g), l6] [] σ Post := by
  intro f
  induction f with
  | zero =>
    intro g hg g0 hi
    refine r_iload_n dX9_readsText_68 rfl ?_
    refine r_iload_n dX9_readsText_69 rfl ?_
    refine i_icmp_ge 99 dX9_readsText_70 rfl ⟨by omega, by omega⟩ ⟨by omega, by omega⟩ (fun q70 => ?_) (fun q70 => ?_)
    · exfalso
      omega
    · skip
      refine r_iload dX9_readsText_73 rfl ?_
      refine i_const dX9_readsText_75 ?_
      refine i_icmp_ge 99 dX9_readsText_76 rfl ⟨by omega, by omega⟩ ⟨by omega, by omega⟩ (fun q76 => ?_) (fun q76 => ?_)
      · skip
        exact K g g0 (by omega) hi (fun h => absurd h (by omega))
      · exfalso
        omega
  | succ f ih =>
    intro g hg g0 hi
    have fb := fg_bd b N (at0 + g)
    refine r_iload_n dX9_readsText_68 rfl ?_
    refine r_iload_n dX9_readsText_69 rfl ?_
    refine i_icmp_ge 99 dX9_readsText_70 rfl ⟨by omega, by omega⟩ ⟨by omega, by omega⟩ (fun q70 => ?_) (fun q70 => ?_)
    · exfalso
      omega
    · skip
      refine r_iload dX9_readsText_73 rfl ?_
      refine i_const dX9_readsText_75 ?_
      refine i_icmp_ge 99 dX9_readsText_76 rfl ⟨by omega, by omega⟩ ⟨by omega, by omega⟩ (fun q76 => ?_) (fun q76 => ?_)
      · exfalso
        omega
      · skip
        refine r_aload_n dX9_readsText_79 rfl ?_
        refine r_iload_n dX9_readsText_80 rfl ?_
        refine r_iload dX9_readsText_81 rfl ?_
        refine r_iload dX9_readsText_83 rfl ?_
        refine i_iadd dX9_readsText_85 ?_
        refine i_cvP (m_figureAt_1 σ b hs hb N hN n0 (at0 + g) (by omega) (by omega)) lmX9_70 dX9_readsText_86 (Nat.le_of_ble_eq_true rfl) rfl ⟨_, _, rfl⟩ (by decide) (by decide) rfl rfl (Nat.le_of_ble_eq_true rfl) ?_
        refine i_const dX9_readsText_89 ?_
        refine i_icmp_eq 99 dX9_readsText_90 rfl ⟨by omega, by omega⟩ ⟨by omega, by omega⟩ (fun q90 => ?_) (fun q90 => ?_)
        · skip
          exact K g g0 (by omega) hi (fun h => by omega)
        · skip
          refine i_iinc dX9_readsText_93 rfl (Nat.le_of_ble_eq_true rfl) ?_
          refine r_goto 68 dX9_readsText_96 rfl ?_
          refine ih (g + 1) (by omega) (by omega) (fun i i0 i1 => ?_)
          by_cases h : i = g
          · rw [h]; omega
          · exact hi i i0 (by omega)

theorem m_rt_l_1 (σ : rl_S) (b : Int → Int) (hs : ∀ z : Int, 0 ≤ z → z < 23 → σ 2 (23 + z.toNat) = b z) (hb : BB b) (N : Int) (hN : σ 1 1 = N) (n0 : 0 ≤ N ∧ N ≤ 3) (σ2 : rl_S) (hf : ∀ k i, (k = 3 → i ≠ 6) → (k = 4 → i ≠ 6) → (k = 0 → i ≠ 5) → σ2 k i = σ k i) (e0 : σ2 0 5 = 0) (l5 l6 : Value) : Rn mW mX9_readsText 49 [.ref 0, .int (iI 1), .int (iI 1), .int (iI 0), .int (iI 0), l5, l6] [] σ2 (qI (fun z σ' => z = fF b 1 N ∧ rt_1 σ b N σ')) := by
    have hg : ∀ j : Int, 0 ≤ j → j < 4 * 0 → okA b 1 j = true := fun j j0 j1 => absurd j1 (by omega)
    have hs2 : ∀ z : Int, 0 ≤ z → z < 23 → σ2 2 (23 + z.toNat) = b z := fun z z0 z1 => (hf 2 _ (fun q => absurd q (by decide)) (fun q => absurd q (by decide)) (fun q => absurd q (by decide))).trans (hs z z0 z1)
    have hN2 : σ2 1 1 = N := (hf 1 _ (fun q => absurd q (by decide)) (fun q => absurd q (by decide)) (fun q => absurd q (by decide))).trans hN
    have K : ∀ g : Int, 0 ≤ g → g ≤ 3 → ¬ N = 0 → (∀ i, 0 ≤ i → i < g → ¬ fg b N (0 + i) = -1) → (g < 3 → fg b N (0 + g) = -1) → Rn mW mX9_readsText 99 [.ref 0, .int (iI 1), .int (iI 1), .int (iI 0), .int (iI 0), .int (iI g), l6] [] σ2 (qI (fun z σ' => z = fF b 1 N ∧ rt_1 σ b N σ')) := by
     intro g g0 g1 hNz hi hfn
     have g4 : g = 0 ∨ g = 1 ∨ g = 2 ∨ g = 3 := by omega
     rcases g4 with rfl | rfl | rfl | rfl
     · skip
       refine r_iload dX9_readsText_99 rfl ?_
       refine i_const dX9_readsText_101 ?_
       refine i_icmp_ne 130 dX9_readsText_102 rfl ⟨by omega, by omega⟩ ⟨by omega, by omega⟩ (fun q102 => ?_) (fun q102 => ?_)
       · skip
         refine i_const dX9_readsText_130 ?_
         refine r_istore dX9_readsText_131 (Nat.le_of_ble_eq_true rfl) ?_
         refine r_iload dX9_readsText_133 rfl ?_
         refine i_const dX9_readsText_135 ?_
         refine i_icmp_lt 145 dX9_readsText_136 rfl ⟨by omega, by omega⟩ ⟨by omega, by omega⟩ (fun q136 => ?_) (fun q136 => ?_)
         · skip
           refine r_iload dX9_readsText_145 rfl ?_
           refine r_iload dX9_readsText_147 rfl ?_
           refine i_const dX9_readsText_149 ?_
           refine i_icmp_ge 158 dX9_readsText_150 rfl ⟨by omega, by omega⟩ ⟨by omega, by omega⟩ (fun q150 => ?_) (fun q150 => ?_)
           · exfalso
             omega
           · skip
             refine r_iload dX9_readsText_153 rfl ?_
             refine r_goto 159 dX9_readsText_155 rfl ?_
             refine i_iadd dX9_readsText_159 ?_
             refine r_iret rfl dX9_readsText_160 ?_
             have hz := rt_flt (b := b) (m := 1) (N := N) (n := 0) (g := 0) (by omega) (by omega) hg (by omega) (by omega) (by omega) (by omega) (fun i i0 i1 => by have := hi i i0 i1; rw [show (4 * 0 + i : Int) = 0 + i by omega]; exact this) (hfn (by decide))
             exact ⟨_, rfl, by rw [hz]; first | done | omega, rt_none_1 hz (by omega) e0 hf⟩
         · exfalso
           omega
       · exfalso
         omega
     · skip
       refine r_iload dX9_readsText_99 rfl ?_
       refine i_const dX9_readsText_101 ?_
       refine i_icmp_ne 130 dX9_readsText_102 rfl ⟨by omega, by omega⟩ ⟨by omega, by omega⟩ (fun q102 => ?_) (fun q102 => ?_)
       · skip
         refine i_const dX9_readsText_130 ?_
         refine r_istore dX9_readsText_131 (Nat.le_of_ble_eq_true rfl) ?_
         refine r_iload dX9_readsText_133 rfl ?_
         refine i_const dX9_readsText_135 ?_
         refine i_icmp_lt 145 dX9_readsText_136 rfl ⟨by omega, by omega⟩ ⟨by omega, by omega⟩ (fun q136 => ?_) (fun q136 => ?_)
         · skip
           refine r_iload dX9_readsText_145 rfl ?_
           refine r_iload dX9_readsText_147 rfl ?_
           refine i_const dX9_readsText_149 ?_
           refine i_icmp_ge 158 dX9_readsText_150 rfl ⟨by omega, by omega⟩ ⟨by omega, by omega⟩ (fun q150 => ?_) (fun q150 => ?_)
           · exfalso
             omega
           · skip
             refine r_iload dX9_readsText_153 rfl ?_
             refine r_goto 159 dX9_readsText_155 rfl ?_
             refine i_iadd dX9_readsText_159 ?_
             refine r_iret rfl dX9_readsText_160 ?_
             have hz := rt_flt (b := b) (m := 1) (N := N) (n := 0) (g := 1) (by omega) (by omega) hg (by omega) (by omega) (by omega) (by omega) (fun i i0 i1 => by have := hi i i0 i1; rw [show (4 * 0 + i : Int) = 0 + i by omega]; exact this) (hfn (by decide))
             exact ⟨_, rfl, by rw [hz]; first | done | omega, rt_none_1 hz (by omega) e0 hf⟩
         · exfalso
           omega
       · exfalso
         omega
     · skip
       refine r_iload dX9_readsText_99 rfl ?_
       refine i_const dX9_readsText_101 ?_
       refine i_icmp_ne 130 dX9_readsText_102 rfl ⟨by omega, by omega⟩ ⟨by omega, by omega⟩ (fun q102 => ?_) (fun q102 => ?_)
       · skip
         refine i_const dX9_readsText_130 ?_
         refine r_istore dX9_readsText_131 (Nat.le_of_ble_eq_true rfl) ?_
         refine r_iload dX9_readsText_133 rfl ?_
         refine i_const dX9_readsText_135 ?_
         refine i_icmp_lt 145 dX9_readsText_136 rfl ⟨by omega, by omega⟩ ⟨by omega, by omega⟩ (fun q136 => ?_) (fun q136 => ?_)
         · skip
           refine r_iload dX9_readsText_145 rfl ?_
           refine r_iload dX9_readsText_147 rfl ?_
           refine i_const dX9_readsText_149 ?_
           refine i_icmp_ge 158 dX9_readsText_150 rfl ⟨by omega, by omega⟩ ⟨by omega, by omega⟩ (fun q150 => ?_) (fun q150 => ?_)
           · exfalso
             omega
           · skip
             refine r_iload dX9_readsText_153 rfl ?_
             refine r_goto 159 dX9_readsText_155 rfl ?_
             refine i_iadd dX9_readsText_159 ?_
             refine r_iret rfl dX9_readsText_160 ?_
             have hz := rt_flt (b := b) (m := 1) (N := N) (n := 0) (g := 2) (by omega) (by omega) hg (by omega) (by omega) (by omega) (by omega) (fun i i0 i1 => by have := hi i i0 i1; rw [show (4 * 0 + i : Int) = 0 + i by omega]; exact this) (hfn (by decide))
             exact ⟨_, rfl, by rw [hz]; first | done | omega, rt_none_1 hz (by omega) e0 hf⟩
         · exfalso
           omega
       · exfalso
         omega
     · skip
       have f0 := fg_ne (hi 0 (by decide) (by decide))
       have f1 := fg_ne (hi 1 (by decide) (by decide))
       have f2 := fg_ne (hi 2 (by decide) (by decide))
       rw [show 0 + 0 = (0 : Int) by omega] at f0
       have et : two b 1 = 10 * (b 1 - 48) + (b (1 + 1) - 48) := rfl
       rw [show (0 + 1 : Int) = 1 from rfl] at f1
       rw [show (0 + 2 : Int) = 2 from rfl] at f2
       rw [show (1 + 1 : Int) = 2 from rfl] at et
       have okj : ∀ j, 0 ≤ j → j < 0 + 2 → okA b 1 j = true := by
         intro j j0 j1
         by_cases h : j < 0
         · exact hg j j0 (by omega)
         · have : j = 0 ∨ j = 0 + 1 := by omega
           rcases this with rfl | rfl
           · exact okA_0 (n := 0) (by omega) ⟨f0.2.1, f0.2.2.1⟩
           · exact okA_1 (n := 0) ⟨f1.2.1, f1.2.2.1⟩
       refine r_iload dX9_readsText_99 rfl ?_
       refine i_const dX9_readsText_101 ?_
       refine i_icmp_ne 130 dX9_readsText_102 rfl ⟨by omega, by omega⟩ ⟨by omega, by omega⟩ (fun q102 => ?_) (fun q102 => ?_)
       · exfalso
         omega
       · skip
         refine i_bipush dX9_readsText_105 (by decide) ?_
         refine r_aload_n dX9_readsText_107 rfl ?_
         refine r_iload_n dX9_readsText_108 rfl ?_
         refine r_iload dX9_readsText_109 rfl ?_
         refine i_const dX9_readsText_111 ?_
         refine i_iadd dX9_readsText_112 ?_
         refine i_cvP (m_figureAt_1 _ b (fun z z0 z1 => hs2 z z0 z1) hb N hN2 n0 _ (by omega) (by omega)) lmX9_70 dX9_readsText_113 (Nat.le_of_ble_eq_true rfl) rfl ⟨_, _, rfl⟩ (by decide) (by decide) rfl rfl (Nat.le_of_ble_eq_true rfl) ?_
         first | rw [f1.2.2.2] | rw [show (0 + 1 : Int) = 1 from rfl, f1.2.2.2]
         refine i_imul dX9_readsText_116 ?_
         refine r_aload_n dX9_readsText_117 rfl ?_
         refine r_iload_n dX9_readsText_118 rfl ?_
         refine r_iload dX9_readsText_119 rfl ?_
         refine i_const dX9_readsText_121 ?_
         refine i_iadd dX9_readsText_122 ?_
         refine i_cvP (m_figureAt_1 _ b (fun z z0 z1 => hs2 z z0 z1) hb N hN2 n0 _ (by omega) (by omega)) lmX9_70 dX9_readsText_123 (Nat.le_of_ble_eq_true rfl) rfl ⟨_, _, rfl⟩ (by decide) (by decide) rfl rfl (Nat.le_of_ble_eq_true rfl) ?_
         first | rw [f2.2.2.2] | rw [show (0 + 2 : Int) = 2 from rfl, f2.2.2.2]
         refine i_iadd dX9_readsText_126 ?_
         refine r_goto 131 dX9_readsText_127 rfl ?_
         refine r_istore dX9_readsText_131 (Nat.le_of_ble_eq_true rfl) ?_
         refine r_iload dX9_readsText_133 rfl ?_
         refine i_const dX9_readsText_135 ?_
         refine i_icmp_lt 145 dX9_readsText_136 rfl ⟨by omega, by omega⟩ ⟨by omega, by omega⟩ (fun q136 => ?_) (fun q136 => ?_)
         · exfalso
           omega
         · skip
           refine r_iload dX9_readsText_139 rfl ?_
           refine i_const dX9_readsText_141 ?_
           refine i_icmp_ge 161 dX9_readsText_142 rfl ⟨by omega, by omega⟩ ⟨by omega, by omega⟩ (fun q142 => ?_) (fun q142 => ?_)
           · skip
             refine r_aload_n dX9_readsText_161 rfl ?_
             refine r_get (k := 0) lfX9_16 dX9_readsText_162 (Nat.le_of_ble_eq_true rfl) rfl rfl ?_
             refine r_iload_n dX9_readsText_165 rfl ?_
             refine i_if_ne 173 dX9_readsText_166 rfl ⟨by omega, by omega⟩ (fun q166 => ?_) (fun q166 => ?_)
             · skip
               refine i_bipush dX9_readsText_173 (by decide) ?_
               refine r_aload_n dX9_readsText_175 rfl ?_
               refine r_iload_n dX9_readsText_176 rfl ?_
               refine r_iload dX9_readsText_177 rfl ?_
               refine i_cvP (m_figureAt_1 _ b (fun z z0 z1 => hs2 z z0 z1) hb N hN2 n0 _ (by omega) (by omega)) lmX9_70 dX9_readsText_179 (Nat.le_of_ble_eq_true rfl) rfl ⟨_, _, rfl⟩ (by decide) (by decide) rfl rfl (Nat.le_of_ble_eq_true rfl) ?_
               rw [f0.2.2.2]
               refine i_ast (k := 3) dX9_readsText_182 (Nat.le_of_ble_eq_true rfl) rfl rfl ⟨by omega, by omega⟩ (by decide) ?_
               refine r_aload_n dX9_readsText_183 rfl ?_
               refine r_get (k := 0) lfX9_19 dX9_readsText_184 (Nat.le_of_ble_eq_true rfl) rfl rfl ?_
               refine r_iload_n dX9_readsText_187 rfl ?_
               refine i_if_ne 195 dX9_readsText_188 rfl ⟨by omega, by omega⟩ (fun q188 => ?_) (fun q188 => ?_)
               · skip
                 refine i_bipush dX9_readsText_195 (by decide) ?_
                 refine r_iload dX9_readsText_197 rfl ?_
                 refine i_ast (k := 4) dX9_readsText_199 (Nat.le_of_ble_eq_true rfl) rfl rfl ⟨by omega, by omega⟩ (by decide) ?_
                 refine i_iinc dX9_readsText_200 rfl (Nat.le_of_ble_eq_true rfl) ?_
                 refine i_iinc dX9_readsText_203 rfl (Nat.le_of_ble_eq_true rfl) ?_
                 refine r_iload dX9_readsText_206 rfl ?_
                 refine r_aload_n dX9_readsText_208 rfl ?_
                 refine r_get (k := 0) lfX9_7 dX9_readsText_209 (Nat.le_of_ble_eq_true rfl) rfl rfl ?_
                 refine r_iload_n dX9_readsText_212 rfl ?_
                 refine i_ald (k := 1) dX9_readsText_213 (Nat.le_of_ble_eq_true rfl) rfl rfl ⟨by omega, by omega⟩ (by decide) ?_
                 rw [sup_k _ _ _ _ _ (show (1 : Nat) ≠ 4 by decide), sup_k _ _ _ _ _ (show (1 : Nat) ≠ 3 by decide)]
                 rw [show (1 : Int).toNat = 1 from rfl, hN2]
                 refine i_icmp_ne 252 dX9_readsText_214 rfl ⟨by omega, by omega⟩ ⟨by omega, by omega⟩ (fun q214 => ?_) (fun q214 => ?_)
                 · exfalso
                   omega
                 · skip
                   refine r_aload_n dX9_readsText_217 rfl ?_
                   refine r_iload_n dX9_readsText_218 rfl ?_
                   refine i_if_ne 226 dX9_readsText_219 rfl ⟨by omega, by omega⟩ (fun q219 => ?_) (fun q219 => ?_)
                   · skip
                     refine r_aload_n dX9_readsText_226 rfl ?_
                     refine r_get (k := 0) lfX9_63 dX9_readsText_227 (Nat.le_of_ble_eq_true rfl) rfl rfl ?_
                     refine i_put (k := 0) lpX9_63 dX9_readsText_230 (Nat.le_of_ble_eq_true rfl) rfl rfl ?_
                     refine r_aload_n dX9_readsText_233 rfl ?_
                     refine r_iload_n dX9_readsText_234 rfl ?_
                     refine i_const dX9_readsText_235 ?_
                     refine i_icmp_ne 243 dX9_readsText_236 rfl ⟨by omega, by omega⟩ ⟨by omega, by omega⟩ (fun q236 => ?_) (fun q236 => ?_)
                     · exfalso
                       omega
                     · skip
                       refine r_iload_n dX9_readsText_239 rfl ?_
                       refine r_goto 247 dX9_readsText_240 rfl ?_
                       refine i_put (k := 0) lpX9_67 dX9_readsText_247 (Nat.le_of_ble_eq_true rfl) rfl rfl ?_
                       refine i_const dX9_readsText_250 ?_
                       refine r_iret rfl dX9_readsText_251 ?_
                       have ok2 : okA b 1 (0 + 2) = true := okA_2 (n := 0) ⟨f2.2.1, f2.2.2.1⟩ (by rw [show (4 * 0 + 1 : Int) = 1 from rfl]; omega)
                       have okF : ∀ j, 0 ≤ j → j < 0 + 3 → okA b 1 j = true := by
                         intro j j0 j1
                         by_cases h : j = 0 + 2
                         · rw [h]; exact ok2
                         · exact okj j j0 (by omega)
                       have fr3 : ∀ k i, (k = 3 → i ≠ 6) → (k = 4 → i ≠ 6) → (k = 0 → i ≠ 5) → sup (sup σ2 3 6 (b 0 - 48)) 4 6 (10 * (b (0 + 1) - 48) + (b (0 + 2) - 48)) k i = σ k i := fun k i g1 g2 g3 => by
                         have h4 : sup (sup σ2 3 6 (b 0 - 48)) 4 6 (10 * (b (0 + 1) - 48) + (b (0 + 2) - 48)) k i = sup σ2 3 6 (b 0 - 48) k i := by
                           by_cases h : k = 4
                           · subst h; exact sup_i _ _ _ _ (g2 rfl)
                           · exact sup_k _ _ _ _ _ h
                         have h3 : sup σ2 3 6 (b 0 - 48) k i = σ2 k i := by
                           by_cases h : k = 3
                           · subst h; exact sup_i _ _ _ _ (g1 rfl)
                           · exact sup_k _ _ _ _ _ h
                         rw [h4, h3]; exact hf k i g1 g2 g3
                       have hz : fF b 1 N = -1 := by rw [fF_all (by omega) (fun j j0 j1 => okF j j0 (by omega)), if_pos (by omega)]
                       have hnf : nF b 1 N = 1 := by unfold nF; rw [if_pos hz]; omega
                       rw [sup_id]
                       refine ⟨_, rfl, by rw [hz], ?_, ?_, ?_⟩
                       · rw [hnf, sup_h]; rfl
                       · intro _; rw [sup_k _ _ _ _ _ (show (3 : Nat) ≠ 0 by decide), sup_k _ _ _ _ _ (show (4 : Nat) ≠ 0 by decide), sup_k _ _ _ _ _ (show (3 : Nat) ≠ 4 by decide)]; exact ⟨sup_h _ _ _ _, (sup_h _ _ _ _).trans (by omega)⟩
                       · intro k i g1 g2 g3
                         by_cases hk : k = 0
                         · subst hk; rw [sup_i _ _ _ _ (g3 rfl)]; exact fr3 0 i g1 g2 g3
                         · rw [sup_k _ _ _ _ _ hk]; exact fr3 k i g1 g2 g3
                   · exfalso
                     omega
               · exfalso
                 omega
             · exfalso
               omega
           · skip
             refine r_iload dX9_readsText_145 rfl ?_
             refine r_iload dX9_readsText_147 rfl ?_
             refine i_const dX9_readsText_149 ?_
             refine i_icmp_ge 158 dX9_readsText_150 rfl ⟨by omega, by omega⟩ ⟨by omega, by omega⟩ (fun q150 => ?_) (fun q150 => ?_)
             · skip
               refine i_const dX9_readsText_158 ?_
               refine i_iadd dX9_readsText_159 ?_
               refine r_iret rfl dX9_readsText_160 ?_
               have hz : fF b 1 N = 0 + 2 := fF_at (by omega) (by omega) (fun j j0 j1 => okj j j0 (by omega)) (okA_2n (n := 0) (by rw [show (4 * 0 + 1 : Int) = 1 from rfl]; omega))
               exact ⟨_, rfl, by rw [hz], rt_none_1 hz (by omega) e0 hf⟩
             · exfalso
               omega
 
    refine r_iload dX9_readsText_49 rfl ?_
    refine r_aload_n dX9_readsText_51 rfl ?_
    refine r_get (k := 0) lfX9_7 dX9_readsText_52 (Nat.le_of_ble_eq_true rfl) rfl rfl ?_
    refine r_iload_n dX9_readsText_55 rfl ?_
    refine i_ald (k := 1) dX9_readsText_56 (Nat.le_of_ble_eq_true rfl) rfl rfl ⟨by omega, by omega⟩ (by decide) ?_
    rw [show (1 : Int).toNat = 1 from rfl, hN2]
    refine i_icmp_lt 65 dX9_readsText_57 rfl ⟨by omega, by omega⟩ ⟨by omega, by omega⟩ (fun q57 => ?_) (fun q57 => ?_)
    · skip
      refine i_const dX9_readsText_65 ?_
      refine r_istore dX9_readsText_66 (Nat.le_of_ble_eq_true rfl) ?_
      exact m_rt_in_1 σ2 b hs2 hb N hN2 n0 0 0 l6 (by omega) (by omega) (by omega) (by omega) _ (fun g g0 g1 => K g g0 g1 (by omega)) 3 0 (by omega) (by omega) (fun i i0 i1 => absurd i1 (by omega))
    · skip
      refine r_iload dX9_readsText_60 rfl ?_
      refine i_if_le 278 dX9_readsText_62 rfl ⟨by omega, by omega⟩ (fun q62 => ?_) (fun q62 => ?_)
      · skip
        refine i_const dX9_readsText_278 ?_
        refine r_iret rfl dX9_readsText_279 ?_
        have hz : fF b 1 N = -1 := by rw [fF_all (by omega) (fun j j0 j1 => absurd j1 (by omega)), if_pos (by omega)]
        have hnf : nF b 1 N = 0 := by unfold nF; rw [if_pos hz]; omega
        exact ⟨_, rfl, by rw [hz], by rw [hnf, e0], by rw [hnf]; first | exact fun z z0 z1 => absurd z1 (by omega) | exact fun z => absurd rfl z, hf⟩
      · exfalso
        omega

set_option maxRecDepth 20000 in
theorem m_readsText_1 (σ : rl_S) (b : Int → Int) (hs : ∀ z : Int, 0 ≤ z → z < 23 → σ 2 (23 + z.toNat) = b z) (hb : BB b) (N : Int) (hN : σ 1 1 = N) (n0 : 0 ≤ N ∧ N ≤ 3)  : Ct mW mX9_readsText [.ref 0, .int (iI 1)] σ (qI (fun z σ' => z = fF b 1 N ∧ rt_1 σ b N σ')) := by
  refine Ct.of plX9 (Nat.le_of_ble_eq_true rfl) ?_
  refine r_iload_n dX9_readsText_0 rfl ?_
  refine i_if_ne 9 dX9_readsText_1 rfl ⟨by omega, by omega⟩ (fun q1 => ?_) (fun q1 => ?_)
  · skip
    refine i_const dX9_readsText_9 ?_
    refine r_istore_n dX9_readsText_10 (Nat.le_of_ble_eq_true rfl) ?_
    refine i_const dX9_readsText_11 ?_
    refine r_istore_n dX9_readsText_12 (Nat.le_of_ble_eq_true rfl) ?_
    refine i_const dX9_readsText_13 ?_
    refine r_istore dX9_readsText_14 (Nat.le_of_ble_eq_true rfl) ?_
    refine r_aload_n dX9_readsText_16 rfl ?_
    refine r_iload_n dX9_readsText_17 rfl ?_
    refine i_if_ne 25 dX9_readsText_18 rfl ⟨by omega, by omega⟩ (fun q18 => ?_) (fun q18 => ?_)
    · skip
      refine r_aload_n dX9_readsText_25 rfl ?_
      refine r_get (k := 0) lfX9_63 dX9_readsText_26 (Nat.le_of_ble_eq_true rfl) rfl rfl ?_
      refine i_put (k := 0) lpX9_63 dX9_readsText_29 (Nat.le_of_ble_eq_true rfl) rfl rfl ?_
      refine r_aload_n dX9_readsText_32 rfl ?_
      refine r_iload_n dX9_readsText_33 rfl ?_
      refine i_const dX9_readsText_34 ?_
      refine i_icmp_ne 42 dX9_readsText_35 rfl ⟨by omega, by omega⟩ ⟨by omega, by omega⟩ (fun q35 => ?_) (fun q35 => ?_)
      · exfalso
        omega
      · skip
        refine i_const dX9_readsText_38 ?_
        refine r_goto 46 dX9_readsText_39 rfl ?_
        refine i_put (k := 0) lpX9_67 dX9_readsText_46 (Nat.le_of_ble_eq_true rfl) rfl rfl ?_
        refine m_rt_l_1 σ b hs hb N hN n0 _ (fun k i g1 g2 g3 => ?_) ?_ _ _
        · rw [sup_id]
          by_cases hk : k = 0
          · subst hk; exact sup_i _ _ _ _ (g3 rfl)
          · exact sup_k _ _ _ _ _ hk
        · exact sup_h _ _ _ _
    · exfalso
      omega
  · exfalso
    omega
