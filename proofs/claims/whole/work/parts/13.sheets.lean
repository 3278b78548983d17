set_option maxRecDepth 20000 in
theorem c_itemAt_22 (σ : rl_S) (t : Int) (t0 : 0 ≤ t) (t1 : t < 48) : Ct cW mX4_itemAt [.ref 22, .int (iI t)] σ (pR (.int (iI (σ 23 t.toNat))) σ) := by
  refine Ct.of plX4 (Nat.le_of_ble_eq_true rfl) ?_
  refine r_iload_n dX4_itemAt_0 rfl ?_
  refine i_if_lt 22 dX4_itemAt_1 rfl ⟨by omega, by omega⟩ (fun q1 => ?_) (fun q1 => ?_)
  · exfalso
    omega
  · skip
    refine r_iload_n dX4_itemAt_4 rfl ?_
    refine r_aload_n dX4_itemAt_5 rfl ?_
    refine r_get (k := 22) lfX4_9 dX4_itemAt_6 (Nat.le_of_ble_eq_true rfl) rfl rfl ?_
    refine i_alen (k := 23) dX4_itemAt_9 (Nat.le_of_ble_eq_true rfl) rfl rfl ?_
    refine i_icmp_ge 22 dX4_itemAt_10 rfl ⟨by omega, by omega⟩ ⟨by omega, by omega⟩ (fun q10 => ?_) (fun q10 => ?_)
    · exfalso
      omega
    · skip
      refine r_aload_n dX4_itemAt_13 rfl ?_
      refine r_get (k := 22) lfX4_9 dX4_itemAt_14 (Nat.le_of_ble_eq_true rfl) rfl rfl ?_
      refine r_iload_n dX4_itemAt_17 rfl ?_
      refine i_ald (k := 23) dX4_itemAt_18 (Nat.le_of_ble_eq_true rfl) rfl rfl ⟨by omega, by omega⟩ (by decide) ?_
      refine r_goto 23 dX4_itemAt_19 rfl ?_
      refine r_iret rfl dX4_itemAt_23 ?_
      exact ⟨rfl, rfl⟩

set_option maxRecDepth 20000 in
theorem c_narrow_22 (σ : rl_S) (h2 : 0 ≤ σ 22 2 ∧ σ 22 2 ≤ 2) (v : Int) : Ct cW mX4_narrow [.ref 22, .int (iI v)] σ (pR (.int (iI (nar (σ 22 2) v))) σ) := by
  refine Ct.of plX4 (Nat.le_of_ble_eq_true rfl) ?_
  refine r_aload_n dX4_narrow_0 rfl ?_
  refine r_get (k := 22) lfX4_19 dX4_narrow_1 (Nat.le_of_ble_eq_true rfl) rfl rfl ?_
  refine i_if_ne 10 dX4_narrow_4 rfl ⟨by omega, by omega⟩ (fun q4 => ?_) (fun q4 => ?_)
  · skip
    refine r_aload_n dX4_narrow_10 rfl ?_
    refine r_get (k := 22) lfX4_19 dX4_narrow_11 (Nat.le_of_ble_eq_true rfl) rfl rfl ?_
    refine i_const dX4_narrow_14 ?_
    refine i_icmp_ne 23 dX4_narrow_15 rfl ⟨by omega, by omega⟩ ⟨by omega, by omega⟩ (fun q15 => ?_) (fun q15 => ?_)
    · skip
      refine r_iload_n dX4_narrow_23 rfl ?_
      refine r_iret rfl dX4_narrow_24 ?_
      exact ⟨by unfold nar; (repeat (first | rfl | (rw [if_pos (by omega)]) | (rw [if_neg (by omega)]))), rfl⟩
    · skip
      refine r_iload_n dX4_narrow_18 rfl ?_
      refine i_i2s dX4_narrow_19 ?_
      refine r_goto 24 dX4_narrow_20 rfl ?_
      refine r_iret rfl dX4_narrow_24 ?_
      exact ⟨by unfold nar; (repeat (first | rfl | (rw [if_pos (by omega)]) | (rw [if_neg (by omega)]))), rfl⟩
  · skip
    refine r_iload_n dX4_narrow_7 rfl ?_
    refine i_i2b dX4_narrow_8 ?_
    refine r_iret rfl dX4_narrow_9 ?_
    exact ⟨by unfold nar; (repeat (first | rfl | (rw [if_pos (by omega)]) | (rw [if_neg (by omega)]))), rfl⟩

set_option maxRecDepth 20000 in
theorem c_store_22 (σ : rl_S) (h2 : 0 ≤ σ 22 2 ∧ σ 22 2 ≤ 2) (t v : Int) (t0 : 0 ≤ t) (t1 : t < 48) : Ct cW mX4_store [.ref 22, .int (iI t), .int (iI v)] σ (qV (fun σ' => σ' = sup σ 23 t.toNat (nar (σ 22 2) v))) := by
  refine Ct.of plX4 (Nat.le_of_ble_eq_true rfl) ?_
  refine r_iload_n dX4_store_0 rfl ?_
  refine i_if_lt 24 dX4_store_1 rfl ⟨by omega, by omega⟩ (fun q1 => ?_) (fun q1 => ?_)
  · exfalso
    omega
  · skip
    refine r_iload_n dX4_store_4 rfl ?_
    refine r_aload_n dX4_store_5 rfl ?_
    refine r_get (k := 22) lfX4_9 dX4_store_6 (Nat.le_of_ble_eq_true rfl) rfl rfl ?_
    refine i_alen (k := 23) dX4_store_9 (Nat.le_of_ble_eq_true rfl) rfl rfl ?_
    refine i_icmp_ge 24 dX4_store_10 rfl ⟨by omega, by omega⟩ ⟨by omega, by omega⟩ (fun q10 => ?_) (fun q10 => ?_)
    · exfalso
      omega
    · skip
      refine r_aload_n dX4_store_13 rfl ?_
      refine r_get (k := 22) lfX4_9 dX4_store_14 (Nat.le_of_ble_eq_true rfl) rfl rfl ?_
      refine r_iload_n dX4_store_17 rfl ?_
      refine r_aload_n dX4_store_18 rfl ?_
      refine r_iload_n dX4_store_19 rfl ?_
      refine i_cvP (c_narrow_22 σ h2 v) lmX4_26 dX4_store_20 (Nat.le_of_ble_eq_true rfl) rfl ⟨_, _, rfl⟩ (by decide) (by decide) rfl rfl (Nat.le_of_ble_eq_true rfl) ?_
      refine i_ast (k := 23) dX4_store_23 (Nat.le_of_ble_eq_true rfl) rfl rfl ⟨by omega, by omega⟩ (by decide) ?_
      refine r_vret rfl dX4_store_24 ?_
      exact ⟨rfl, rfl⟩

set_option maxRecDepth 20000 in
theorem c_trouble_22 (σ : rl_S) (h1 : 0 ≤ σ 22 1 ∧ σ 22 1 ≤ 1) (h2 : 0 ≤ σ 22 2 ∧ σ 22 2 ≤ 2) (h3 : 0 ≤ σ 22 3 ∧ σ 22 3 ≤ 48) (f i : Int) (hf : -2147483648 ≤ f ∧ f < 2147483648) (hi : -2147483648 ≤ i ∧ i < 2147483648) : Ct cW mX4_troubleAt [.ref 22, .int (iI f), .int (iI i)] σ (pR (.int (iI (trb (σ 22 1) (σ 22 2) (σ 22 3) f i))) σ) := by
  refine Ct.of plX4 (Nat.le_of_ble_eq_true rfl) ?_
  refine r_aload_n dX4_troubleAt_0 rfl ?_
  refine r_get (k := 22) lfX4_15 dX4_troubleAt_1 (Nat.le_of_ble_eq_true rfl) rfl rfl ?_
  refine i_if_eq 9 dX4_troubleAt_4 rfl ⟨by omega, by omega⟩ (fun q4 => ?_) (fun q4 => ?_)
  · skip
    refine r_aload_n dX4_troubleAt_9 rfl ?_
    refine r_get (k := 22) lfX4_19 dX4_troubleAt_10 (Nat.le_of_ble_eq_true rfl) rfl rfl ?_
    refine r_iload_n dX4_troubleAt_13 rfl ?_
    refine i_icmp_eq 19 dX4_troubleAt_14 rfl ⟨by omega, by omega⟩ ⟨by omega, by omega⟩ (fun q14 => ?_) (fun q14 => ?_)
    · skip
      refine r_iload_n dX4_troubleAt_19 rfl ?_
      refine i_if_lt 31 dX4_troubleAt_20 rfl ⟨by omega, by omega⟩ (fun q20 => ?_) (fun q20 => ?_)
      · skip
        refine i_const dX4_troubleAt_31 ?_
        refine r_goto 36 dX4_troubleAt_32 rfl ?_
        refine r_iret rfl dX4_troubleAt_36 ?_
        exact ⟨by unfold trb; (repeat (first | rfl | (rw [if_pos (by omega)]) | (rw [if_neg (by omega)]))), rfl⟩
      · skip
        refine r_iload_n dX4_troubleAt_23 rfl ?_
        refine r_aload_n dX4_troubleAt_24 rfl ?_
        refine r_get (k := 22) lfX4_23 dX4_troubleAt_25 (Nat.le_of_ble_eq_true rfl) rfl rfl ?_
        refine i_icmp_lt 35 dX4_troubleAt_28 rfl ⟨by omega, by omega⟩ ⟨by omega, by omega⟩ (fun q28 => ?_) (fun q28 => ?_)
        · skip
          refine i_const dX4_troubleAt_35 ?_
          refine r_iret rfl dX4_troubleAt_36 ?_
          exact ⟨by unfold trb; (repeat (first | rfl | (rw [if_pos (by omega)]) | (rw [if_neg (by omega)]))), rfl⟩
        · skip
          refine i_const dX4_troubleAt_31 ?_
          refine r_goto 36 dX4_troubleAt_32 rfl ?_
          refine r_iret rfl dX4_troubleAt_36 ?_
          exact ⟨by unfold trb; (repeat (first | rfl | (rw [if_pos (by omega)]) | (rw [if_neg (by omega)]))), rfl⟩
    · skip
      refine i_const dX4_troubleAt_17 ?_
      refine r_iret rfl dX4_troubleAt_18 ?_
      exact ⟨by unfold trb; (repeat (first | rfl | (rw [if_pos (by omega)]) | (rw [if_neg (by omega)]))), rfl⟩
  · skip
    refine i_const dX4_troubleAt_7 ?_
    refine r_iret rfl dX4_troubleAt_8 ?_
    exact ⟨by unfold trb; (repeat (first | rfl | (rw [if_pos (by omega)]) | (rw [if_neg (by omega)]))), rfl⟩

set_option maxRecDepth 20000 in
theorem c_holds_22 (σ : rl_S) (h1 : 0 ≤ σ 22 1 ∧ σ 22 1 ≤ 1) (h2 : 0 ≤ σ 22 2 ∧ σ 22 2 ≤ 2) (h3 : 0 ≤ σ 22 3 ∧ σ 22 3 ≤ 48) (i n : Int) (hi : -2147483648 ≤ i ∧ i < 2147483648) (hn : -2147483648 ≤ n ∧ n < 2147483648) : Ct cW mX4_holds [.ref 22, .int (iI i), .int (iI n)] σ (pR (.int (iI (ob (decide (0 ≤ i ∧ 0 ≤ n ∧ i + n ≤ σ 22 3))))) σ) := by
  refine Ct.of plX4 (Nat.le_of_ble_eq_true rfl) ?_
  refine r_iload_n dX4_holds_0 rfl ?_
  refine i_if_lt 30 dX4_holds_1 rfl ⟨by omega, by omega⟩ (fun q1 => ?_) (fun q1 => ?_)
  · skip
    refine i_const dX4_holds_30 ?_
    refine r_zret rfl dX4_holds_31 rfl ?_
    first
      | exact ⟨by rw [decide_eq_true (by omega)]; rfl, rfl⟩
      | exact ⟨by rw [decide_eq_false (by omega)]; rfl, rfl⟩
  · skip
    refine r_iload_n dX4_holds_4 rfl ?_
    refine i_if_lt 30 dX4_holds_5 rfl ⟨by omega, by omega⟩ (fun q5 => ?_) (fun q5 => ?_)
    · skip
      refine i_const dX4_holds_30 ?_
      refine r_zret rfl dX4_holds_31 rfl ?_
      first
        | exact ⟨by rw [decide_eq_true (by omega)]; rfl, rfl⟩
        | exact ⟨by rw [decide_eq_false (by omega)]; rfl, rfl⟩
    · skip
      refine r_iload_n dX4_holds_8 rfl ?_
      refine r_aload_n dX4_holds_9 rfl ?_
      refine r_get (k := 22) lfX4_23 dX4_holds_10 (Nat.le_of_ble_eq_true rfl) rfl rfl ?_
      refine i_icmp_gt 30 dX4_holds_13 rfl ⟨by omega, by omega⟩ ⟨by omega, by omega⟩ (fun q13 => ?_) (fun q13 => ?_)
      · skip
        refine i_const dX4_holds_30 ?_
        refine r_zret rfl dX4_holds_31 rfl ?_
        first
          | exact ⟨by rw [decide_eq_true (by omega)]; rfl, rfl⟩
          | exact ⟨by rw [decide_eq_false (by omega)]; rfl, rfl⟩
      · skip
        refine r_iload_n dX4_holds_16 rfl ?_
        refine r_aload_n dX4_holds_17 rfl ?_
        refine r_get (k := 22) lfX4_23 dX4_holds_18 (Nat.le_of_ble_eq_true rfl) rfl rfl ?_
        refine r_iload_n dX4_holds_21 rfl ?_
        refine i_isub dX4_holds_22 ?_
        refine i_icmp_gt 30 dX4_holds_23 rfl ⟨by omega, by omega⟩ ⟨by omega, by omega⟩ (fun q23 => ?_) (fun q23 => ?_)
        · skip
          refine i_const dX4_holds_30 ?_
          refine r_zret rfl dX4_holds_31 rfl ?_
          first
            | exact ⟨by rw [decide_eq_true (by omega)]; rfl, rfl⟩
            | exact ⟨by rw [decide_eq_false (by omega)]; rfl, rfl⟩
        · skip
          refine i_const dX4_holds_26 ?_
          refine r_goto 31 dX4_holds_27 rfl ?_
          refine r_zret rfl dX4_holds_31 rfl ?_
          first
            | exact ⟨by rw [decide_eq_true (by omega)]; rfl, rfl⟩
            | exact ⟨by rw [decide_eq_false (by omega)]; rfl, rfl⟩

def bec_22 (σ : rl_S) (f n : Int) : rl_S → Prop := fun σ2 => σ2 22 1 = 0 ∧ σ2 22 2 = f ∧ σ2 22 3 = n ∧ (∀ z : Int, 0 ≤ z → z < 48 → σ2 23 z.toNat = (fun _ => 0) z) ∧ ∀ k i, k ≠ 22 → k ≠ 23 → σ2 k i = σ k i
theorem c_become_l_22 (σ : rl_S) (f n0 : Int) : ∀ (n : Nat) (k : Int) (σ2 : rl_S), 0 ≤ k → k + n = 48 → σ2 22 1 = 0 → σ2 22 2 = f → σ2 22 3 = n0 → (∀ z : Int, 0 ≤ z → z < k → σ2 23 z.toNat = (fun _ => 0) z) → (∀ k i, k ≠ 22 → k ≠ 23 → σ2 k i = σ k i) → Rn cW mX4_become 17 [.ref 22, .int (iI f), .int (iI n0), .int (iI k)] [] σ2 (qV (bec_22 σ f n0)) := by
  intro n
  induction n with
  | zero =>
    intro k σ2 h0 hk e1 e2 e3 e4 hf
    refine r_iload_n dX4_become_17 rfl ?_
    refine r_aload_n dX4_become_18 rfl ?_
    refine r_get (k := 22) lfX4_9 dX4_become_19 (Nat.le_of_ble_eq_true rfl) rfl rfl ?_
    refine i_alen (k := 23) dX4_become_22 (Nat.le_of_ble_eq_true rfl) rfl rfl ?_
    refine i_icmp_ge 39 dX4_become_23 rfl ⟨by omega, by omega⟩ ⟨by omega, by omega⟩ (fun q23 => ?_) (fun q23 => ?_)
    · skip
      refine r_vret rfl dX4_become_39 ?_
      exact ⟨rfl, e1, e2, e3, fun z z0 z1 => e4 z z0 (by omega), hf⟩
    · exfalso
      omega
  | succ n ih =>
    intro k σ2 h0 hk e1 e2 e3 e4 hf
    refine r_iload_n dX4_become_17 rfl ?_
    refine r_aload_n dX4_become_18 rfl ?_
    refine r_get (k := 22) lfX4_9 dX4_become_19 (Nat.le_of_ble_eq_true rfl) rfl rfl ?_
    refine i_alen (k := 23) dX4_become_22 (Nat.le_of_ble_eq_true rfl) rfl rfl ?_
    refine i_icmp_ge 39 dX4_become_23 rfl ⟨by omega, by omega⟩ ⟨by omega, by omega⟩ (fun q23 => ?_) (fun q23 => ?_)
    · exfalso
      omega
    · skip
      refine r_aload_n dX4_become_26 rfl ?_
      refine r_get (k := 22) lfX4_9 dX4_become_27 (Nat.le_of_ble_eq_true rfl) rfl rfl ?_
      refine r_iload_n dX4_become_30 rfl ?_
      refine i_const dX4_become_31 ?_
      refine i_ast (k := 23) dX4_become_32 (Nat.le_of_ble_eq_true rfl) rfl rfl ⟨by omega, by omega⟩ (by decide) ?_
      refine i_iinc dX4_become_33 rfl (Nat.le_of_ble_eq_true rfl) ?_
      refine r_goto 17 dX4_become_36 rfl ?_
      exact ih (k + 1) _ (by omega) (by omega) ((sup_k _ _ _ _ _ (by decide)).trans e1) ((sup_k _ _ _ _ _ (by decide)).trans e2) ((sup_k _ _ _ _ _ (by decide)).trans e3) (row_up e4 h0 rfl) (fun a i g1 g2 => (sup_k _ _ _ _ _ g2).trans (hf a i g1 g2))

set_option maxRecDepth 20000 in
theorem c_become_22 (σ : rl_S) (f n : Int) : Ct cW mX4_become [.ref 22, .int (iI f), .int (iI n)] σ (qV (bec_22 σ f n)) := by
  refine Ct.of plX4 (Nat.le_of_ble_eq_true rfl) ?_
  refine r_aload_n dX4_become_0 rfl ?_
  refine i_const dX4_become_1 ?_
  refine r_put (k := 22) lpX4_15 dX4_become_2 (Nat.le_of_ble_eq_true rfl) rfl rfl rfl rfl ?_
  refine r_aload_n dX4_become_5 rfl ?_
  refine r_iload_n dX4_become_6 rfl ?_
  refine i_put (k := 22) lpX4_19 dX4_become_7 (Nat.le_of_ble_eq_true rfl) rfl rfl ?_
  refine r_aload_n dX4_become_10 rfl ?_
  refine r_iload_n dX4_become_11 rfl ?_
  refine i_put (k := 22) lpX4_23 dX4_become_12 (Nat.le_of_ble_eq_true rfl) rfl rfl ?_
  refine i_const dX4_become_15 ?_
  refine r_istore_n dX4_become_16 (Nat.le_of_ble_eq_true rfl) ?_
  exact c_become_l_22 σ f n 48 0 _ (by omega) (by omega) rfl rfl rfl (fun z z0 z1 => absurd z1 (by omega)) (fun a i g1 g2 => (sup_k _ _ _ _ _ g1).trans ((sup_k _ _ _ _ _ g1).trans (sup_k _ _ _ _ _ g1)))

set_option maxRecDepth 20000 in
theorem c_itemAt_24 (σ : rl_S) (t : Int) (t0 : 0 ≤ t) (t1 : t < 48) : Ct cW mX4_itemAt [.ref 24, .int (iI t)] σ (pR (.int (iI (σ 25 t.toNat))) σ) := by
  refine Ct.of plX4 (Nat.le_of_ble_eq_true rfl) ?_
  refine r_iload_n dX4_itemAt_0 rfl ?_
  refine i_if_lt 22 dX4_itemAt_1 rfl ⟨by omega, by omega⟩ (fun q1 => ?_) (fun q1 => ?_)
  · exfalso
    omega
  · skip
    refine r_iload_n dX4_itemAt_4 rfl ?_
    refine r_aload_n dX4_itemAt_5 rfl ?_
    refine r_get (k := 24) lfX4_9 dX4_itemAt_6 (Nat.le_of_ble_eq_true rfl) rfl rfl ?_
    refine i_alen (k := 25) dX4_itemAt_9 (Nat.le_of_ble_eq_true rfl) rfl rfl ?_
    refine i_icmp_ge 22 dX4_itemAt_10 rfl ⟨by omega, by omega⟩ ⟨by omega, by omega⟩ (fun q10 => ?_) (fun q10 => ?_)
    · exfalso
      omega
    · skip
      refine r_aload_n dX4_itemAt_13 rfl ?_
      refine r_get (k := 24) lfX4_9 dX4_itemAt_14 (Nat.le_of_ble_eq_true rfl) rfl rfl ?_
      refine r_iload_n dX4_itemAt_17 rfl ?_
      refine i_ald (k := 25) dX4_itemAt_18 (Nat.le_of_ble_eq_true rfl) rfl rfl ⟨by omega, by omega⟩ (by decide) ?_
      refine r_goto 23 dX4_itemAt_19 rfl ?_
      refine r_iret rfl dX4_itemAt_23 ?_
      exact ⟨rfl, rfl⟩

set_option maxRecDepth 20000 in
theorem c_narrow_24 (σ : rl_S) (h2 : 0 ≤ σ 24 2 ∧ σ 24 2 ≤ 2) (v : Int) : Ct cW mX4_narrow [.ref 24, .int (iI v)] σ (pR (.int (iI (nar (σ 24 2) v))) σ) := by
  refine Ct.of plX4 (Nat.le_of_ble_eq_true rfl) ?_
  refine r_aload_n dX4_narrow_0 rfl ?_
  refine r_get (k := 24) lfX4_19 dX4_narrow_1 (Nat.le_of_ble_eq_true rfl) rfl rfl ?_
  refine i_if_ne 10 dX4_narrow_4 rfl ⟨by omega, by omega⟩ (fun q4 => ?_) (fun q4 => ?_)
  · skip
    refine r_aload_n dX4_narrow_10 rfl ?_
    refine r_get (k := 24) lfX4_19 dX4_narrow_11 (Nat.le_of_ble_eq_true rfl) rfl rfl ?_
    refine i_const dX4_narrow_14 ?_
    refine i_icmp_ne 23 dX4_narrow_15 rfl ⟨by omega, by omega⟩ ⟨by omega, by omega⟩ (fun q15 => ?_) (fun q15 => ?_)
    · skip
      refine r_iload_n dX4_narrow_23 rfl ?_
      refine r_iret rfl dX4_narrow_24 ?_
      exact ⟨by unfold nar; (repeat (first | rfl | (rw [if_pos (by omega)]) | (rw [if_neg (by omega)]))), rfl⟩
    · skip
      refine r_iload_n dX4_narrow_18 rfl ?_
      refine i_i2s dX4_narrow_19 ?_
      refine r_goto 24 dX4_narrow_20 rfl ?_
      refine r_iret rfl dX4_narrow_24 ?_
      exact ⟨by unfold nar; (repeat (first | rfl | (rw [if_pos (by omega)]) | (rw [if_neg (by omega)]))), rfl⟩
  · skip
    refine r_iload_n dX4_narrow_7 rfl ?_
    refine i_i2b dX4_narrow_8 ?_
    refine r_iret rfl dX4_narrow_9 ?_
    exact ⟨by unfold nar; (repeat (first | rfl | (rw [if_pos (by omega)]) | (rw [if_neg (by omega)]))), rfl⟩

set_option maxRecDepth 20000 in
theorem c_store_24 (σ : rl_S) (h2 : 0 ≤ σ 24 2 ∧ σ 24 2 ≤ 2) (t v : Int) (t0 : 0 ≤ t) (t1 : t < 48) : Ct cW mX4_store [.ref 24, .int (iI t), .int (iI v)] σ (qV (fun σ' => σ' = sup σ 25 t.toNat (nar (σ 24 2) v))) := by
  refine Ct.of plX4 (Nat.le_of_ble_eq_true rfl) ?_
  refine r_iload_n dX4_store_0 rfl ?_
  refine i_if_lt 24 dX4_store_1 rfl ⟨by omega, by omega⟩ (fun q1 => ?_) (fun q1 => ?_)
  · exfalso
    omega
  · skip
    refine r_iload_n dX4_store_4 rfl ?_
    refine r_aload_n dX4_store_5 rfl ?_
    refine r_get (k := 24) lfX4_9 dX4_store_6 (Nat.le_of_ble_eq_true rfl) rfl rfl ?_
    refine i_alen (k := 25) dX4_store_9 (Nat.le_of_ble_eq_true rfl) rfl rfl ?_
    refine i_icmp_ge 24 dX4_store_10 rfl ⟨by omega, by omega⟩ ⟨by omega, by omega⟩ (fun q10 => ?_) (fun q10 => ?_)
    · exfalso
      omega
    · skip
      refine r_aload_n dX4_store_13 rfl ?_
      refine r_get (k := 24) lfX4_9 dX4_store_14 (Nat.le_of_ble_eq_true rfl) rfl rfl ?_
      refine r_iload_n dX4_store_17 rfl ?_
      refine r_aload_n dX4_store_18 rfl ?_
      refine r_iload_n dX4_store_19 rfl ?_
      refine i_cvP (c_narrow_24 σ h2 v) lmX4_26 dX4_store_20 (Nat.le_of_ble_eq_true rfl) rfl ⟨_, _, rfl⟩ (by decide) (by decide) rfl rfl (Nat.le_of_ble_eq_true rfl) ?_
      refine i_ast (k := 25) dX4_store_23 (Nat.le_of_ble_eq_true rfl) rfl rfl ⟨by omega, by omega⟩ (by decide) ?_
      refine r_vret rfl dX4_store_24 ?_
      exact ⟨rfl, rfl⟩

set_option maxRecDepth 20000 in
theorem c_trouble_24 (σ : rl_S) (h1 : 0 ≤ σ 24 1 ∧ σ 24 1 ≤ 1) (h2 : 0 ≤ σ 24 2 ∧ σ 24 2 ≤ 2) (h3 : 0 ≤ σ 24 3 ∧ σ 24 3 ≤ 48) (f i : Int) (hf : -2147483648 ≤ f ∧ f < 2147483648) (hi : -2147483648 ≤ i ∧ i < 2147483648) : Ct cW mX4_troubleAt [.ref 24, .int (iI f), .int (iI i)] σ (pR (.int (iI (trb (σ 24 1) (σ 24 2) (σ 24 3) f i))) σ) := by
  refine Ct.of plX4 (Nat.le_of_ble_eq_true rfl) ?_
  refine r_aload_n dX4_troubleAt_0 rfl ?_
  refine r_get (k := 24) lfX4_15 dX4_troubleAt_1 (Nat.le_of_ble_eq_true rfl) rfl rfl ?_
  refine i_if_eq 9 dX4_troubleAt_4 rfl ⟨by omega, by omega⟩ (fun q4 => ?_) (fun q4 => ?_)
  · skip
    refine r_aload_n dX4_troubleAt_9 rfl ?_
    refine r_get (k := 24) lfX4_19 dX4_troubleAt_10 (Nat.le_of_ble_eq_true rfl) rfl rfl ?_
    refine r_iload_n dX4_troubleAt_13 rfl ?_
    refine i_icmp_eq 19 dX4_troubleAt_14 rfl ⟨by omega, by omega⟩ ⟨by omega, by omega⟩ (fun q14 => ?_) (fun q14 => ?_)
    · skip
      refine r_iload_n dX4_troubleAt_19 rfl ?_
      refine i_if_lt 31 dX4_troubleAt_20 rfl ⟨by omega, by omega⟩ (fun q20 => ?_) (fun q20 => ?_)
      · skip
        refine i_const dX4_troubleAt_31 ?_
        refine r_goto 36 dX4_troubleAt_32 rfl ?_
        refine r_iret rfl dX4_troubleAt_36 ?_
        exact ⟨by unfold trb; (repeat (first | rfl | (rw [if_pos (by omega)]) | (rw [if_neg (by omega)]))), rfl⟩
      · skip
        refine r_iload_n dX4_troubleAt_23 rfl ?_
        refine r_aload_n dX4_troubleAt_24 rfl ?_
        refine r_get (k := 24) lfX4_23 dX4_troubleAt_25 (Nat.le_of_ble_eq_true rfl) rfl rfl ?_
        refine i_icmp_lt 35 dX4_troubleAt_28 rfl ⟨by omega, by omega⟩ ⟨by omega, by omega⟩ (fun q28 => ?_) (fun q28 => ?_)
        · skip
          refine i_const dX4_troubleAt_35 ?_
          refine r_iret rfl dX4_troubleAt_36 ?_
          exact ⟨by unfold trb; (repeat (first | rfl | (rw [if_pos (by omega)]) | (rw [if_neg (by omega)]))), rfl⟩
        · skip
          refine i_const dX4_troubleAt_31 ?_
          refine r_goto 36 dX4_troubleAt_32 rfl ?_
          refine r_iret rfl dX4_troubleAt_36 ?_
          exact ⟨by unfold trb; (repeat (first | rfl | (rw [if_pos (by omega)]) | (rw [if_neg (by omega)]))), rfl⟩
    · skip
      refine i_const dX4_troubleAt_17 ?_
      refine r_iret rfl dX4_troubleAt_18 ?_
      exact ⟨by unfold trb; (repeat (first | rfl | (rw [if_pos (by omega)]) | (rw [if_neg (by omega)]))), rfl⟩
  · skip
    refine i_const dX4_troubleAt_7 ?_
    refine r_iret rfl dX4_troubleAt_8 ?_
    exact ⟨by unfold trb; (repeat (first | rfl | (rw [if_pos (by omega)]) | (rw [if_neg (by omega)]))), rfl⟩

set_option maxRecDepth 20000 in
theorem c_holds_24 (σ : rl_S) (h1 : 0 ≤ σ 24 1 ∧ σ 24 1 ≤ 1) (h2 : 0 ≤ σ 24 2 ∧ σ 24 2 ≤ 2) (h3 : 0 ≤ σ 24 3 ∧ σ 24 3 ≤ 48) (i n : Int) (hi : -2147483648 ≤ i ∧ i < 2147483648) (hn : -2147483648 ≤ n ∧ n < 2147483648) : Ct cW mX4_holds [.ref 24, .int (iI i), .int (iI n)] σ (pR (.int (iI (ob (decide (0 ≤ i ∧ 0 ≤ n ∧ i + n ≤ σ 24 3))))) σ) := by
  refine Ct.of plX4 (Nat.le_of_ble_eq_true rfl) ?_
  refine r_iload_n dX4_holds_0 rfl ?_
  refine i_if_lt 30 dX4_holds_1 rfl ⟨by omega, by omega⟩ (fun q1 => ?_) (fun q1 => ?_)
  · skip
    refine i_const dX4_holds_30 ?_
    refine r_zret rfl dX4_holds_31 rfl ?_
    first
      | exact ⟨by rw [decide_eq_true (by omega)]; rfl, rfl⟩
      | exact ⟨by rw [decide_eq_false (by omega)]; rfl, rfl⟩
  · skip
    refine r_iload_n dX4_holds_4 rfl ?_
    refine i_if_lt 30 dX4_holds_5 rfl ⟨by omega, by omega⟩ (fun q5 => ?_) (fun q5 => ?_)
    · skip
      refine i_const dX4_holds_30 ?_
      refine r_zret rfl dX4_holds_31 rfl ?_
      first
        | exact ⟨by rw [decide_eq_true (by omega)]; rfl, rfl⟩
        | exact ⟨by rw [decide_eq_false (by omega)]; rfl, rfl⟩
    · skip
      refine r_iload_n dX4_holds_8 rfl ?_
      refine r_aload_n dX4_holds_9 rfl ?_
      refine r_get (k := 24) lfX4_23 dX4_holds_10 (Nat.le_of_ble_eq_true rfl) rfl rfl ?_
      refine i_icmp_gt 30 dX4_holds_13 rfl ⟨by omega, by omega⟩ ⟨by omega, by omega⟩ (fun q13 => ?_) (fun q13 => ?_)
      · skip
        refine i_const dX4_holds_30 ?_
        refine r_zret rfl dX4_holds_31 rfl ?_
        first
          | exact ⟨by rw [decide_eq_true (by omega)]; rfl, rfl⟩
          | exact ⟨by rw [decide_eq_false (by omega)]; rfl, rfl⟩
      · skip
        refine r_iload_n dX4_holds_16 rfl ?_
        refine r_aload_n dX4_holds_17 rfl ?_
        refine r_get (k := 24) lfX4_23 dX4_holds_18 (Nat.le_of_ble_eq_true rfl) rfl rfl ?_
        refine r_iload_n dX4_holds_21 rfl ?_
        refine i_isub dX4_holds_22 ?_
        refine i_icmp_gt 30 dX4_holds_23 rfl ⟨by omega, by omega⟩ ⟨by omega, by omega⟩ (fun q23 => ?_) (fun q23 => ?_)
        · skip
          refine i_const dX4_holds_30 ?_
          refine r_zret rfl dX4_holds_31 rfl ?_
          first
            | exact ⟨by rw [decide_eq_true (by omega)]; rfl, rfl⟩
            | exact ⟨by rw [decide_eq_false (by omega)]; rfl, rfl⟩
        · skip
          refine i_const dX4_holds_26 ?_
          refine r_goto 31 dX4_holds_27 rfl ?_
          refine r_zret rfl dX4_holds_31 rfl ?_
          first
            | exact ⟨by rw [decide_eq_true (by omega)]; rfl, rfl⟩
            | exact ⟨by rw [decide_eq_false (by omega)]; rfl, rfl⟩

def bec_24 (σ : rl_S) (f n : Int) : rl_S → Prop := fun σ2 => σ2 24 1 = 0 ∧ σ2 24 2 = f ∧ σ2 24 3 = n ∧ (∀ z : Int, 0 ≤ z → z < 48 → σ2 25 z.toNat = (fun _ => 0) z) ∧ ∀ k i, k ≠ 24 → k ≠ 25 → σ2 k i = σ k i
theorem c_become_l_24 (σ : rl_S) (f n0 : Int) : ∀ (n : Nat) (k : Int) (σ2 : rl_S), 0 ≤ k → k + n = 48 → σ2 24 1 = 0 → σ2 24 2 = f → σ2 24 3 = n0 → (∀ z : Int, 0 ≤ z → z < k → σ2 25 z.toNat = (fun _ => 0) z) → (∀ k i, k ≠ 24 → k ≠ 25 → σ2 k i = σ k i) → Rn cW mX4_become 17 [.ref 24, .int (iI f), .int (iI n0), .int (iI k)] [] σ2 (qV (bec_24 σ f n0)) := by
  intro n
  induction n with
  | zero =>
    intro k σ2 h0 hk e1 e2 e3 e4 hf
    refine r_iload_n dX4_become_17 rfl ?_
    refine r_aload_n dX4_become_18 rfl ?_
    refine r_get (k := 24) lfX4_9 dX4_become_19 (Nat.le_of_ble_eq_true rfl) rfl rfl ?_
    refine i_alen (k := 25) dX4_become_22 (Nat.le_of_ble_eq_true rfl) rfl rfl ?_
    refine i_icmp_ge 39 dX4_become_23 rfl ⟨by omega, by omega⟩ ⟨by omega, by omega⟩ (fun q23 => ?_) (fun q23 => ?_)
    · skip
      refine r_vret rfl dX4_become_39 ?_
      exact ⟨rfl, e1, e2, e3, fun z z0 z1 => e4 z z0 (by omega), hf⟩
    · exfalso
      omega
  | succ n ih =>
    intro k σ2 h0 hk e1 e2 e3 e4 hf
    refine r_iload_n dX4_become_17 rfl ?_
    refine r_aload_n dX4_become_18 rfl ?_
    refine r_get (k := 24) lfX4_9 dX4_become_19 (Nat.le_of_ble_eq_true rfl) rfl rfl ?_
    refine i_alen (k := 25) dX4_become_22 (Nat.le_of_ble_eq_true rfl) rfl rfl ?_
    refine i_icmp_ge 39 dX4_become_23 rfl ⟨by omega, by omega⟩ ⟨by omega, by omega⟩ (fun q23 => ?_) (fun q23 => ?_)
    · exfalso
      omega
    · skip
      refine r_aload_n dX4_become_26 rfl ?_
      refine r_get (k := 24) lfX4_9 dX4_become_27 (Nat.le_of_ble_eq_true rfl) rfl rfl ?_
      refine r_iload_n dX4_become_30 rfl ?_
      refine i_const dX4_become_31 ?_
      refine i_ast (k := 25) dX4_become_32 (Nat.le_of_ble_eq_true rfl) rfl rfl ⟨by omega, by omega⟩ (by decide) ?_
      refine i_iinc dX4_become_33 rfl (Nat.le_of_ble_eq_true rfl) ?_
      refine r_goto 17 dX4_become_36 rfl ?_
      exact ih (k + 1) _ (by omega) (by omega) ((sup_k _ _ _ _ _ (by decide)).trans e1) ((sup_k _ _ _ _ _ (by decide)).trans e2) ((sup_k _ _ _ _ _ (by decide)).trans e3) (row_up e4 h0 rfl) (fun a i g1 g2 => (sup_k _ _ _ _ _ g2).trans (hf a i g1 g2))

set_option maxRecDepth 20000 in
theorem c_become_24 (σ : rl_S) (f n : Int) : Ct cW mX4_become [.ref 24, .int (iI f), .int (iI n)] σ (qV (bec_24 σ f n)) := by
  refine Ct.of plX4 (Nat.le_of_ble_eq_true rfl) ?_
  refine r_aload_n dX4_become_0 rfl ?_
  refine i_const dX4_become_1 ?_
  refine r_put (k := 24) lpX4_15 dX4_become_2 (Nat.le_of_ble_eq_true rfl) rfl rfl rfl rfl ?_
  refine r_aload_n dX4_become_5 rfl ?_
  refine r_iload_n dX4_become_6 rfl ?_
  refine i_put (k := 24) lpX4_19 dX4_become_7 (Nat.le_of_ble_eq_true rfl) rfl rfl ?_
  refine r_aload_n dX4_become_10 rfl ?_
  refine r_iload_n dX4_become_11 rfl ?_
  refine i_put (k := 24) lpX4_23 dX4_become_12 (Nat.le_of_ble_eq_true rfl) rfl rfl ?_
  refine i_const dX4_become_15 ?_
  refine r_istore_n dX4_become_16 (Nat.le_of_ble_eq_true rfl) ?_
  exact c_become_l_24 σ f n 48 0 _ (by omega) (by omega) rfl rfl rfl (fun z z0 z1 => absurd z1 (by omega)) (fun a i g1 g2 => (sup_k _ _ _ _ _ g1).trans ((sup_k _ _ _ _ _ g1).trans (sup_k _ _ _ _ _ g1)))

set_option maxRecDepth 20000 in
theorem c_itemAt_26 (σ : rl_S) (t : Int) (t0 : 0 ≤ t) (t1 : t < 48) : Ct cW mX4_itemAt [.ref 26, .int (iI t)] σ (pR (.int (iI (σ 27 t.toNat))) σ) := by
  refine Ct.of plX4 (Nat.le_of_ble_eq_true rfl) ?_
  refine r_iload_n dX4_itemAt_0 rfl ?_
  refine i_if_lt 22 dX4_itemAt_1 rfl ⟨by omega, by omega⟩ (fun q1 => ?_) (fun q1 => ?_)
  · exfalso
    omega
  · skip
    refine r_iload_n dX4_itemAt_4 rfl ?_
    refine r_aload_n dX4_itemAt_5 rfl ?_
    refine r_get (k := 26) lfX4_9 dX4_itemAt_6 (Nat.le_of_ble_eq_true rfl) rfl rfl ?_
    refine i_alen (k := 27) dX4_itemAt_9 (Nat.le_of_ble_eq_true rfl) rfl rfl ?_
    refine i_icmp_ge 22 dX4_itemAt_10 rfl ⟨by omega, by omega⟩ ⟨by omega, by omega⟩ (fun q10 => ?_) (fun q10 => ?_)
    · exfalso
      omega
    · skip
      refine r_aload_n dX4_itemAt_13 rfl ?_
      refine r_get (k := 26) lfX4_9 dX4_itemAt_14 (Nat.le_of_ble_eq_true rfl) rfl rfl ?_
      refine r_iload_n dX4_itemAt_17 rfl ?_
      refine i_ald (k := 27) dX4_itemAt_18 (Nat.le_of_ble_eq_true rfl) rfl rfl ⟨by omega, by omega⟩ (by decide) ?_
      refine r_goto 23 dX4_itemAt_19 rfl ?_
      refine r_iret rfl dX4_itemAt_23 ?_
      exact ⟨rfl, rfl⟩

set_option maxRecDepth 20000 in
theorem c_narrow_26 (σ : rl_S) (h2 : 0 ≤ σ 26 2 ∧ σ 26 2 ≤ 2) (v : Int) : Ct cW mX4_narrow [.ref 26, .int (iI v)] σ (pR (.int (iI (nar (σ 26 2) v))) σ) := by
  refine Ct.of plX4 (Nat.le_of_ble_eq_true rfl) ?_
  refine r_aload_n dX4_narrow_0 rfl ?_
  refine r_get (k := 26) lfX4_19 dX4_narrow_1 (Nat.le_of_ble_eq_true rfl) rfl rfl ?_
  refine i_if_ne 10 dX4_narrow_4 rfl ⟨by omega, by omega⟩ (fun q4 => ?_) (fun q4 => ?_)
  · skip
    refine r_aload_n dX4_narrow_10 rfl ?_
    refine r_get (k := 26) lfX4_19 dX4_narrow_11 (Nat.le_of_ble_eq_true rfl) rfl rfl ?_
    refine i_const dX4_narrow_14 ?_
    refine i_icmp_ne 23 dX4_narrow_15 rfl ⟨by omega, by omega⟩ ⟨by omega, by omega⟩ (fun q15 => ?_) (fun q15 => ?_)
    · skip
      refine r_iload_n dX4_narrow_23 rfl ?_
      refine r_iret rfl dX4_narrow_24 ?_
      exact ⟨by unfold nar; (repeat (first | rfl | (rw [if_pos (by omega)]) | (rw [if_neg (by omega)]))), rfl⟩
    · skip
      refine r_iload_n dX4_narrow_18 rfl ?_
      refine i_i2s dX4_narrow_19 ?_
      refine r_goto 24 dX4_narrow_20 rfl ?_
      refine r_iret rfl dX4_narrow_24 ?_
      exact ⟨by unfold nar; (repeat (first | rfl | (rw [if_pos (by omega)]) | (rw [if_neg (by omega)]))), rfl⟩
  · skip
    refine r_iload_n dX4_narrow_7 rfl ?_
    refine i_i2b dX4_narrow_8 ?_
    refine r_iret rfl dX4_narrow_9 ?_
    exact ⟨by unfold nar; (repeat (first | rfl | (rw [if_pos (by omega)]) | (rw [if_neg (by omega)]))), rfl⟩

set_option maxRecDepth 20000 in
theorem c_store_26 (σ : rl_S) (h2 : 0 ≤ σ 26 2 ∧ σ 26 2 ≤ 2) (t v : Int) (t0 : 0 ≤ t) (t1 : t < 48) : Ct cW mX4_store [.ref 26, .int (iI t), .int (iI v)] σ (qV (fun σ' => σ' = sup σ 27 t.toNat (nar (σ 26 2) v))) := by
  refine Ct.of plX4 (Nat.le_of_ble_eq_true rfl) ?_
  refine r_iload_n dX4_store_0 rfl ?_
  refine i_if_lt 24 dX4_store_1 rfl ⟨by omega, by omega⟩ (fun q1 => ?_) (fun q1 => ?_)
  · exfalso
    omega
  · skip
    refine r_iload_n dX4_store_4 rfl ?_
    refine r_aload_n dX4_store_5 rfl ?_
    refine r_get (k := 26) lfX4_9 dX4_store_6 (Nat.le_of_ble_eq_true rfl) rfl rfl ?_
    refine i_alen (k := 27) dX4_store_9 (Nat.le_of_ble_eq_true rfl) rfl rfl ?_
    refine i_icmp_ge 24 dX4_store_10 rfl ⟨by omega, by omega⟩ ⟨by omega, by omega⟩ (fun q10 => ?_) (fun q10 => ?_)
    · exfalso
      omega
    · skip
      refine r_aload_n dX4_store_13 rfl ?_
      refine r_get (k := 26) lfX4_9 dX4_store_14 (Nat.le_of_ble_eq_true rfl) rfl rfl ?_
      refine r_iload_n dX4_store_17 rfl ?_
      refine r_aload_n dX4_store_18 rfl ?_
      refine r_iload_n dX4_store_19 rfl ?_
      refine i_cvP (c_narrow_26 σ h2 v) lmX4_26 dX4_store_20 (Nat.le_of_ble_eq_true rfl) rfl ⟨_, _, rfl⟩ (by decide) (by decide) rfl rfl (Nat.le_of_ble_eq_true rfl) ?_
      refine i_ast (k := 27) dX4_store_23 (Nat.le_of_ble_eq_true rfl) rfl rfl ⟨by omega, by omega⟩ (by decide) ?_
      refine r_vret rfl dX4_store_24 ?_
      exact ⟨rfl, rfl⟩

set_option maxRecDepth 20000 in
theorem c_trouble_26 (σ : rl_S) (h1 : 0 ≤ σ 26 1 ∧ σ 26 1 ≤ 1) (h2 : 0 ≤ σ 26 2 ∧ σ 26 2 ≤ 2) (h3 : 0 ≤ σ 26 3 ∧ σ 26 3 ≤ 48) (f i : Int) (hf : -2147483648 ≤ f ∧ f < 2147483648) (hi : -2147483648 ≤ i ∧ i < 2147483648) : Ct cW mX4_troubleAt [.ref 26, .int (iI f), .int (iI i)] σ (pR (.int (iI (trb (σ 26 1) (σ 26 2) (σ 26 3) f i))) σ) := by
  refine Ct.of plX4 (Nat.le_of_ble_eq_true rfl) ?_
  refine r_aload_n dX4_troubleAt_0 rfl ?_
  refine r_get (k := 26) lfX4_15 dX4_troubleAt_1 (Nat.le_of_ble_eq_true rfl) rfl rfl ?_
  refine i_if_eq 9 dX4_troubleAt_4 rfl ⟨by omega, by omega⟩ (fun q4 => ?_) (fun q4 => ?_)
  · skip
    refine r_aload_n dX4_troubleAt_9 rfl ?_
    refine r_get (k := 26) lfX4_19 dX4_troubleAt_10 (Nat.le_of_ble_eq_true rfl) rfl rfl ?_
    refine r_iload_n dX4_troubleAt_13 rfl ?_
    refine i_icmp_eq 19 dX4_troubleAt_14 rfl ⟨by omega, by omega⟩ ⟨by omega, by omega⟩ (fun q14 => ?_) (fun q14 => ?_)
    · skip
      refine r_iload_n dX4_troubleAt_19 rfl ?_
      refine i_if_lt 31 dX4_troubleAt_20 rfl ⟨by omega, by omega⟩ (fun q20 => ?_) (fun q20 => ?_)
      · skip
        refine i_const dX4_troubleAt_31 ?_
        refine r_goto 36 dX4_troubleAt_32 rfl ?_
        refine r_iret rfl dX4_troubleAt_36 ?_
        exact ⟨by unfold trb; (repeat (first | rfl | (rw [if_pos (by omega)]) | (rw [if_neg (by omega)]))), rfl⟩
      · skip
        refine r_iload_n dX4_troubleAt_23 rfl ?_
        refine r_aload_n dX4_troubleAt_24 rfl ?_
        refine r_get (k := 26) lfX4_23 dX4_troubleAt_25 (Nat.le_of_ble_eq_true rfl) rfl rfl ?_
        refine i_icmp_lt 35 dX4_troubleAt_28 rfl ⟨by omega, by omega⟩ ⟨by omega, by omega⟩ (fun q28 => ?_) (fun q28 => ?_)
        · skip
          refine i_const dX4_troubleAt_35 ?_
          refine r_iret rfl dX4_troubleAt_36 ?_
          exact ⟨by unfold trb; (repeat (first | rfl | (rw [if_pos (by omega)]) | (rw [if_neg (by omega)]))), rfl⟩
        · skip
          refine i_const dX4_troubleAt_31 ?_
          refine r_goto 36 dX4_troubleAt_32 rfl ?_
          refine r_iret rfl dX4_troubleAt_36 ?_
          exact ⟨by unfold trb; (repeat (first | rfl | (rw [if_pos (by omega)]) | (rw [if_neg (by omega)]))), rfl⟩
    · skip
      refine i_const dX4_troubleAt_17 ?_
      refine r_iret rfl dX4_troubleAt_18 ?_
      exact ⟨by unfold trb; (repeat (first | rfl | (rw [if_pos (by omega)]) | (rw [if_neg (by omega)]))), rfl⟩
  · skip
    refine i_const dX4_troubleAt_7 ?_
    refine r_iret rfl dX4_troubleAt_8 ?_
    exact ⟨by unfold trb; (repeat (first | rfl | (rw [if_pos (by omega)]) | (rw [if_neg (by omega)]))), rfl⟩

set_option maxRecDepth 20000 in
theorem c_holds_26 (σ : rl_S) (h1 : 0 ≤ σ 26 1 ∧ σ 26 1 ≤ 1) (h2 : 0 ≤ σ 26 2 ∧ σ 26 2 ≤ 2) (h3 : 0 ≤ σ 26 3 ∧ σ 26 3 ≤ 48) (i n : Int) (hi : -2147483648 ≤ i ∧ i < 2147483648) (hn : -2147483648 ≤ n ∧ n < 2147483648) : Ct cW mX4_holds [.ref 26, .int (iI i), .int (iI n)] σ (pR (.int (iI (ob (decide (0 ≤ i ∧ 0 ≤ n ∧ i + n ≤ σ 26 3))))) σ) := by
  refine Ct.of plX4 (Nat.le_of_ble_eq_true rfl) ?_
  refine r_iload_n dX4_holds_0 rfl ?_
  refine i_if_lt 30 dX4_holds_1 rfl ⟨by omega, by omega⟩ (fun q1 => ?_) (fun q1 => ?_)
  · skip
    refine i_const dX4_holds_30 ?_
    refine r_zret rfl dX4_holds_31 rfl ?_
    first
      | exact ⟨by rw [decide_eq_true (by omega)]; rfl, rfl⟩
      | exact ⟨by rw [decide_eq_false (by omega)]; rfl, rfl⟩
  · skip
    refine r_iload_n dX4_holds_4 rfl ?_
    refine i_if_lt 30 dX4_holds_5 rfl ⟨by omega, by omega⟩ (fun q5 => ?_) (fun q5 => ?_)
    · skip
      refine i_const dX4_holds_30 ?_
      refine r_zret rfl dX4_holds_31 rfl ?_
      first
        | exact ⟨by rw [decide_eq_true (by omega)]; rfl, rfl⟩
        | exact ⟨by rw [decide_eq_false (by omega)]; rfl, rfl⟩
    · skip
      refine r_iload_n dX4_holds_8 rfl ?_
      refine r_aload_n dX4_holds_9 rfl ?_
      refine r_get (k := 26) lfX4_23 dX4_holds_10 (Nat.le_of_ble_eq_true rfl) rfl rfl ?_
      refine i_icmp_gt 30 dX4_holds_13 rfl ⟨by omega, by omega⟩ ⟨by omega, by omega⟩ (fun q13 => ?_) (fun q13 => ?_)
      · skip
        refine i_const dX4_holds_30 ?_
        refine r_zret rfl dX4_holds_31 rfl ?_
        first
          | exact ⟨by rw [decide_eq_true (by omega)]; rfl, rfl⟩
          | exact ⟨by rw [decide_eq_false (by omega)]; rfl, rfl⟩
      · skip
        refine r_iload_n dX4_holds_16 rfl ?_
        refine r_aload_n dX4_holds_17 rfl ?_
        refine r_get (k := 26) lfX4_23 dX4_holds_18 (Nat.le_of_ble_eq_true rfl) rfl rfl ?_
        refine r_iload_n dX4_holds_21 rfl ?_
        refine i_isub dX4_holds_22 ?_
        refine i_icmp_gt 30 dX4_holds_23 rfl ⟨by omega, by omega⟩ ⟨by omega, by omega⟩ (fun q23 => ?_) (fun q23 => ?_)
        · skip
          refine i_const dX4_holds_30 ?_
          refine r_zret rfl dX4_holds_31 rfl ?_
          first
            | exact ⟨by rw [decide_eq_true (by omega)]; rfl, rfl⟩
            | exact ⟨by rw [decide_eq_false (by omega)]; rfl, rfl⟩
        · skip
          refine i_const dX4_holds_26 ?_
          refine r_goto 31 dX4_holds_27 rfl ?_
          refine r_zret rfl dX4_holds_31 rfl ?_
          first
            | exact ⟨by rw [decide_eq_true (by omega)]; rfl, rfl⟩
            | exact ⟨by rw [decide_eq_false (by omega)]; rfl, rfl⟩

def bec_26 (σ : rl_S) (f n : Int) : rl_S → Prop := fun σ2 => σ2 26 1 = 0 ∧ σ2 26 2 = f ∧ σ2 26 3 = n ∧ (∀ z : Int, 0 ≤ z → z < 48 → σ2 27 z.toNat = (fun _ => 0) z) ∧ ∀ k i, k ≠ 26 → k ≠ 27 → σ2 k i = σ k i
theorem c_become_l_26 (σ : rl_S) (f n0 : Int) : ∀ (n : Nat) (k : Int) (σ2 : rl_S), 0 ≤ k → k + n = 48 → σ2 26 1 = 0 → σ2 26 2 = f → σ2 26 3 = n0 → (∀ z : Int, 0 ≤ z → z < k → σ2 27 z.toNat = (fun _ => 0) z) → (∀ k i, k ≠ 26 → k ≠ 27 → σ2 k i = σ k i) → Rn cW mX4_become 17 [.ref 26, .int (iI f), .int (iI n0), .int (iI k)] [] σ2 (qV (bec_26 σ f n0)) := by
  intro n
  induction n with
  | zero =>
    intro k σ2 h0 hk e1 e2 e3 e4 hf
    refine r_iload_n dX4_become_17 rfl ?_
    refine r_aload_n dX4_become_18 rfl ?_
    refine r_get (k := 26) lfX4_9 dX4_become_19 (Nat.le_of_ble_eq_true rfl) rfl rfl ?_
    refine i_alen (k := 27) dX4_become_22 (Nat.le_of_ble_eq_true rfl) rfl rfl ?_
    refine i_icmp_ge 39 dX4_become_23 rfl ⟨by omega, by omega⟩ ⟨by omega, by omega⟩ (fun q23 => ?_) (fun q23 => ?_)
    · skip
      refine r_vret rfl dX4_become_39 ?_
      exact ⟨rfl, e1, e2, e3, fun z z0 z1 => e4 z z0 (by omega), hf⟩
    · exfalso
      omega
  | succ n ih =>
    intro k σ2 h0 hk e1 e2 e3 e4 hf
    refine r_iload_n dX4_become_17 rfl ?_
    refine r_aload_n dX4_become_18 rfl ?_
    refine r_get (k := 26) lfX4_9 dX4_become_19 (Nat.le_of_ble_eq_true rfl) rfl rfl ?_
    refine i_alen (k := 27) dX4_become_22 (Nat.le_of_ble_eq_true rfl) rfl rfl ?_
    refine i_icmp_ge 39 dX4_become_23 rfl ⟨by omega, by omega⟩ ⟨by omega, by omega⟩ (fun q23 => ?_) (fun q23 => ?_)
    · exfalso
      omega
    · skip
      refine r_aload_n dX4_become_26 rfl ?_
      refine r_get (k := 26) lfX4_9 dX4_become_27 (Nat.le_of_ble_eq_true rfl) rfl rfl ?_
      refine r_iload_n dX4_become_30 rfl ?_
      refine i_const dX4_become_31 ?_
      refine i_ast (k := 27) dX4_become_32 (Nat.le_of_ble_eq_true rfl) rfl rfl ⟨by omega, by omega⟩ (by decide) ?_
      refine i_iinc dX4_become_33 rfl (Nat.le_of_ble_eq_true rfl) ?_
      refine r_goto 17 dX4_become_36 rfl ?_
      exact ih (k + 1) _ (by omega) (by omega) ((sup_k _ _ _ _ _ (by decide)).trans e1) ((sup_k _ _ _ _ _ (by decide)).trans e2) ((sup_k _ _ _ _ _ (by decide)).trans e3) (row_up e4 h0 rfl) (fun a i g1 g2 => (sup_k _ _ _ _ _ g2).trans (hf a i g1 g2))

set_option maxRecDepth 20000 in
theorem c_become_26 (σ : rl_S) (f n : Int) : Ct cW mX4_become [.ref 26, .int (iI f), .int (iI n)] σ (qV (bec_26 σ f n)) := by
  refine Ct.of plX4 (Nat.le_of_ble_eq_true rfl) ?_
  refine r_aload_n dX4_become_0 rfl ?_
  refine i_const dX4_become_1 ?_
  refine r_put (k := 26) lpX4_15 dX4_become_2 (Nat.le_of_ble_eq_true rfl) rfl rfl rfl rfl ?_
  refine r_aload_n dX4_become_5 rfl ?_
  refine r_iload_n dX4_become_6 rfl ?_
  refine i_put (k := 26) lpX4_19 dX4_become_7 (Nat.le_of_ble_eq_true rfl) rfl rfl ?_
  refine r_aload_n dX4_become_10 rfl ?_
  refine r_iload_n dX4_become_11 rfl ?_
  refine i_put (k := 26) lpX4_23 dX4_become_12 (Nat.le_of_ble_eq_true rfl) rfl rfl ?_
  refine i_const dX4_become_15 ?_
  refine r_istore_n dX4_become_16 (Nat.le_of_ble_eq_true rfl) ?_
  exact c_become_l_26 σ f n 48 0 _ (by omega) (by omega) rfl rfl rfl (fun z z0 z1 => absurd z1 (by omega)) (fun a i g1 g2 => (sup_k _ _ _ _ _ g1).trans ((sup_k _ _ _ _ _ g1).trans (sup_k _ _ _ _ _ g1)))

set_option maxRecDepth 20000 in
theorem c_itemAt_28 (σ : rl_S) (t : Int) (t0 : 0 ≤ t) (t1 : t < 48) : Ct cW mX4_itemAt [.ref 28, .int (iI t)] σ (pR (.int (iI (σ 29 t.toNat))) σ) := by
  refine Ct.of plX4 (Nat.le_of_ble_eq_true rfl) ?_
  refine r_iload_n dX4_itemAt_0 rfl ?_
  refine i_if_lt 22 dX4_itemAt_1 rfl ⟨by omega, by omega⟩ (fun q1 => ?_) (fun q1 => ?_)
  · exfalso
    omega
  · skip
    refine r_iload_n dX4_itemAt_4 rfl ?_
    refine r_aload_n dX4_itemAt_5 rfl ?_
    refine r_get (k := 28) lfX4_9 dX4_itemAt_6 (Nat.le_of_ble_eq_true rfl) rfl rfl ?_
    refine i_alen (k := 29) dX4_itemAt_9 (Nat.le_of_ble_eq_true rfl) rfl rfl ?_
    refine i_icmp_ge 22 dX4_itemAt_10 rfl ⟨by omega, by omega⟩ ⟨by omega, by omega⟩ (fun q10 => ?_) (fun q10 => ?_)
    · exfalso
      omega
    · skip
      refine r_aload_n dX4_itemAt_13 rfl ?_
      refine r_get (k := 28) lfX4_9 dX4_itemAt_14 (Nat.le_of_ble_eq_true rfl) rfl rfl ?_
      refine r_iload_n dX4_itemAt_17 rfl ?_
      refine i_ald (k := 29) dX4_itemAt_18 (Nat.le_of_ble_eq_true rfl) rfl rfl ⟨by omega, by omega⟩ (by decide) ?_
      refine r_goto 23 dX4_itemAt_19 rfl ?_
      refine r_iret rfl dX4_itemAt_23 ?_
      exact ⟨rfl, rfl⟩

set_option maxRecDepth 20000 in
theorem c_narrow_28 (σ : rl_S) (h2 : 0 ≤ σ 28 2 ∧ σ 28 2 ≤ 2) (v : Int) : Ct cW mX4_narrow [.ref 28, .int (iI v)] σ (pR (.int (iI (nar (σ 28 2) v))) σ) := by
  refine Ct.of plX4 (Nat.le_of_ble_eq_true rfl) ?_
  refine r_aload_n dX4_narrow_0 rfl ?_
  refine r_get (k := 28) lfX4_19 dX4_narrow_1 (Nat.le_of_ble_eq_true rfl) rfl rfl ?_
  refine i_if_ne 10 dX4_narrow_4 rfl ⟨by omega, by omega⟩ (fun q4 => ?_) (fun q4 => ?_)
  · skip
    refine r_aload_n dX4_narrow_10 rfl ?_
    refine r_get (k := 28) lfX4_19 dX4_narrow_11 (Nat.le_of_ble_eq_true rfl) rfl rfl ?_
    refine i_const dX4_narrow_14 ?_
    refine i_icmp_ne 23 dX4_narrow_15 rfl ⟨by omega, by omega⟩ ⟨by omega, by omega⟩ (fun q15 => ?_) (fun q15 => ?_)
    · skip
      refine r_iload_n dX4_narrow_23 rfl ?_
      refine r_iret rfl dX4_narrow_24 ?_
      exact ⟨by unfold nar; (repeat (first | rfl | (rw [if_pos (by omega)]) | (rw [if_neg (by omega)]))), rfl⟩
    · skip
      refine r_iload_n dX4_narrow_18 rfl ?_
      refine i_i2s dX4_narrow_19 ?_
      refine r_goto 24 dX4_narrow_20 rfl ?_
      refine r_iret rfl dX4_narrow_24 ?_
      exact ⟨by unfold nar; (repeat (first | rfl | (rw [if_pos (by omega)]) | (rw [if_neg (by omega)]))), rfl⟩
  · skip
    refine r_iload_n dX4_narrow_7 rfl ?_
    refine i_i2b dX4_narrow_8 ?_
    refine r_iret rfl dX4_narrow_9 ?_
    exact ⟨by unfold nar; (repeat (first | rfl | (rw [if_pos (by omega)]) | (rw [if_neg (by omega)]))), rfl⟩

set_option maxRecDepth 20000 in
theorem c_store_28 (σ : rl_S) (h2 : 0 ≤ σ 28 2 ∧ σ 28 2 ≤ 2) (t v : Int) (t0 : 0 ≤ t) (t1 : t < 48) : Ct cW mX4_store [.ref 28, .int (iI t), .int (iI v)] σ (qV (fun σ' => σ' = sup σ 29 t.toNat (nar (σ 28 2) v))) := by
  refine Ct.of plX4 (Nat.le_of_ble_eq_true rfl) ?_
  refine r_iload_n dX4_store_0 rfl ?_
  refine i_if_lt 24 dX4_store_1 rfl ⟨by omega, by omega⟩ (fun q1 => ?_) (fun q1 => ?_)
  · exfalso
    omega
  · skip
    refine r_iload_n dX4_store_4 rfl ?_
    refine r_aload_n dX4_store_5 rfl ?_
    refine r_get (k := 28) lfX4_9 dX4_store_6 (Nat.le_of_ble_eq_true rfl) rfl rfl ?_
    refine i_alen (k := 29) dX4_store_9 (Nat.le_of_ble_eq_true rfl) rfl rfl ?_
    refine i_icmp_ge 24 dX4_store_10 rfl ⟨by omega, by omega⟩ ⟨by omega, by omega⟩ (fun q10 => ?_) (fun q10 => ?_)
    · exfalso
      omega
    · skip
      refine r_aload_n dX4_store_13 rfl ?_
      refine r_get (k := 28) lfX4_9 dX4_store_14 (Nat.le_of_ble_eq_true rfl) rfl rfl ?_
      refine r_iload_n dX4_store_17 rfl ?_
      refine r_aload_n dX4_store_18 rfl ?_
      refine r_iload_n dX4_store_19 rfl ?_
      refine i_cvP (c_narrow_28 σ h2 v) lmX4_26 dX4_store_20 (Nat.le_of_ble_eq_true rfl) rfl ⟨_, _, rfl⟩ (by decide) (by decide) rfl rfl (Nat.le_of_ble_eq_true rfl) ?_
      refine i_ast (k := 29) dX4_store_23 (Nat.le_of_ble_eq_true rfl) rfl rfl ⟨by omega, by omega⟩ (by decide) ?_
      refine r_vret rfl dX4_store_24 ?_
      exact ⟨rfl, rfl⟩

set_option maxRecDepth 20000 in
theorem c_trouble_28 (σ : rl_S) (h1 : 0 ≤ σ 28 1 ∧ σ 28 1 ≤ 1) (h2 : 0 ≤ σ 28 2 ∧ σ 28 2 ≤ 2) (h3 : 0 ≤ σ 28 3 ∧ σ 28 3 ≤ 48) (f i : Int) (hf : -2147483648 ≤ f ∧ f < 2147483648) (hi : -2147483648 ≤ i ∧ i < 2147483648) : Ct cW mX4_troubleAt [.ref 28, .int (iI f), .int (iI i)] σ (pR (.int (iI (trb (σ 28 1) (σ 28 2) (σ 28 3) f i))) σ) := by
  refine Ct.of plX4 (Nat.le_of_ble_eq_true rfl) ?_
  refine r_aload_n dX4_troubleAt_0 rfl ?_
  refine r_get (k := 28) lfX4_15 dX4_troubleAt_1 (Nat.le_of_ble_eq_true rfl) rfl rfl ?_
  refine i_if_eq 9 dX4_troubleAt_4 rfl ⟨by omega, by omega⟩ (fun q4 => ?_) (fun q4 => ?_)
  · skip
    refine r_aload_n dX4_troubleAt_9 rfl ?_
    refine r_get (k := 28) lfX4_19 dX4_troubleAt_10 (Nat.le_of_ble_eq_true rfl) rfl rfl ?_
    refine r_iload_n dX4_troubleAt_13 rfl ?_
    refine i_icmp_eq 19 dX4_troubleAt_14 rfl ⟨by omega, by omega⟩ ⟨by omega, by omega⟩ (fun q14 => ?_) (fun q14 => ?_)
    · skip
      refine r_iload_n dX4_troubleAt_19 rfl ?_
      refine i_if_lt 31 dX4_troubleAt_20 rfl ⟨by omega, by omega⟩ (fun q20 => ?_) (fun q20 => ?_)
      · skip
        refine i_const dX4_troubleAt_31 ?_
        refine r_goto 36 dX4_troubleAt_32 rfl ?_
        refine r_iret rfl dX4_troubleAt_36 ?_
        exact ⟨by unfold trb; (repeat (first | rfl | (rw [if_pos (by omega)]) | (rw [if_neg (by omega)]))), rfl⟩
      · skip
        refine r_iload_n dX4_troubleAt_23 rfl ?_
        refine r_aload_n dX4_troubleAt_24 rfl ?_
        refine r_get (k := 28) lfX4_23 dX4_troubleAt_25 (Nat.le_of_ble_eq_true rfl) rfl rfl ?_
        refine i_icmp_lt 35 dX4_troubleAt_28 rfl ⟨by omega, by omega⟩ ⟨by omega, by omega⟩ (fun q28 => ?_) (fun q28 => ?_)
        · skip
          refine i_const dX4_troubleAt_35 ?_
          refine r_iret rfl dX4_troubleAt_36 ?_
          exact ⟨by unfold trb; (repeat (first | rfl | (rw [if_pos (by omega)]) | (rw [if_neg (by omega)]))), rfl⟩
        · skip
          refine i_const dX4_troubleAt_31 ?_
          refine r_goto 36 dX4_troubleAt_32 rfl ?_
          refine r_iret rfl dX4_troubleAt_36 ?_
          exact ⟨by unfold trb; (repeat (first | rfl | (rw [if_pos (by omega)]) | (rw [if_neg (by omega)]))), rfl⟩
    · skip
      refine i_const dX4_troubleAt_17 ?_
      refine r_iret rfl dX4_troubleAt_18 ?_
      exact ⟨by unfold trb; (repeat (first | rfl | (rw [if_pos (by omega)]) | (rw [if_neg (by omega)]))), rfl⟩
  · skip
    refine i_const dX4_troubleAt_7 ?_
    refine r_iret rfl dX4_troubleAt_8 ?_
    exact ⟨by unfold trb; (repeat (first | rfl | (rw [if_pos (by omega)]) | (rw [if_neg (by omega)]))), rfl⟩

set_option maxRecDepth 20000 in
theorem c_holds_28 (σ : rl_S) (h1 : 0 ≤ σ 28 1 ∧ σ 28 1 ≤ 1) (h2 : 0 ≤ σ 28 2 ∧ σ 28 2 ≤ 2) (h3 : 0 ≤ σ 28 3 ∧ σ 28 3 ≤ 48) (i n : Int) (hi : -2147483648 ≤ i ∧ i < 2147483648) (hn : -2147483648 ≤ n ∧ n < 2147483648) : Ct cW mX4_holds [.ref 28, .int (iI i), .int (iI n)] σ (pR (.int (iI (ob (decide (0 ≤ i ∧ 0 ≤ n ∧ i + n ≤ σ 28 3))))) σ) := by
  refine Ct.of plX4 (Nat.le_of_ble_eq_true rfl) ?_
  refine r_iload_n dX4_holds_0 rfl ?_
  refine i_if_lt 30 dX4_holds_1 rfl ⟨by omega, by omega⟩ (fun q1 => ?_) (fun q1 => ?_)
  · skip
    refine i_const dX4_holds_30 ?_
    refine r_zret rfl dX4_holds_31 rfl ?_
    first
      | exact ⟨by rw [decide_eq_true (by omega)]; rfl, rfl⟩
      | exact ⟨by rw [decide_eq_false (by omega)]; rfl, rfl⟩
  · skip
    refine r_iload_n dX4_holds_4 rfl ?_
    refine i_if_lt 30 dX4_holds_5 rfl ⟨by omega, by omega⟩ (fun q5 => ?_) (fun q5 => ?_)
    · skip
      refine i_const dX4_holds_30 ?_
      refine r_zret rfl dX4_holds_31 rfl ?_
      first
        | exact ⟨by rw [decide_eq_true (by omega)]; rfl, rfl⟩
        | exact ⟨by rw [decide_eq_false (by omega)]; rfl, rfl⟩
    · skip
      refine r_iload_n dX4_holds_8 rfl ?_
      refine r_aload_n dX4_holds_9 rfl ?_
      refine r_get (k := 28) lfX4_23 dX4_holds_10 (Nat.le_of_ble_eq_true rfl) rfl rfl ?_
      refine i_icmp_gt 30 dX4_holds_13 rfl ⟨by omega, by omega⟩ ⟨by omega, by omega⟩ (fun q13 => ?_) (fun q13 => ?_)
      · skip
        refine i_const dX4_holds_30 ?_
        refine r_zret rfl dX4_holds_31 rfl ?_
        first
          | exact ⟨by rw [decide_eq_true (by omega)]; rfl, rfl⟩
          | exact ⟨by rw [decide_eq_false (by omega)]; rfl, rfl⟩
      · skip
        refine r_iload_n dX4_holds_16 rfl ?_
        refine r_aload_n dX4_holds_17 rfl ?_
        refine r_get (k := 28) lfX4_23 dX4_holds_18 (Nat.le_of_ble_eq_true rfl) rfl rfl ?_
        refine r_iload_n dX4_holds_21 rfl ?_
        refine i_isub dX4_holds_22 ?_
        refine i_icmp_gt 30 dX4_holds_23 rfl ⟨by omega, by omega⟩ ⟨by omega, by omega⟩ (fun q23 => ?_) (fun q23 => ?_)
        · skip
          refine i_const dX4_holds_30 ?_
          refine r_zret rfl dX4_holds_31 rfl ?_
          first
            | exact ⟨by rw [decide_eq_true (by omega)]; rfl, rfl⟩
            | exact ⟨by rw [decide_eq_false (by omega)]; rfl, rfl⟩
        · skip
          refine i_const dX4_holds_26 ?_
          refine r_goto 31 dX4_holds_27 rfl ?_
          refine r_zret rfl dX4_holds_31 rfl ?_
          first
            | exact ⟨by rw [decide_eq_true (by omega)]; rfl, rfl⟩
            | exact ⟨by rw [decide_eq_false (by omega)]; rfl, rfl⟩

def bec_28 (σ : rl_S) (f n : Int) : rl_S → Prop := fun σ2 => σ2 28 1 = 0 ∧ σ2 28 2 = f ∧ σ2 28 3 = n ∧ (∀ z : Int, 0 ≤ z → z < 48 → σ2 29 z.toNat = (fun _ => 0) z) ∧ ∀ k i, k ≠ 28 → k ≠ 29 → σ2 k i = σ k i
theorem c_become_l_28 (σ : rl_S) (f n0 : Int) : ∀ (n : Nat) (k : Int) (σ2 : rl_S), 0 ≤ k → k + n = 48 → σ2 28 1 = 0 → σ2 28 2 = f → σ2 28 3 = n0 → (∀ z : Int, 0 ≤ z → z < k → σ2 29 z.toNat = (fun _ => 0) z) → (∀ k i, k ≠ 28 → k ≠ 29 → σ2 k i = σ k i) → Rn cW mX4_become 17 [.ref 28, .int (iI f), .int (iI n0), .int (iI k)] [] σ2 (qV (bec_28 σ f n0)) := by
  intro n
  induction n with
  | zero =>
    intro k σ2 h0 hk e1 e2 e3 e4 hf
    refine r_iload_n dX4_become_17 rfl ?_
    refine r_aload_n dX4_become_18 rfl ?_
    refine r_get (k := 28) lfX4_9 dX4_become_19 (Nat.le_of_ble_eq_true rfl) rfl rfl ?_
    refine i_alen (k := 29) dX4_become_22 (Nat.le_of_ble_eq_true rfl) rfl rfl ?_
    refine i_icmp_ge 39 dX4_become_23 rfl ⟨by omega, by omega⟩ ⟨by omega, by omega⟩ (fun q23 => ?_) (fun q23 => ?_)
    · skip
      refine r_vret rfl dX4_become_39 ?_
      exact ⟨rfl, e1, e2, e3, fun z z0 z1 => e4 z z0 (by omega), hf⟩
    · exfalso
      omega
  | succ n ih =>
    intro k σ2 h0 hk e1 e2 e3 e4 hf
    refine r_iload_n dX4_become_17 rfl ?_
    refine r_aload_n dX4_become_18 rfl ?_
    refine r_get (k := 28) lfX4_9 dX4_become_19 (Nat.le_of_ble_eq_true rfl) rfl rfl ?_
    refine i_alen (k := 29) dX4_become_22 (Nat.le_of_ble_eq_true rfl) rfl rfl ?_
    refine i_icmp_ge 39 dX4_become_23 rfl ⟨by omega, by omega⟩ ⟨by omega, by omega⟩ (fun q23 => ?_) (fun q23 => ?_)
    · exfalso
      omega
    · skip
      refine r_aload_n dX4_become_26 rfl ?_
      refine r_get (k := 28) lfX4_9 dX4_become_27 (Nat.le_of_ble_eq_true rfl) rfl rfl ?_
      refine r_iload_n dX4_become_30 rfl ?_
      refine i_const dX4_become_31 ?_
      refine i_ast (k := 29) dX4_become_32 (Nat.le_of_ble_eq_true rfl) rfl rfl ⟨by omega, by omega⟩ (by decide) ?_
      refine i_iinc dX4_become_33 rfl (Nat.le_of_ble_eq_true rfl) ?_
      refine r_goto 17 dX4_become_36 rfl ?_
      exact ih (k + 1) _ (by omega) (by omega) ((sup_k _ _ _ _ _ (by decide)).trans e1) ((sup_k _ _ _ _ _ (by decide)).trans e2) ((sup_k _ _ _ _ _ (by decide)).trans e3) (row_up e4 h0 rfl) (fun a i g1 g2 => (sup_k _ _ _ _ _ g2).trans (hf a i g1 g2))

set_option maxRecDepth 20000 in
theorem c_become_28 (σ : rl_S) (f n : Int) : Ct cW mX4_become [.ref 28, .int (iI f), .int (iI n)] σ (qV (bec_28 σ f n)) := by
  refine Ct.of plX4 (Nat.le_of_ble_eq_true rfl) ?_
  refine r_aload_n dX4_become_0 rfl ?_
  refine i_const dX4_become_1 ?_
  refine r_put (k := 28) lpX4_15 dX4_become_2 (Nat.le_of_ble_eq_true rfl) rfl rfl rfl rfl ?_
  refine r_aload_n dX4_become_5 rfl ?_
  refine r_iload_n dX4_become_6 rfl ?_
  refine i_put (k := 28) lpX4_19 dX4_become_7 (Nat.le_of_ble_eq_true rfl) rfl rfl ?_
  refine r_aload_n dX4_become_10 rfl ?_
  refine r_iload_n dX4_become_11 rfl ?_
  refine i_put (k := 28) lpX4_23 dX4_become_12 (Nat.le_of_ble_eq_true rfl) rfl rfl ?_
  refine i_const dX4_become_15 ?_
  refine r_istore_n dX4_become_16 (Nat.le_of_ble_eq_true rfl) ?_
  exact c_become_l_28 σ f n 48 0 _ (by omega) (by omega) rfl rfl rfl (fun z z0 z1 => absurd z1 (by omega)) (fun a i g1 g2 => (sup_k _ _ _ _ _ g1).trans ((sup_k _ _ _ _ _ g1).trans (sup_k _ _ _ _ _ g1)))

/-- what taking over does -/
def tak_22_22 (σ : rl_S) (i j n : Int) : rl_S → Prop := fun σ2 => (∀ z : Int, 0 ≤ z → z < 48 → σ2 23 z.toNat = if j ≤ z ∧ z < j + n then nar (σ 22 2) (σ 23 (i + (z - j)).toNat) else σ 23 z.toNat) ∧ ∀ k i, k ≠ 23 → σ2 k i = σ k i
theorem c_take_l0_22_22 (σ : rl_S) (h2 : 0 ≤ σ 22 2 ∧ σ 22 2 ≤ 2) (i j n : Int) (i0 : 0 ≤ i) (j0 : 0 ≤ j) (n0 : 0 ≤ n) (i1 : i + n ≤ 48) (j1 : j + n ≤ 48) (hd : j ≤ i) : ∀ (m : Nat) (k : Int) (lx : Value) (σ2 : rl_S), 0 ≤ k → k + m = n → (∀ z : Int, 0 ≤ z → z < 48 → σ2 23 z.toNat = if (j ≤ z ∧ z < j + k) then nar (σ 22 2) (σ 23 (i + (z - j)).toNat) else σ 23 z.toNat) → (∀ k i, k ≠ 23 → σ2 k i = σ k i) → Rn cW mX4_take 3 [.ref 22, .ref 22, .int (iI i), .int (iI j), .int (iI n), .int (iI k), lx] [] σ2 (qV (tak_22_22 σ i j n)) := by
  intro m
  induction m with
  | zero =>
    intro k lx σ2 h0 hk e1 hf
    refine r_iload dX4_take_3 rfl ?_
    refine r_iload dX4_take_5 rfl ?_
    refine i_icmp_ge 51 dX4_take_7 rfl ⟨by omega, by omega⟩ ⟨by omega, by omega⟩ (fun q7 => ?_) (fun q7 => ?_)
    · skip
      refine r_vret rfl dX4_take_51 ?_
      refine ⟨rfl, fun z z0 z1 => ?_, hf⟩
      rw [e1 z z0 z1]
      by_cases hz : j ≤ z ∧ z < j + n
      · rw [if_pos hz, if_pos (by omega)]
      · rw [if_neg hz, if_neg (by omega)]
    · exfalso
      omega
  | succ m ih =>
    intro k lx σ2 h0 hk e1 hf
    have h2e : σ2 22 2 = σ 22 2 := hf 22 2 (by decide)
    have hrd : σ2 23 (i + k).toNat = σ 23 (i + k).toNat := by
      rw [e1 (i + k) (by omega) (by omega), if_neg (by omega)]
    refine r_iload dX4_take_3 rfl ?_
    refine r_iload dX4_take_5 rfl ?_
    refine i_icmp_ge 51 dX4_take_7 rfl ⟨by omega, by omega⟩ ⟨by omega, by omega⟩ (fun q7 => ?_) (fun q7 => ?_)
    · exfalso
      omega
    · skip
      refine r_iload_n dX4_take_10 rfl ?_
      refine r_iload_n dX4_take_11 rfl ?_
      refine i_icmp_le 25 dX4_take_12 rfl ⟨by omega, by omega⟩ ⟨by omega, by omega⟩ (fun q12 => ?_) (fun q12 => ?_)
      · skip
        refine r_iload dX4_take_25 rfl ?_
        refine r_istore dX4_take_27 (Nat.le_of_ble_eq_true rfl) ?_
        refine r_aload_n dX4_take_29 rfl ?_
        refine r_iload_n dX4_take_30 rfl ?_
        refine r_iload dX4_take_31 rfl ?_
        refine i_iadd dX4_take_33 ?_
        refine r_aload_n dX4_take_34 rfl ?_
        refine r_iload_n dX4_take_35 rfl ?_
        refine r_iload dX4_take_36 rfl ?_
        refine i_iadd dX4_take_38 ?_
        refine i_cvP (c_itemAt_22 σ2 (i + k) (by omega) (by omega)) lmX4_30 dX4_take_39 (Nat.le_of_ble_eq_true rfl) rfl ⟨_, _, rfl⟩ (by decide) (by decide) rfl rfl (Nat.le_of_ble_eq_true rfl) ?_
        rw [hrd]
        refine i_cvV (c_store_22 σ2 (by rw [h2e]; exact h2) (j + k) _ (by omega) (by omega)) lmX4_33 dX4_take_42 (Nat.le_of_ble_eq_true rfl) rfl ⟨_, _, rfl⟩ (by decide) (by decide) rfl rfl (Nat.le_of_ble_eq_true rfl) (fun σ3 h3 => ?_)
        refine i_iinc dX4_take_45 rfl (Nat.le_of_ble_eq_true rfl) ?_
        refine r_goto 3 dX4_take_48 rfl ?_
        subst h3
        refine ih (k + 1) _ _ (by omega) (by omega) (fun z z0 z1 => ?_) (fun a b g => (sup_k _ _ _ _ _ g).trans (hf a b g))
        by_cases hz : z = j + k
        · rw [hz, sup_h, if_pos (by omega), h2e, show i + (j + k - j) = i + k by omega]
        · rw [sup_i _ _ _ _ (by omega), e1 z z0 z1]
          by_cases hc : (j ≤ z ∧ z < j + k)
          · rw [if_pos hc, if_pos (by omega)]
          · rw [if_neg hc, if_neg (by omega)]
      · exfalso
        omega

theorem c_take_l1_22_22 (σ : rl_S) (h2 : 0 ≤ σ 22 2 ∧ σ 22 2 ≤ 2) (i j n : Int) (i0 : 0 ≤ i) (j0 : 0 ≤ j) (n0 : 0 ≤ n) (i1 : i + n ≤ 48) (j1 : j + n ≤ 48) (hd : i < j) : ∀ (m : Nat) (k : Int) (lx : Value) (σ2 : rl_S), 0 ≤ k → k + m = n → (∀ z : Int, 0 ≤ z → z < 48 → σ2 23 z.toNat = if (j + n - k ≤ z ∧ z < j + n) then nar (σ 22 2) (σ 23 (i + (z - j)).toNat) else σ 23 z.toNat) → (∀ k i, k ≠ 23 → σ2 k i = σ k i) → Rn cW mX4_take 3 [.ref 22, .ref 22, .int (iI i), .int (iI j), .int (iI n), .int (iI k), lx] [] σ2 (qV (tak_22_22 σ i j n)) := by
  intro m
  induction m with
  | zero =>
    intro k lx σ2 h0 hk e1 hf
    refine r_iload dX4_take_3 rfl ?_
    refine r_iload dX4_take_5 rfl ?_
    refine i_icmp_ge 51 dX4_take_7 rfl ⟨by omega, by omega⟩ ⟨by omega, by omega⟩ (fun q7 => ?_) (fun q7 => ?_)
    · skip
      refine r_vret rfl dX4_take_51 ?_
      refine ⟨rfl, fun z z0 z1 => ?_, hf⟩
      rw [e1 z z0 z1]
      by_cases hz : j ≤ z ∧ z < j + n
      · rw [if_pos hz, if_pos (by omega)]
      · rw [if_neg hz, if_neg (by omega)]
    · exfalso
      omega
  | succ m ih =>
    intro k lx σ2 h0 hk e1 hf
    have h2e : σ2 22 2 = σ 22 2 := hf 22 2 (by decide)
    have hrd : σ2 23 (i + (n - 1 - k)).toNat = σ 23 (i + (n - 1 - k)).toNat := by
      rw [e1 (i + (n - 1 - k)) (by omega) (by omega), if_neg (by omega)]
    refine r_iload dX4_take_3 rfl ?_
    refine r_iload dX4_take_5 rfl ?_
    refine i_icmp_ge 51 dX4_take_7 rfl ⟨by omega, by omega⟩ ⟨by omega, by omega⟩ (fun q7 => ?_) (fun q7 => ?_)
    · exfalso
      omega
    · skip
      refine r_iload_n dX4_take_10 rfl ?_
      refine r_iload_n dX4_take_11 rfl ?_
      refine i_icmp_le 25 dX4_take_12 rfl ⟨by omega, by omega⟩ ⟨by omega, by omega⟩ (fun q12 => ?_) (fun q12 => ?_)
      · exfalso
        omega
      · skip
        refine r_iload dX4_take_15 rfl ?_
        refine i_const dX4_take_17 ?_
        refine i_isub dX4_take_18 ?_
        refine r_iload dX4_take_19 rfl ?_
        refine i_isub dX4_take_21 ?_
        refine r_goto 27 dX4_take_22 rfl ?_
        refine r_istore dX4_take_27 (Nat.le_of_ble_eq_true rfl) ?_
        refine r_aload_n dX4_take_29 rfl ?_
        refine r_iload_n dX4_take_30 rfl ?_
        refine r_iload dX4_take_31 rfl ?_
        refine i_iadd dX4_take_33 ?_
        refine r_aload_n dX4_take_34 rfl ?_
        refine r_iload_n dX4_take_35 rfl ?_
        refine r_iload dX4_take_36 rfl ?_
        refine i_iadd dX4_take_38 ?_
        refine i_cvP (c_itemAt_22 σ2 (i + (n - 1 - k)) (by omega) (by omega)) lmX4_30 dX4_take_39 (Nat.le_of_ble_eq_true rfl) rfl ⟨_, _, rfl⟩ (by decide) (by decide) rfl rfl (Nat.le_of_ble_eq_true rfl) ?_
        rw [hrd]
        refine i_cvV (c_store_22 σ2 (by rw [h2e]; exact h2) (j + (n - 1 - k)) _ (by omega) (by omega)) lmX4_33 dX4_take_42 (Nat.le_of_ble_eq_true rfl) rfl ⟨_, _, rfl⟩ (by decide) (by decide) rfl rfl (Nat.le_of_ble_eq_true rfl) (fun σ3 h3 => ?_)
        refine i_iinc dX4_take_45 rfl (Nat.le_of_ble_eq_true rfl) ?_
        refine r_goto 3 dX4_take_48 rfl ?_
        subst h3
        refine ih (k + 1) _ _ (by omega) (by omega) (fun z z0 z1 => ?_) (fun a b g => (sup_k _ _ _ _ _ g).trans (hf a b g))
        by_cases hz : z = j + (n - 1 - k)
        · rw [hz, sup_h, if_pos (by omega), h2e, show i + (j + (n - 1 - k) - j) = i + (n - 1 - k) by omega]
        · rw [sup_i _ _ _ _ (by omega), e1 z z0 z1]
          by_cases hc : (j + n - k ≤ z ∧ z < j + n)
          · rw [if_pos hc, if_pos (by omega)]
          · rw [if_neg hc, if_neg (by omega)]

set_option maxRecDepth 20000 in
theorem c_take_22_22 (σ : rl_S) (h2 : 0 ≤ σ 22 2 ∧ σ 22 2 ≤ 2) (i j n : Int) (i0 : 0 ≤ i) (j0 : 0 ≤ j) (n0 : 0 ≤ n) (i1 : i + n ≤ 48) (j1 : j + n ≤ 48)  : Ct cW mX4_take [.ref 22, .ref 22, .int (iI i), .int (iI j), .int (iI n)] σ (qV (tak_22_22 σ i j n)) := by
  refine Ct.of plX4 (Nat.le_of_ble_eq_true rfl) ?_
  refine i_const dX4_take_0 ?_
  refine r_istore dX4_take_1 (Nat.le_of_ble_eq_true rfl) ?_
  by_cases hd : i < j
  · exact c_take_l1_22_22 σ h2 i j n i0 j0 n0 i1 j1 hd n.toNat 0 _ σ (by omega) (by omega) (fun z z0 z1 => by rw [if_neg (by omega)]) (fun _ _ _ => rfl)
  · exact c_take_l0_22_22 σ h2 i j n i0 j0 n0 i1 j1 (by omega) n.toNat 0 _ σ (by omega) (by omega) (fun z z0 z1 => by rw [if_neg (by omega)]) (fun _ _ _ => rfl)

/-- what taking over does -/
def tak_22_24 (σ : rl_S) (i j n : Int) : rl_S → Prop := fun σ2 => (∀ z : Int, 0 ≤ z → z < 48 → σ2 23 z.toNat = if j ≤ z ∧ z < j + n then nar (σ 22 2) (σ 25 (i + (z - j)).toNat) else σ 23 z.toNat) ∧ ∀ k i, k ≠ 23 → σ2 k i = σ k i
theorem c_take_l0_22_24 (σ : rl_S) (h2 : 0 ≤ σ 22 2 ∧ σ 22 2 ≤ 2) (i j n : Int) (i0 : 0 ≤ i) (j0 : 0 ≤ j) (n0 : 0 ≤ n) (i1 : i + n ≤ 48) (j1 : j + n ≤ 48) (hd : j ≤ i) : ∀ (m : Nat) (k : Int) (lx : Value) (σ2 : rl_S), 0 ≤ k → k + m = n → (∀ z : Int, 0 ≤ z → z < 48 → σ2 23 z.toNat = if (j ≤ z ∧ z < j + k) then nar (σ 22 2) (σ 25 (i + (z - j)).toNat) else σ 23 z.toNat) → (∀ k i, k ≠ 23 → σ2 k i = σ k i) → Rn cW mX4_take 3 [.ref 22, .ref 24, .int (iI i), .int (iI j), .int (iI n), .int (iI k), lx] [] σ2 (qV (tak_22_24 σ i j n)) := by
  intro m
  induction m with
  | zero =>
    intro k lx σ2 h0 hk e1 hf
    refine r_iload dX4_take_3 rfl ?_
    refine r_iload dX4_take_5 rfl ?_
    refine i_icmp_ge 51 dX4_take_7 rfl ⟨by omega, by omega⟩ ⟨by omega, by omega⟩ (fun q7 => ?_) (fun q7 => ?_)
    · skip
      refine r_vret rfl dX4_take_51 ?_
      refine ⟨rfl, fun z z0 z1 => ?_, hf⟩
      rw [e1 z z0 z1]
      by_cases hz : j ≤ z ∧ z < j + n
      · rw [if_pos hz, if_pos (by omega)]
      · rw [if_neg hz, if_neg (by omega)]
    · exfalso
      omega
  | succ m ih =>
    intro k lx σ2 h0 hk e1 hf
    have h2e : σ2 22 2 = σ 22 2 := hf 22 2 (by decide)
    have hrd : σ2 25 (i + k).toNat = σ 25 (i + k).toNat := hf 25 _ (by decide)
    refine r_iload dX4_take_3 rfl ?_
    refine r_iload dX4_take_5 rfl ?_
    refine i_icmp_ge 51 dX4_take_7 rfl ⟨by omega, by omega⟩ ⟨by omega, by omega⟩ (fun q7 => ?_) (fun q7 => ?_)
    · exfalso
      omega
    · skip
      refine r_iload_n dX4_take_10 rfl ?_
      refine r_iload_n dX4_take_11 rfl ?_
      refine i_icmp_le 25 dX4_take_12 rfl ⟨by omega, by omega⟩ ⟨by omega, by omega⟩ (fun q12 => ?_) (fun q12 => ?_)
      · skip
        refine r_iload dX4_take_25 rfl ?_
        refine r_istore dX4_take_27 (Nat.le_of_ble_eq_true rfl) ?_
        refine r_aload_n dX4_take_29 rfl ?_
        refine r_iload_n dX4_take_30 rfl ?_
        refine r_iload dX4_take_31 rfl ?_
        refine i_iadd dX4_take_33 ?_
        refine r_aload_n dX4_take_34 rfl ?_
        refine r_iload_n dX4_take_35 rfl ?_
        refine r_iload dX4_take_36 rfl ?_
        refine i_iadd dX4_take_38 ?_
        refine i_cvP (c_itemAt_24 σ2 (i + k) (by omega) (by omega)) lmX4_30 dX4_take_39 (Nat.le_of_ble_eq_true rfl) rfl ⟨_, _, rfl⟩ (by decide) (by decide) rfl rfl (Nat.le_of_ble_eq_true rfl) ?_
        rw [hrd]
        refine i_cvV (c_store_22 σ2 (by rw [h2e]; exact h2) (j + k) _ (by omega) (by omega)) lmX4_33 dX4_take_42 (Nat.le_of_ble_eq_true rfl) rfl ⟨_, _, rfl⟩ (by decide) (by decide) rfl rfl (Nat.le_of_ble_eq_true rfl) (fun σ3 h3 => ?_)
        refine i_iinc dX4_take_45 rfl (Nat.le_of_ble_eq_true rfl) ?_
        refine r_goto 3 dX4_take_48 rfl ?_
        subst h3
        refine ih (k + 1) _ _ (by omega) (by omega) (fun z z0 z1 => ?_) (fun a b g => (sup_k _ _ _ _ _ g).trans (hf a b g))
        by_cases hz : z = j + k
        · rw [hz, sup_h, if_pos (by omega), h2e, show i + (j + k - j) = i + k by omega]
        · rw [sup_i _ _ _ _ (by omega), e1 z z0 z1]
          by_cases hc : (j ≤ z ∧ z < j + k)
          · rw [if_pos hc, if_pos (by omega)]
          · rw [if_neg hc, if_neg (by omega)]
      · exfalso
        omega

theorem c_take_l1_22_24 (σ : rl_S) (h2 : 0 ≤ σ 22 2 ∧ σ 22 2 ≤ 2) (i j n : Int) (i0 : 0 ≤ i) (j0 : 0 ≤ j) (n0 : 0 ≤ n) (i1 : i + n ≤ 48) (j1 : j + n ≤ 48) (hd : i < j) : ∀ (m : Nat) (k : Int) (lx : Value) (σ2 : rl_S), 0 ≤ k → k + m = n → (∀ z : Int, 0 ≤ z → z < 48 → σ2 23 z.toNat = if (j + n - k ≤ z ∧ z < j + n) then nar (σ 22 2) (σ 25 (i + (z - j)).toNat) else σ 23 z.toNat) → (∀ k i, k ≠ 23 → σ2 k i = σ k i) → Rn cW mX4_take 3 [.ref 22, .ref 24, .int (iI i), .int (iI j), .int (iI n), .int (iI k), lx] [] σ2 (qV (tak_22_24 σ i j n)) := by
  intro m
  induction m with
  | zero =>
    intro k lx σ2 h0 hk e1 hf
    refine r_iload dX4_take_3 rfl ?_
    refine r_iload dX4_take_5 rfl ?_
    refine i_icmp_ge 51 dX4_take_7 rfl ⟨by omega, by omega⟩ ⟨by omega, by omega⟩ (fun q7 => ?_) (fun q7 => ?_)
    · skip
      refine r_vret rfl dX4_take_51 ?_
      refine ⟨rfl, fun z z0 z1 => ?_, hf⟩
      rw [e1 z z0 z1]
      by_cases hz : j ≤ z ∧ z < j + n
      · rw [if_pos hz, if_pos (by omega)]
      · rw [if_neg hz, if_neg (by omega)]
    · exfalso
      omega
  | succ m ih =>
    intro k lx σ2 h0 hk e1 hf
    have h2e : σ2 22 2 = σ 22 2 := hf 22 2 (by decide)
    have hrd : σ2 25 (i + (n - 1 - k)).toNat = σ 25 (i + (n - 1 - k)).toNat := hf 25 _ (by decide)
    refine r_iload dX4_take_3 rfl ?_
    refine r_iload dX4_take_5 rfl ?_
    refine i_icmp_ge 51 dX4_take_7 rfl ⟨by omega, by omega⟩ ⟨by omega, by omega⟩ (fun q7 => ?_) (fun q7 => ?_)
    · exfalso
      omega
    · skip
      refine r_iload_n dX4_take_10 rfl ?_
      refine r_iload_n dX4_take_11 rfl ?_
      refine i_icmp_le 25 dX4_take_12 rfl ⟨by omega, by omega⟩ ⟨by omega, by omega⟩ (fun q12 => ?_) (fun q12 => ?_)
      · exfalso
        omega
      · skip
        refine r_iload dX4_take_15 rfl ?_
        refine i_const dX4_take_17 ?_
        refine i_isub dX4_take_18 ?_
        refine r_iload dX4_take_19 rfl ?_
        refine i_isub dX4_take_21 ?_
        refine r_goto 27 dX4_take_22 rfl ?_
        refine r_istore dX4_take_27 (Nat.le_of_ble_eq_true rfl) ?_
        refine r_aload_n dX4_take_29 rfl ?_
        refine r_iload_n dX4_take_30 rfl ?_
        refine r_iload dX4_take_31 rfl ?_
        refine i_iadd dX4_take_33 ?_
        refine r_aload_n dX4_take_34 rfl ?_
        refine r_iload_n dX4_take_35 rfl ?_
        refine r_iload dX4_take_36 rfl ?_
        refine i_iadd dX4_take_38 ?_
        refine i_cvP (c_itemAt_24 σ2 (i + (n - 1 - k)) (by omega) (by omega)) lmX4_30 dX4_take_39 (Nat.le_of_ble_eq_true rfl) rfl ⟨_, _, rfl⟩ (by decide) (by decide) rfl rfl (Nat.le_of_ble_eq_true rfl) ?_
        rw [hrd]
        refine i_cvV (c_store_22 σ2 (by rw [h2e]; exact h2) (j + (n - 1 - k)) _ (by omega) (by omega)) lmX4_33 dX4_take_42 (Nat.le_of_ble_eq_true rfl) rfl ⟨_, _, rfl⟩ (by decide) (by decide) rfl rfl (Nat.le_of_ble_eq_true rfl) (fun σ3 h3 => ?_)
        refine i_iinc dX4_take_45 rfl (Nat.le_of_ble_eq_true rfl) ?_
        refine r_goto 3 dX4_take_48 rfl ?_
        subst h3
        refine ih (k + 1) _ _ (by omega) (by omega) (fun z z0 z1 => ?_) (fun a b g => (sup_k _ _ _ _ _ g).trans (hf a b g))
        by_cases hz : z = j + (n - 1 - k)
        · rw [hz, sup_h, if_pos (by omega), h2e, show i + (j + (n - 1 - k) - j) = i + (n - 1 - k) by omega]
        · rw [sup_i _ _ _ _ (by omega), e1 z z0 z1]
          by_cases hc : (j + n - k ≤ z ∧ z < j + n)
          · rw [if_pos hc, if_pos (by omega)]
          · rw [if_neg hc, if_neg (by omega)]

set_option maxRecDepth 20000 in
theorem c_take_22_24 (σ : rl_S) (h2 : 0 ≤ σ 22 2 ∧ σ 22 2 ≤ 2) (i j n : Int) (i0 : 0 ≤ i) (j0 : 0 ≤ j) (n0 : 0 ≤ n) (i1 : i + n ≤ 48) (j1 : j + n ≤ 48)  : Ct cW mX4_take [.ref 22, .ref 24, .int (iI i), .int (iI j), .int (iI n)] σ (qV (tak_22_24 σ i j n)) := by
  refine Ct.of plX4 (Nat.le_of_ble_eq_true rfl) ?_
  refine i_const dX4_take_0 ?_
  refine r_istore dX4_take_1 (Nat.le_of_ble_eq_true rfl) ?_
  by_cases hd : i < j
  · exact c_take_l1_22_24 σ h2 i j n i0 j0 n0 i1 j1 hd n.toNat 0 _ σ (by omega) (by omega) (fun z z0 z1 => by rw [if_neg (by omega)]) (fun _ _ _ => rfl)
  · exact c_take_l0_22_24 σ h2 i j n i0 j0 n0 i1 j1 (by omega) n.toNat 0 _ σ (by omega) (by omega) (fun z z0 z1 => by rw [if_neg (by omega)]) (fun _ _ _ => rfl)

/-- what taking over does -/
def tak_22_26 (σ : rl_S) (i j n : Int) : rl_S → Prop := fun σ2 => (∀ z : Int, 0 ≤ z → z < 48 → σ2 23 z.toNat = if j ≤ z ∧ z < j + n then nar (σ 22 2) (σ 27 (i + (z - j)).toNat) else σ 23 z.toNat) ∧ ∀ k i, k ≠ 23 → σ2 k i = σ k i
theorem c_take_l0_22_26 (σ : rl_S) (h2 : 0 ≤ σ 22 2 ∧ σ 22 2 ≤ 2) (i j n : Int) (i0 : 0 ≤ i) (j0 : 0 ≤ j) (n0 : 0 ≤ n) (i1 : i + n ≤ 48) (j1 : j + n ≤ 48) (hd : j ≤ i) : ∀ (m : Nat) (k : Int) (lx : Value) (σ2 : rl_S), 0 ≤ k → k + m = n → (∀ z : Int, 0 ≤ z → z < 48 → σ2 23 z.toNat = if (j ≤ z ∧ z < j + k) then nar (σ 22 2) (σ 27 (i + (z - j)).toNat) else σ 23 z.toNat) → (∀ k i, k ≠ 23 → σ2 k i = σ k i) → Rn cW mX4_take 3 [.ref 22, .ref 26, .int (iI i), .int (iI j), .int (iI n), .int (iI k), lx] [] σ2 (qV (tak_22_26 σ i j n)) := by
  intro m
  induction m with
  | zero =>
    intro k lx σ2 h0 hk e1 hf
    refine r_iload dX4_take_3 rfl ?_
    refine r_iload dX4_take_5 rfl ?_
    refine i_icmp_ge 51 dX4_take_7 rfl ⟨by omega, by omega⟩ ⟨by omega, by omega⟩ (fun q7 => ?_) (fun q7 => ?_)
    · skip
      refine r_vret rfl dX4_take_51 ?_
      refine ⟨rfl, fun z z0 z1 => ?_, hf⟩
      rw [e1 z z0 z1]
      by_cases hz : j ≤ z ∧ z < j + n
      · rw [if_pos hz, if_pos (by omega)]
      · rw [if_neg hz, if_neg (by omega)]
    · exfalso
      omega
  | succ m ih =>
    intro k lx σ2 h0 hk e1 hf
    have h2e : σ2 22 2 = σ 22 2 := hf 22 2 (by decide)
    have hrd : σ2 27 (i + k).toNat = σ 27 (i + k).toNat := hf 27 _ (by decide)
    refine r_iload dX4_take_3 rfl ?_
    refine r_iload dX4_take_5 rfl ?_
    refine i_icmp_ge 51 dX4_take_7 rfl ⟨by omega, by omega⟩ ⟨by omega, by omega⟩ (fun q7 => ?_) (fun q7 => ?_)
    · exfalso
      omega
    · skip
      refine r_iload_n dX4_take_10 rfl ?_
      refine r_iload_n dX4_take_11 rfl ?_
      refine i_icmp_le 25 dX4_take_12 rfl ⟨by omega, by omega⟩ ⟨by omega, by omega⟩ (fun q12 => ?_) (fun q12 => ?_)
      · skip
        refine r_iload dX4_take_25 rfl ?_
        refine r_istore dX4_take_27 (Nat.le_of_ble_eq_true rfl) ?_
        refine r_aload_n dX4_take_29 rfl ?_
        refine r_iload_n dX4_take_30 rfl ?_
        refine r_iload dX4_take_31 rfl ?_
        refine i_iadd dX4_take_33 ?_
        refine r_aload_n dX4_take_34 rfl ?_
        refine r_iload_n dX4_take_35 rfl ?_
        refine r_iload dX4_take_36 rfl ?_
        refine i_iadd dX4_take_38 ?_
        refine i_cvP (c_itemAt_26 σ2 (i + k) (by omega) (by omega)) lmX4_30 dX4_take_39 (Nat.le_of_ble_eq_true rfl) rfl ⟨_, _, rfl⟩ (by decide) (by decide) rfl rfl (Nat.le_of_ble_eq_true rfl) ?_
        rw [hrd]
        refine i_cvV (c_store_22 σ2 (by rw [h2e]; exact h2) (j + k) _ (by omega) (by omega)) lmX4_33 dX4_take_42 (Nat.le_of_ble_eq_true rfl) rfl ⟨_, _, rfl⟩ (by decide) (by decide) rfl rfl (Nat.le_of_ble_eq_true rfl) (fun σ3 h3 => ?_)
        refine i_iinc dX4_take_45 rfl (Nat.le_of_ble_eq_true rfl) ?_
        refine r_goto 3 dX4_take_48 rfl ?_
        subst h3
        refine ih (k + 1) _ _ (by omega) (by omega) (fun z z0 z1 => ?_) (fun a b g => (sup_k _ _ _ _ _ g).trans (hf a b g))
        by_cases hz : z = j + k
        · rw [hz, sup_h, if_pos (by omega), h2e, show i + (j + k - j) = i + k by omega]
        · rw [sup_i _ _ _ _ (by omega), e1 z z0 z1]
          by_cases hc : (j ≤ z ∧ z < j + k)
          · rw [if_pos hc, if_pos (by omega)]
          · rw [if_neg hc, if_neg (by omega)]
      · exfalso
        omega

theorem c_take_l1_22_26 (σ : rl_S) (h2 : 0 ≤ σ 22 2 ∧ σ 22 2 ≤ 2) (i j n : Int) (i0 : 0 ≤ i) (j0 : 0 ≤ j) (n0 : 0 ≤ n) (i1 : i + n ≤ 48) (j1 : j + n ≤ 48) (hd : i < j) : ∀ (m : Nat) (k : Int) (lx : Value) (σ2 : rl_S), 0 ≤ k → k + m = n → (∀ z : Int, 0 ≤ z → z < 48 → σ2 23 z.toNat = if (j + n - k ≤ z ∧ z < j + n) then nar (σ 22 2) (σ 27 (i + (z - j)).toNat) else σ 23 z.toNat) → (∀ k i, k ≠ 23 → σ2 k i = σ k i) → Rn cW mX4_take 3 [.ref 22, .ref 26, .int (iI i), .int (iI j), .int (iI n), .int (iI k), lx] [] σ2 (qV (tak_22_26 σ i j n)) := by
  intro m
  induction m with
  | zero =>
    intro k lx σ2 h0 hk e1 hf
    refine r_iload dX4_take_3 rfl ?_
    refine r_iload dX4_take_5 rfl ?_
    refine i_icmp_ge 51 dX4_take_7 rfl ⟨by omega, by omega⟩ ⟨by omega, by omega⟩ (fun q7 => ?_) (fun q7 => ?_)
    · skip
      refine r_vret rfl dX4_take_51 ?_
      refine ⟨rfl, fun z z0 z1 => ?_, hf⟩
      rw [e1 z z0 z1]
      by_cases hz : j ≤ z ∧ z < j + n
      · rw [if_pos hz, if_pos (by omega)]
      · rw [if_neg hz, if_neg (by omega)]
    · exfalso
      omega
  | succ m ih =>
    intro k lx σ2 h0 hk e1 hf
    have h2e : σ2 22 2 = σ 22 2 := hf 22 2 (by decide)
    have hrd : σ2 27 (i + (n - 1 - k)).toNat = σ 27 (i + (n - 1 - k)).toNat := hf 27 _ (by decide)
    refine r_iload dX4_take_3 rfl ?_
    refine r_iload dX4_take_5 rfl ?_
    refine i_icmp_ge 51 dX4_take_7 rfl ⟨by omega, by omega⟩ ⟨by omega, by omega⟩ (fun q7 => ?_) (fun q7 => ?_)
    · exfalso
      omega
    · skip
      refine r_iload_n dX4_take_10 rfl ?_
      refine r_iload_n dX4_take_11 rfl ?_
      refine i_icmp_le 25 dX4_take_12 rfl ⟨by omega, by omega⟩ ⟨by omega, by omega⟩ (fun q12 => ?_) (fun q12 => ?_)
      · exfalso
        omega
      · skip
        refine r_iload dX4_take_15 rfl ?_
        refine i_const dX4_take_17 ?_
        refine i_isub dX4_take_18 ?_
        refine r_iload dX4_take_19 rfl ?_
        refine i_isub dX4_take_21 ?_
        refine r_goto 27 dX4_take_22 rfl ?_
        refine r_istore dX4_take_27 (Nat.le_of_ble_eq_true rfl) ?_
        refine r_aload_n dX4_take_29 rfl ?_
        refine r_iload_n dX4_take_30 rfl ?_
        refine r_iload dX4_take_31 rfl ?_
        refine i_iadd dX4_take_33 ?_
        refine r_aload_n dX4_take_34 rfl ?_
        refine r_iload_n dX4_take_35 rfl ?_
        refine r_iload dX4_take_36 rfl ?_
        refine i_iadd dX4_take_38 ?_
        refine i_cvP (c_itemAt_26 σ2 (i + (n - 1 - k)) (by omega) (by omega)) lmX4_30 dX4_take_39 (Nat.le_of_ble_eq_true rfl) rfl ⟨_, _, rfl⟩ (by decide) (by decide) rfl rfl (Nat.le_of_ble_eq_true rfl) ?_
        rw [hrd]
        refine i_cvV (c_store_22 σ2 (by rw [h2e]; exact h2) (j + (n - 1 - k)) _ (by omega) (by omega)) lmX4_33 dX4_take_42 (Nat.le_of_ble_eq_true rfl) rfl ⟨_, _, rfl⟩ (by decide) (by decide) rfl rfl (Nat.le_of_ble_eq_true rfl) (fun σ3 h3 => ?_)
        refine i_iinc dX4_take_45 rfl (Nat.le_of_ble_eq_true rfl) ?_
        refine r_goto 3 dX4_take_48 rfl ?_
        subst h3
        refine ih (k + 1) _ _ (by omega) (by omega) (fun z z0 z1 => ?_) (fun a b g => (sup_k _ _ _ _ _ g).trans (hf a b g))
        by_cases hz : z = j + (n - 1 - k)
        · rw [hz, sup_h, if_pos (by omega), h2e, show i + (j + (n - 1 - k) - j) = i + (n - 1 - k) by omega]
        · rw [sup_i _ _ _ _ (by omega), e1 z z0 z1]
          by_cases hc : (j + n - k ≤ z ∧ z < j + n)
          · rw [if_pos hc, if_pos (by omega)]
          · rw [if_neg hc, if_neg (by omega)]

set_option maxRecDepth 20000 in
theorem c_take_22_26 (σ : rl_S) (h2 : 0 ≤ σ 22 2 ∧ σ 22 2 ≤ 2) (i j n : Int) (i0 : 0 ≤ i) (j0 : 0 ≤ j) (n0 : 0 ≤ n) (i1 : i + n ≤ 48) (j1 : j + n ≤ 48)  : Ct cW mX4_take [.ref 22, .ref 26, .int (iI i), .int (iI j), .int (iI n)] σ (qV (tak_22_26 σ i j n)) := by
  refine Ct.of plX4 (Nat.le_of_ble_eq_true rfl) ?_
  refine i_const dX4_take_0 ?_
  refine r_istore dX4_take_1 (Nat.le_of_ble_eq_true rfl) ?_
  by_cases hd : i < j
  · exact c_take_l1_22_26 σ h2 i j n i0 j0 n0 i1 j1 hd n.toNat 0 _ σ (by omega) (by omega) (fun z z0 z1 => by rw [if_neg (by omega)]) (fun _ _ _ => rfl)
  · exact c_take_l0_22_26 σ h2 i j n i0 j0 n0 i1 j1 (by omega) n.toNat 0 _ σ (by omega) (by omega) (fun z z0 z1 => by rw [if_neg (by omega)]) (fun _ _ _ => rfl)

/-- what taking over does -/
def tak_22_28 (σ : rl_S) (i j n : Int) : rl_S → Prop := fun σ2 => (∀ z : Int, 0 ≤ z → z < 48 → σ2 23 z.toNat = if j ≤ z ∧ z < j + n then nar (σ 22 2) (σ 29 (i + (z - j)).toNat) else σ 23 z.toNat) ∧ ∀ k i, k ≠ 23 → σ2 k i = σ k i
theorem c_take_l0_22_28 (σ : rl_S) (h2 : 0 ≤ σ 22 2 ∧ σ 22 2 ≤ 2) (i j n : Int) (i0 : 0 ≤ i) (j0 : 0 ≤ j) (n0 : 0 ≤ n) (i1 : i + n ≤ 48) (j1 : j + n ≤ 48) (hd : j ≤ i) : ∀ (m : Nat) (k : Int) (lx : Value) (σ2 : rl_S), 0 ≤ k → k + m = n → (∀ z : Int, 0 ≤ z → z < 48 → σ2 23 z.toNat = if (j ≤ z ∧ z < j + k) then nar (σ 22 2) (σ 29 (i + (z - j)).toNat) else σ 23 z.toNat) → (∀ k i, k ≠ 23 → σ2 k i = σ k i) → Rn cW mX4_take 3 [.ref 22, .ref 28, .int (iI i), .int (iI j), .int (iI n), .int (iI k), lx] [] σ2 (qV (tak_22_28 σ i j n)) := by
  intro m
  induction m with
  | zero =>
    intro k lx σ2 h0 hk e1 hf
    refine r_iload dX4_take_3 rfl ?_
    refine r_iload dX4_take_5 rfl ?_
    refine i_icmp_ge 51 dX4_take_7 rfl ⟨by omega, by omega⟩ ⟨by omega, by omega⟩ (fun q7 => ?_) (fun q7 => ?_)
    · skip
      refine r_vret rfl dX4_take_51 ?_
      refine ⟨rfl, fun z z0 z1 => ?_, hf⟩
      rw [e1 z z0 z1]
      by_cases hz : j ≤ z ∧ z < j + n
      · rw [if_pos hz, if_pos (by omega)]
      · rw [if_neg hz, if_neg (by omega)]
    · exfalso
      omega
  | succ m ih =>
    intro k lx σ2 h0 hk e1 hf
    have h2e : σ2 22 2 = σ 22 2 := hf 22 2 (by decide)
    have hrd : σ2 29 (i + k).toNat = σ 29 (i + k).toNat := hf 29 _ (by decide)
    refine r_iload dX4_take_3 rfl ?_
    refine r_iload dX4_take_5 rfl ?_
    refine i_icmp_ge 51 dX4_take_7 rfl ⟨by omega, by omega⟩ ⟨by omega, by omega⟩ (fun q7 => ?_) (fun q7 => ?_)
    · exfalso
      omega
    · skip
      refine r_iload_n dX4_take_10 rfl ?_
      refine r_iload_n dX4_take_11 rfl ?_
      refine i_icmp_le 25 dX4_take_12 rfl ⟨by omega, by omega⟩ ⟨by omega, by omega⟩ (fun q12 => ?_) (fun q12 => ?_)
      · skip
        refine r_iload dX4_take_25 rfl ?_
        refine r_istore dX4_take_27 (Nat.le_of_ble_eq_true rfl) ?_
        refine r_aload_n dX4_take_29 rfl ?_
        refine r_iload_n dX4_take_30 rfl ?_
        refine r_iload dX4_take_31 rfl ?_
        refine i_iadd dX4_take_33 ?_
        refine r_aload_n dX4_take_34 rfl ?_
        refine r_iload_n dX4_take_35 rfl ?_
        refine r_iload dX4_take_36 rfl ?_
        refine i_iadd dX4_take_38 ?_
        refine i_cvP (c_itemAt_28 σ2 (i + k) (by omega) (by omega)) lmX4_30 dX4_take_39 (Nat.le_of_ble_eq_true rfl) rfl ⟨_, _, rfl⟩ (by decide) (by decide) rfl rfl (Nat.le_of_ble_eq_true rfl) ?_
        rw [hrd]
        refine i_cvV (c_store_22 σ2 (by rw [h2e]; exact h2) (j + k) _ (by omega) (by omega)) lmX4_33 dX4_take_42 (Nat.le_of_ble_eq_true rfl) rfl ⟨_, _, rfl⟩ (by decide) (by decide) rfl rfl (Nat.le_of_ble_eq_true rfl) (fun σ3 h3 => ?_)
        refine i_iinc dX4_take_45 rfl (Nat.le_of_ble_eq_true rfl) ?_
        refine r_goto 3 dX4_take_48 rfl ?_
        subst h3
        refine ih (k + 1) _ _ (by omega) (by omega) (fun z z0 z1 => ?_) (fun a b g => (sup_k _ _ _ _ _ g).trans (hf a b g))
        by_cases hz : z = j + k
        · rw [hz, sup_h, if_pos (by omega), h2e, show i + (j + k - j) = i + k by omega]
        · rw [sup_i _ _ _ _ (by omega), e1 z z0 z1]
          by_cases hc : (j ≤ z ∧ z < j + k)
          · rw [if_pos hc, if_pos (by omega)]
          · rw [if_neg hc, if_neg (by omega)]
      · exfalso
        omega

theorem c_take_l1_22_28 (σ : rl_S) (h2 : 0 ≤ σ 22 2 ∧ σ 22 2 ≤ 2) (i j n : Int) (i0 : 0 ≤ i) (j0 : 0 ≤ j) (n0 : 0 ≤ n) (i1 : i + n ≤ 48) (j1 : j + n ≤ 48) (hd : i < j) : ∀ (m : Nat) (k : Int) (lx : Value) (σ2 : rl_S), 0 ≤ k → k + m = n → (∀ z : Int, 0 ≤ z → z < 48 → σ2 23 z.toNat = if (j + n - k ≤ z ∧ z < j + n) then nar (σ 22 2) (σ 29 (i + (z - j)).toNat) else σ 23 z.toNat) → (∀ k i, k ≠ 23 → σ2 k i = σ k i) → Rn cW mX4_take 3 [.ref 22, .ref 28, .int (iI i), .int (iI j), .int (iI n), .int (iI k), lx] [] σ2 (qV (tak_22_28 σ i j n)) := by
  intro m
  induction m with
  | zero =>
    intro k lx σ2 h0 hk e1 hf
    refine r_iload dX4_take_3 rfl ?_
    refine r_iload dX4_take_5 rfl ?_
    refine i_icmp_ge 51 dX4_take_7 rfl ⟨by omega, by omega⟩ ⟨by omega, by omega⟩ (fun q7 => ?_) (fun q7 => ?_)
    · skip
      refine r_vret rfl dX4_take_51 ?_
      refine ⟨rfl, fun z z0 z1 => ?_, hf⟩
      rw [e1 z z0 z1]
      by_cases hz : j ≤ z ∧ z < j + n
      · rw [if_pos hz, if_pos (by omega)]
      · rw [if_neg hz, if_neg (by omega)]
    · exfalso
      omega
  | succ m ih =>
    intro k lx σ2 h0 hk e1 hf
    have h2e : σ2 22 2 = σ 22 2 := hf 22 2 (by decide)
    have hrd : σ2 29 (i + (n - 1 - k)).toNat = σ 29 (i + (n - 1 - k)).toNat := hf 29 _ (by decide)
    refine r_iload dX4_take_3 rfl ?_
    refine r_iload dX4_take_5 rfl ?_
    refine i_icmp_ge 51 dX4_take_7 rfl ⟨by omega, by omega⟩ ⟨by omega, by omega⟩ (fun q7 => ?_) (fun q7 => ?_)
    · exfalso
      omega
    · skip
      refine r_iload_n dX4_take_10 rfl ?_
      refine r_iload_n dX4_take_11 rfl ?_
      refine i_icmp_le 25 dX4_take_12 rfl ⟨by omega, by omega⟩ ⟨by omega, by omega⟩ (fun q12 => ?_) (fun q12 => ?_)
      · exfalso
        omega
      · skip
        refine r_iload dX4_take_15 rfl ?_
        refine i_const dX4_take_17 ?_
        refine i_isub dX4_take_18 ?_
        refine r_iload dX4_take_19 rfl ?_
        refine i_isub dX4_take_21 ?_
        refine r_goto 27 dX4_take_22 rfl ?_
        refine r_istore dX4_take_27 (Nat.le_of_ble_eq_true rfl) ?_
        refine r_aload_n dX4_take_29 rfl ?_
        refine r_iload_n dX4_take_30 rfl ?_
        refine r_iload dX4_take_31 rfl ?_
        refine i_iadd dX4_take_33 ?_
        refine r_aload_n dX4_take_34 rfl ?_
        refine r_iload_n dX4_take_35 rfl ?_
        refine r_iload dX4_take_36 rfl ?_
        refine i_iadd dX4_take_38 ?_
        refine i_cvP (c_itemAt_28 σ2 (i + (n - 1 - k)) (by omega) (by omega)) lmX4_30 dX4_take_39 (Nat.le_of_ble_eq_true rfl) rfl ⟨_, _, rfl⟩ (by decide) (by decide) rfl rfl (Nat.le_of_ble_eq_true rfl) ?_
        rw [hrd]
        refine i_cvV (c_store_22 σ2 (by rw [h2e]; exact h2) (j + (n - 1 - k)) _ (by omega) (by omega)) lmX4_33 dX4_take_42 (Nat.le_of_ble_eq_true rfl) rfl ⟨_, _, rfl⟩ (by decide) (by decide) rfl rfl (Nat.le_of_ble_eq_true rfl) (fun σ3 h3 => ?_)
        refine i_iinc dX4_take_45 rfl (Nat.le_of_ble_eq_true rfl) ?_
        refine r_goto 3 dX4_take_48 rfl ?_
        subst h3
        refine ih (k + 1) _ _ (by omega) (by omega) (fun z z0 z1 => ?_) (fun a b g => (sup_k _ _ _ _ _ g).trans (hf a b g))
        by_cases hz : z = j + (n - 1 - k)
        · rw [hz, sup_h, if_pos (by omega), h2e, show i + (j + (n - 1 - k) - j) = i + (n - 1 - k) by omega]
        · rw [sup_i _ _ _ _ (by omega), e1 z z0 z1]
          by_cases hc : (j + n - k ≤ z ∧ z < j + n)
          · rw [if_pos hc, if_pos (by omega)]
          · rw [if_neg hc, if_neg (by omega)]

set_option maxRecDepth 20000 in
theorem c_take_22_28 (σ : rl_S) (h2 : 0 ≤ σ 22 2 ∧ σ 22 2 ≤ 2) (i j n : Int) (i0 : 0 ≤ i) (j0 : 0 ≤ j) (n0 : 0 ≤ n) (i1 : i + n ≤ 48) (j1 : j + n ≤ 48)  : Ct cW mX4_take [.ref 22, .ref 28, .int (iI i), .int (iI j), .int (iI n)] σ (qV (tak_22_28 σ i j n)) := by
  refine Ct.of plX4 (Nat.le_of_ble_eq_true rfl) ?_
  refine i_const dX4_take_0 ?_
  refine r_istore dX4_take_1 (Nat.le_of_ble_eq_true rfl) ?_
  by_cases hd : i < j
  · exact c_take_l1_22_28 σ h2 i j n i0 j0 n0 i1 j1 hd n.toNat 0 _ σ (by omega) (by omega) (fun z z0 z1 => by rw [if_neg (by omega)]) (fun _ _ _ => rfl)
  · exact c_take_l0_22_28 σ h2 i j n i0 j0 n0 i1 j1 (by omega) n.toNat 0 _ σ (by omega) (by omega) (fun z z0 z1 => by rw [if_neg (by omega)]) (fun _ _ _ => rfl)

/-- what taking over does -/
def tak_24_22 (σ : rl_S) (i j n : Int) : rl_S → Prop := fun σ2 => (∀ z : Int, 0 ≤ z → z < 48 → σ2 25 z.toNat = if j ≤ z ∧ z < j + n then nar (σ 24 2) (σ 23 (i + (z - j)).toNat) else σ 25 z.toNat) ∧ ∀ k i, k ≠ 25 → σ2 k i = σ k i
theorem c_take_l0_24_22 (σ : rl_S) (h2 : 0 ≤ σ 24 2 ∧ σ 24 2 ≤ 2) (i j n : Int) (i0 : 0 ≤ i) (j0 : 0 ≤ j) (n0 : 0 ≤ n) (i1 : i + n ≤ 48) (j1 : j + n ≤ 48) (hd : j ≤ i) : ∀ (m : Nat) (k : Int) (lx : Value) (σ2 : rl_S), 0 ≤ k → k + m = n → (∀ z : Int, 0 ≤ z → z < 48 → σ2 25 z.toNat = if (j ≤ z ∧ z < j + k) then nar (σ 24 2) (σ 23 (i + (z - j)).toNat) else σ 25 z.toNat) → (∀ k i, k ≠ 25 → σ2 k i = σ k i) → Rn cW mX4_take 3 [.ref 24, .ref 22, .int (iI i), .int (iI j), .int (iI n), .int (iI k), lx] [] σ2 (qV (tak_24_22 σ i j n)) := by
  intro m
  induction m with
  | zero =>
    intro k lx σ2 h0 hk e1 hf
    refine r_iload dX4_take_3 rfl ?_
    refine r_iload dX4_take_5 rfl ?_
    refine i_icmp_ge 51 dX4_take_7 rfl ⟨by omega, by omega⟩ ⟨by omega, by omega⟩ (fun q7 => ?_) (fun q7 => ?_)
    · skip
      refine r_vret rfl dX4_take_51 ?_
      refine ⟨rfl, fun z z0 z1 => ?_, hf⟩
      rw [e1 z z0 z1]
      by_cases hz : j ≤ z ∧ z < j + n
      · rw [if_pos hz, if_pos (by omega)]
      · rw [if_neg hz, if_neg (by omega)]
    · exfalso
      omega
  | succ m ih =>
    intro k lx σ2 h0 hk e1 hf
    have h2e : σ2 24 2 = σ 24 2 := hf 24 2 (by decide)
    have hrd : σ2 23 (i + k).toNat = σ 23 (i + k).toNat := hf 23 _ (by decide)
    refine r_iload dX4_take_3 rfl ?_
    refine r_iload dX4_take_5 rfl ?_
    refine i_icmp_ge 51 dX4_take_7 rfl ⟨by omega, by omega⟩ ⟨by omega, by omega⟩ (fun q7 => ?_) (fun q7 => ?_)
    · exfalso
      omega
    · skip
      refine r_iload_n dX4_take_10 rfl ?_
      refine r_iload_n dX4_take_11 rfl ?_
      refine i_icmp_le 25 dX4_take_12 rfl ⟨by omega, by omega⟩ ⟨by omega, by omega⟩ (fun q12 => ?_) (fun q12 => ?_)
      · skip
        refine r_iload dX4_take_25 rfl ?_
        refine r_istore dX4_take_27 (Nat.le_of_ble_eq_true rfl) ?_
        refine r_aload_n dX4_take_29 rfl ?_
        refine r_iload_n dX4_take_30 rfl ?_
        refine r_iload dX4_take_31 rfl ?_
        refine i_iadd dX4_take_33 ?_
        refine r_aload_n dX4_take_34 rfl ?_
        refine r_iload_n dX4_take_35 rfl ?_
        refine r_iload dX4_take_36 rfl ?_
        refine i_iadd dX4_take_38 ?_
        refine i_cvP (c_itemAt_22 σ2 (i + k) (by omega) (by omega)) lmX4_30 dX4_take_39 (Nat.le_of_ble_eq_true rfl) rfl ⟨_, _, rfl⟩ (by decide) (by decide) rfl rfl (Nat.le_of_ble_eq_true rfl) ?_
        rw [hrd]
        refine i_cvV (c_store_24 σ2 (by rw [h2e]; exact h2) (j + k) _ (by omega) (by omega)) lmX4_33 dX4_take_42 (Nat.le_of_ble_eq_true rfl) rfl ⟨_, _, rfl⟩ (by decide) (by decide) rfl rfl (Nat.le_of_ble_eq_true rfl) (fun σ3 h3 => ?_)
        refine i_iinc dX4_take_45 rfl (Nat.le_of_ble_eq_true rfl) ?_
        refine r_goto 3 dX4_take_48 rfl ?_
        subst h3
        refine ih (k + 1) _ _ (by omega) (by omega) (fun z z0 z1 => ?_) (fun a b g => (sup_k _ _ _ _ _ g).trans (hf a b g))
        by_cases hz : z = j + k
        · rw [hz, sup_h, if_pos (by omega), h2e, show i + (j + k - j) = i + k by omega]
        · rw [sup_i _ _ _ _ (by omega), e1 z z0 z1]
          by_cases hc : (j ≤ z ∧ z < j + k)
          · rw [if_pos hc, if_pos (by omega)]
          · rw [if_neg hc, if_neg (by omega)]
      · exfalso
        omega

theorem c_take_l1_24_22 (σ : rl_S) (h2 : 0 ≤ σ 24 2 ∧ σ 24 2 ≤ 2) (i j n : Int) (i0 : 0 ≤ i) (j0 : 0 ≤ j) (n0 : 0 ≤ n) (i1 : i + n ≤ 48) (j1 : j + n ≤ 48) (hd : i < j) : ∀ (m : Nat) (k : Int) (lx : Value) (σ2 : rl_S), 0 ≤ k → k + m = n → (∀ z : Int, 0 ≤ z → z < 48 → σ2 25 z.toNat = if (j + n - k ≤ z ∧ z < j + n) then nar (σ 24 2) (σ 23 (i + (z - j)).toNat) else σ 25 z.toNat) → (∀ k i, k ≠ 25 → σ2 k i = σ k i) → Rn cW mX4_take 3 [.ref 24, .ref 22, .int (iI i), .int (iI j), .int (iI n), .int (iI k), lx] [] σ2 (qV (tak_24_22 σ i j n)) := by
  intro m
  induction m with
  | zero =>
    intro k lx σ2 h0 hk e1 hf
    refine r_iload dX4_take_3 rfl ?_
    refine r_iload dX4_take_5 rfl ?_
    refine i_icmp_ge 51 dX4_take_7 rfl ⟨by omega, by omega⟩ ⟨by omega, by omega⟩ (fun q7 => ?_) (fun q7 => ?_)
    · skip
      refine r_vret rfl dX4_take_51 ?_
      refine ⟨rfl, fun z z0 z1 => ?_, hf⟩
      rw [e1 z z0 z1]
      by_cases hz : j ≤ z ∧ z < j + n
      · rw [if_pos hz, if_pos (by omega)]
      · rw [if_neg hz, if_neg (by omega)]
    · exfalso
      omega
  | succ m ih =>
    intro k lx σ2 h0 hk e1 hf
    have h2e : σ2 24 2 = σ 24 2 := hf 24 2 (by decide)
    have hrd : σ2 23 (i + (n - 1 - k)).toNat = σ 23 (i + (n - 1 - k)).toNat := hf 23 _ (by decide)
    refine r_iload dX4_take_3 rfl ?_
    refine r_iload dX4_take_5 rfl ?_
    refine i_icmp_ge 51 dX4_take_7 rfl ⟨by omega, by omega⟩ ⟨by omega, by omega⟩ (fun q7 => ?_) (fun q7 => ?_)
    · exfalso
      omega
    · skip
      refine r_iload_n dX4_take_10 rfl ?_
      refine r_iload_n dX4_take_11 rfl ?_
      refine i_icmp_le 25 dX4_take_12 rfl ⟨by omega, by omega⟩ ⟨by omega, by omega⟩ (fun q12 => ?_) (fun q12 => ?_)
      · exfalso
        omega
      · skip
        refine r_iload dX4_take_15 rfl ?_
        refine i_const dX4_take_17 ?_
        refine i_isub dX4_take_18 ?_
        refine r_iload dX4_take_19 rfl ?_
        refine i_isub dX4_take_21 ?_
        refine r_goto 27 dX4_take_22 rfl ?_
        refine r_istore dX4_take_27 (Nat.le_of_ble_eq_true rfl) ?_
        refine r_aload_n dX4_take_29 rfl ?_
        refine r_iload_n dX4_take_30 rfl ?_
        refine r_iload dX4_take_31 rfl ?_
        refine i_iadd dX4_take_33 ?_
        refine r_aload_n dX4_take_34 rfl ?_
        refine r_iload_n dX4_take_35 rfl ?_
        refine r_iload dX4_take_36 rfl ?_
        refine i_iadd dX4_take_38 ?_
        refine i_cvP (c_itemAt_22 σ2 (i + (n - 1 - k)) (by omega) (by omega)) lmX4_30 dX4_take_39 (Nat.le_of_ble_eq_true rfl) rfl ⟨_, _, rfl⟩ (by decide) (by decide) rfl rfl (Nat.le_of_ble_eq_true rfl) ?_
        rw [hrd]
        refine i_cvV (c_store_24 σ2 (by rw [h2e]; exact h2) (j + (n - 1 - k)) _ (by omega) (by omega)) lmX4_33 dX4_take_42 (Nat.le_of_ble_eq_true rfl) rfl ⟨_, _, rfl⟩ (by decide) (by decide) rfl rfl (Nat.le_of_ble_eq_true rfl) (fun σ3 h3 => ?_)
        refine i_iinc dX4_take_45 rfl (Nat.le_of_ble_eq_true rfl) ?_
        refine r_goto 3 dX4_take_48 rfl ?_
        subst h3
        refine ih (k + 1) _ _ (by omega) (by omega) (fun z z0 z1 => ?_) (fun a b g => (sup_k _ _ _ _ _ g).trans (hf a b g))
        by_cases hz : z = j + (n - 1 - k)
        · rw [hz, sup_h, if_pos (by omega), h2e, show i + (j + (n - 1 - k) - j) = i + (n - 1 - k) by omega]
        · rw [sup_i _ _ _ _ (by omega), e1 z z0 z1]
          by_cases hc : (j + n - k ≤ z ∧ z < j + n)
          · rw [if_pos hc, if_pos (by omega)]
          · rw [if_neg hc, if_neg (by omega)]

set_option maxRecDepth 20000 in
theorem c_take_24_22 (σ : rl_S) (h2 : 0 ≤ σ 24 2 ∧ σ 24 2 ≤ 2) (i j n : Int) (i0 : 0 ≤ i) (j0 : 0 ≤ j) (n0 : 0 ≤ n) (i1 : i + n ≤ 48) (j1 : j + n ≤ 48)  : Ct cW mX4_take [.ref 24, .ref 22, .int (iI i), .int (iI j), .int (iI n)] σ (qV (tak_24_22 σ i j n)) := by
  refine Ct.of plX4 (Nat.le_of_ble_eq_true rfl) ?_
  refine i_const dX4_take_0 ?_
  refine r_istore dX4_take_1 (Nat.le_of_ble_eq_true rfl) ?_
  by_cases hd : i < j
  · exact c_take_l1_24_22 σ h2 i j n i0 j0 n0 i1 j1 hd n.toNat 0 _ σ (by omega) (by omega) (fun z z0 z1 => by rw [if_neg (by omega)]) (fun _ _ _ => rfl)
  · exact c_take_l0_24_22 σ h2 i j n i0 j0 n0 i1 j1 (by omega) n.toNat 0 _ σ (by omega) (by omega) (fun z z0 z1 => by rw [if_neg (by omega)]) (fun _ _ _ => rfl)

/-- what taking over does -/
def tak_24_24 (σ : rl_S) (i j n : Int) : rl_S → Prop := fun σ2 => (∀ z : Int, 0 ≤ z → z < 48 → σ2 25 z.toNat = if j ≤ z ∧ z < j + n then nar (σ 24 2) (σ 25 (i + (z - j)).toNat) else σ 25 z.toNat) ∧ ∀ k i, k ≠ 25 → σ2 k i = σ k i
theorem c_take_l0_24_24 (σ : rl_S) (h2 : 0 ≤ σ 24 2 ∧ σ 24 2 ≤ 2) (i j n : Int) (i0 : 0 ≤ i) (j0 : 0 ≤ j) (n0 : 0 ≤ n) (i1 : i + n ≤ 48) (j1 : j + n ≤ 48) (hd : j ≤ i) : ∀ (m : Nat) (k : Int) (lx : Value) (σ2 : rl_S), 0 ≤ k → k + m = n → (∀ z : Int, 0 ≤ z → z < 48 → σ2 25 z.toNat = if (j ≤ z ∧ z < j + k) then nar (σ 24 2) (σ 25 (i + (z - j)).toNat) else σ 25 z.toNat) → (∀ k i, k ≠ 25 → σ2 k i = σ k i) → Rn cW mX4_take 3 [.ref 24, .ref 24, .int (iI i), .int (iI j), .int (iI n), .int (iI k), lx] [] σ2 (qV (tak_24_24 σ i j n)) := by
  intro m
  induction m with
  | zero =>
    intro k lx σ2 h0 hk e1 hf
    refine r_iload dX4_take_3 rfl ?_
    refine r_iload dX4_take_5 rfl ?_
    refine i_icmp_ge 51 dX4_take_7 rfl ⟨by omega, by omega⟩ ⟨by omega, by omega⟩ (fun q7 => ?_) (fun q7 => ?_)
    · skip
      refine r_vret rfl dX4_take_51 ?_
      refine ⟨rfl, fun z z0 z1 => ?_, hf⟩
      rw [e1 z z0 z1]
      by_cases hz : j ≤ z ∧ z < j + n
      · rw [if_pos hz, if_pos (by omega)]
      · rw [if_neg hz, if_neg (by omega)]
    · exfalso
      omega
  | succ m ih =>
    intro k lx σ2 h0 hk e1 hf
    have h2e : σ2 24 2 = σ 24 2 := hf 24 2 (by decide)
    have hrd : σ2 25 (i + k).toNat = σ 25 (i + k).toNat := by
      rw [e1 (i + k) (by omega) (by omega), if_neg (by omega)]
    refine r_iload dX4_take_3 rfl ?_
    refine r_iload dX4_take_5 rfl ?_
    refine i_icmp_ge 51 dX4_take_7 rfl ⟨by omega, by omega⟩ ⟨by omega, by omega⟩ (fun q7 => ?_) (fun q7 => ?_)
    · exfalso
      omega
    · skip
      refine r_iload_n dX4_take_10 rfl ?_
      refine r_iload_n dX4_take_11 rfl ?_
      refine i_icmp_le 25 dX4_take_12 rfl ⟨by omega, by omega⟩ ⟨by omega, by omega⟩ (fun q12 => ?_) (fun q12 => ?_)
      · skip
        refine r_iload dX4_take_25 rfl ?_
        refine r_istore dX4_take_27 (Nat.le_of_ble_eq_true rfl) ?_
        refine r_aload_n dX4_take_29 rfl ?_
        refine r_iload_n dX4_take_30 rfl ?_
        refine r_iload dX4_take_31 rfl ?_
        refine i_iadd dX4_take_33 ?_
        refine r_aload_n dX4_take_34 rfl ?_
        refine r_iload_n dX4_take_35 rfl ?_
        refine r_iload dX4_take_36 rfl ?_
        refine i_iadd dX4_take_38 ?_
        refine i_cvP (c_itemAt_24 σ2 (i + k) (by omega) (by omega)) lmX4_30 dX4_take_39 (Nat.le_of_ble_eq_true rfl) rfl ⟨_, _, rfl⟩ (by decide) (by decide) rfl rfl (Nat.le_of_ble_eq_true rfl) ?_
        rw [hrd]
        refine i_cvV (c_store_24 σ2 (by rw [h2e]; exact h2) (j + k) _ (by omega) (by omega)) lmX4_33 dX4_take_42 (Nat.le_of_ble_eq_true rfl) rfl ⟨_, _, rfl⟩ (by decide) (by decide) rfl rfl (Nat.le_of_ble_eq_true rfl) (fun σ3 h3 => ?_)
        refine i_iinc dX4_take_45 rfl (Nat.le_of_ble_eq_true rfl) ?_
        refine r_goto 3 dX4_take_48 rfl ?_
        subst h3
        refine ih (k + 1) _ _ (by omega) (by omega) (fun z z0 z1 => ?_) (fun a b g => (sup_k _ _ _ _ _ g).trans (hf a b g))
        by_cases hz : z = j + k
        · rw [hz, sup_h, if_pos (by omega), h2e, show i + (j + k - j) = i + k by omega]
        · rw [sup_i _ _ _ _ (by omega), e1 z z0 z1]
          by_cases hc : (j ≤ z ∧ z < j + k)
          · rw [if_pos hc, if_pos (by omega)]
          · rw [if_neg hc, if_neg (by omega)]
      · exfalso
        omega

theorem c_take_l1_24_24 (σ : rl_S) (h2 : 0 ≤ σ 24 2 ∧ σ 24 2 ≤ 2) (i j n : Int) (i0 : 0 ≤ i) (j0 : 0 ≤ j) (n0 : 0 ≤ n) (i1 : i + n ≤ 48) (j1 : j + n ≤ 48) (hd : i < j) : ∀ (m : Nat) (k : Int) (lx : Value) (σ2 : rl_S), 0 ≤ k → k + m = n → (∀ z : Int, 0 ≤ z → z < 48 → σ2 25 z.toNat = if (j + n - k ≤ z ∧ z < j + n) then nar (σ 24 2) (σ 25 (i + (z - j)).toNat) else σ 25 z.toNat) → (∀ k i, k ≠ 25 → σ2 k i = σ k i) → Rn cW mX4_take 3 [.ref 24, .ref 24, .int (iI i), .int (iI j), .int (iI n), .int (iI k), lx] [] σ2 (qV (tak_24_24 σ i j n)) := by
  intro m
  induction m with
  | zero =>
    intro k lx σ2 h0 hk e1 hf
    refine r_iload dX4_take_3 rfl ?_
    refine r_iload dX4_take_5 rfl ?_
    refine i_icmp_ge 51 dX4_take_7 rfl ⟨by omega, by omega⟩ ⟨by omega, by omega⟩ (fun q7 => ?_) (fun q7 => ?_)
    · skip
      refine r_vret rfl dX4_take_51 ?_
      refine ⟨rfl, fun z z0 z1 => ?_, hf⟩
      rw [e1 z z0 z1]
      by_cases hz : j ≤ z ∧ z < j + n
      · rw [if_pos hz, if_pos (by omega)]
      · rw [if_neg hz, if_neg (by omega)]
    · exfalso
      omega
  | succ m ih =>
    intro k lx σ2 h0 hk e1 hf
    have h2e : σ2 24 2 = σ 24 2 := hf 24 2 (by decide)
    have hrd : σ2 25 (i + (n - 1 - k)).toNat = σ 25 (i + (n - 1 - k)).toNat := by
      rw [e1 (i + (n - 1 - k)) (by omega) (by omega), if_neg (by omega)]
    refine r_iload dX4_take_3 rfl ?_
    refine r_iload dX4_take_5 rfl ?_
    refine i_icmp_ge 51 dX4_take_7 rfl ⟨by omega, by omega⟩ ⟨by omega, by omega⟩ (fun q7 => ?_) (fun q7 => ?_)
    · exfalso
      omega
    · skip
      refine r_iload_n dX4_take_10 rfl ?_
      refine r_iload_n dX4_take_11 rfl ?_
      refine i_icmp_le 25 dX4_take_12 rfl ⟨by omega, by omega⟩ ⟨by omega, by omega⟩ (fun q12 => ?_) (fun q12 => ?_)
      · exfalso
        omega
      · skip
        refine r_iload dX4_take_15 rfl ?_
        refine i_const dX4_take_17 ?_
        refine i_isub dX4_take_18 ?_
        refine r_iload dX4_take_19 rfl ?_
        refine i_isub dX4_take_21 ?_
        refine r_goto 27 dX4_take_22 rfl ?_
        refine r_istore dX4_take_27 (Nat.le_of_ble_eq_true rfl) ?_
        refine r_aload_n dX4_take_29 rfl ?_
        refine r_iload_n dX4_take_30 rfl ?_
        refine r_iload dX4_take_31 rfl ?_
        refine i_iadd dX4_take_33 ?_
        refine r_aload_n dX4_take_34 rfl ?_
        refine r_iload_n dX4_take_35 rfl ?_
        refine r_iload dX4_take_36 rfl ?_
        refine i_iadd dX4_take_38 ?_
        refine i_cvP (c_itemAt_24 σ2 (i + (n - 1 - k)) (by omega) (by omega)) lmX4_30 dX4_take_39 (Nat.le_of_ble_eq_true rfl) rfl ⟨_, _, rfl⟩ (by decide) (by decide) rfl rfl (Nat.le_of_ble_eq_true rfl) ?_
        rw [hrd]
        refine i_cvV (c_store_24 σ2 (by rw [h2e]; exact h2) (j + (n - 1 - k)) _ (by omega) (by omega)) lmX4_33 dX4_take_42 (Nat.le_of_ble_eq_true rfl) rfl ⟨_, _, rfl⟩ (by decide) (by decide) rfl rfl (Nat.le_of_ble_eq_true rfl) (fun σ3 h3 => ?_)
        refine i_iinc dX4_take_45 rfl (Nat.le_of_ble_eq_true rfl) ?_
        refine r_goto 3 dX4_take_48 rfl ?_
        subst h3
        refine ih (k + 1) _ _ (by omega) (by omega) (fun z z0 z1 => ?_) (fun a b g => (sup_k _ _ _ _ _ g).trans (hf a b g))
        by_cases hz : z = j + (n - 1 - k)
        · rw [hz, sup_h, if_pos (by omega), h2e, show i + (j + (n - 1 - k) - j) = i + (n - 1 - k) by omega]
        · rw [sup_i _ _ _ _ (by omega), e1 z z0 z1]
          by_cases hc : (j + n - k ≤ z ∧ z < j + n)
          · rw [if_pos hc, if_pos (by omega)]
          · rw [if_neg hc, if_neg (by omega)]

set_option maxRecDepth 20000 in
theorem c_take_24_24 (σ : rl_S) (h2 : 0 ≤ σ 24 2 ∧ σ 24 2 ≤ 2) (i j n : Int) (i0 : 0 ≤ i) (j0 : 0 ≤ j) (n0 : 0 ≤ n) (i1 : i + n ≤ 48) (j1 : j + n ≤ 48)  : Ct cW mX4_take [.ref 24, .ref 24, .int (iI i), .int (iI j), .int (iI n)] σ (qV (tak_24_24 σ i j n)) := by
  refine Ct.of plX4 (Nat.le_of_ble_eq_true rfl) ?_
  refine i_const dX4_take_0 ?_
  refine r_istore dX4_take_1 (Nat.le_of_ble_eq_true rfl) ?_
  by_cases hd : i < j
  · exact c_take_l1_24_24 σ h2 i j n i0 j0 n0 i1 j1 hd n.toNat 0 _ σ (by omega) (by omega) (fun z z0 z1 => by rw [if_neg (by omega)]) (fun _ _ _ => rfl)
  · exact c_take_l0_24_24 σ h2 i j n i0 j0 n0 i1 j1 (by omega) n.toNat 0 _ σ (by omega) (by omega) (fun z z0 z1 => by rw [if_neg (by omega)]) (fun _ _ _ => rfl)

/-- what taking over does -/
def tak_24_26 (σ : rl_S) (i j n : Int) : rl_S → Prop := fun σ2 => (∀ z : Int, 0 ≤ z → z < 48 → σ2 25 z.toNat = if j ≤ z ∧ z < j + n then nar (σ 24 2) (σ 27 (i + (z - j)).toNat) else σ 25 z.toNat) ∧ ∀ k i, k ≠ 25 → σ2 k i = σ k i
theorem c_take_l0_24_26 (σ : rl_S) (h2 : 0 ≤ σ 24 2 ∧ σ 24 2 ≤ 2) (i j n : Int) (i0 : 0 ≤ i) (j0 : 0 ≤ j) (n0 : 0 ≤ n) (i1 : i + n ≤ 48) (j1 : j + n ≤ 48) (hd : j ≤ i) : ∀ (m : Nat) (k : Int) (lx : Value) (σ2 : rl_S), 0 ≤ k → k + m = n → (∀ z : Int, 0 ≤ z → z < 48 → σ2 25 z.toNat = if (j ≤ z ∧ z < j + k) then nar (σ 24 2) (σ 27 (i + (z - j)).toNat) else σ 25 z.toNat) → (∀ k i, k ≠ 25 → σ2 k i = σ k i) → Rn cW mX4_take 3 [.ref 24, .ref 26, .int (iI i), .int (iI j), .int (iI n), .int (iI k), lx] [] σ2 (qV (tak_24_26 σ i j n)) := by
  intro m
  induction m with
  | zero =>
    intro k lx σ2 h0 hk e1 hf
    refine r_iload dX4_take_3 rfl ?_
    refine r_iload dX4_take_5 rfl ?_
    refine i_icmp_ge 51 dX4_take_7 rfl ⟨by omega, by omega⟩ ⟨by omega, by omega⟩ (fun q7 => ?_) (fun q7 => ?_)
    · skip
      refine r_vret rfl dX4_take_51 ?_
      refine ⟨rfl, fun z z0 z1 => ?_, hf⟩
      rw [e1 z z0 z1]
      by_cases hz : j ≤ z ∧ z < j + n
      · rw [if_pos hz, if_pos (by omega)]
      · rw [if_neg hz, if_neg (by omega)]
    · exfalso
      omega
  | succ m ih =>
    intro k lx σ2 h0 hk e1 hf
    have h2e : σ2 24 2 = σ 24 2 := hf 24 2 (by decide)
    have hrd : σ2 27 (i + k).toNat = σ 27 (i + k).toNat := hf 27 _ (by decide)
    refine r_iload dX4_take_3 rfl ?_
    refine r_iload dX4_take_5 rfl ?_
    refine i_icmp_ge 51 dX4_take_7 rfl ⟨by omega, by omega⟩ ⟨by omega, by omega⟩ (fun q7 => ?_) (fun q7 => ?_)
    · exfalso
      omega
    · skip
      refine r_iload_n dX4_take_10 rfl ?_
      refine r_iload_n dX4_take_11 rfl ?_
      refine i_icmp_le 25 dX4_take_12 rfl ⟨by omega, by omega⟩ ⟨by omega, by omega⟩ (fun q12 => ?_) (fun q12 => ?_)
      · skip
        refine r_iload dX4_take_25 rfl ?_
        refine r_istore dX4_take_27 (Nat.le_of_ble_eq_true rfl) ?_
        refine r_aload_n dX4_take_29 rfl ?_
        refine r_iload_n dX4_take_30 rfl ?_
        refine r_iload dX4_take_31 rfl ?_
        refine i_iadd dX4_take_33 ?_
        refine r_aload_n dX4_take_34 rfl ?_
        refine r_iload_n dX4_take_35 rfl ?_
        refine r_iload dX4_take_36 rfl ?_
        refine i_iadd dX4_take_38 ?_
        refine i_cvP (c_itemAt_26 σ2 (i + k) (by omega) (by omega)) lmX4_30 dX4_take_39 (Nat.le_of_ble_eq_true rfl) rfl ⟨_, _, rfl⟩ (by decide) (by decide) rfl rfl (Nat.le_of_ble_eq_true rfl) ?_
        rw [hrd]
        refine i_cvV (c_store_24 σ2 (by rw [h2e]; exact h2) (j + k) _ (by omega) (by omega)) lmX4_33 dX4_take_42 (Nat.le_of_ble_eq_true rfl) rfl ⟨_, _, rfl⟩ (by decide) (by decide) rfl rfl (Nat.le_of_ble_eq_true rfl) (fun σ3 h3 => ?_)
        refine i_iinc dX4_take_45 rfl (Nat.le_of_ble_eq_true rfl) ?_
        refine r_goto 3 dX4_take_48 rfl ?_
        subst h3
        refine ih (k + 1) _ _ (by omega) (by omega) (fun z z0 z1 => ?_) (fun a b g => (sup_k _ _ _ _ _ g).trans (hf a b g))
        by_cases hz : z = j + k
        · rw [hz, sup_h, if_pos (by omega), h2e, show i + (j + k - j) = i + k by omega]
        · rw [sup_i _ _ _ _ (by omega), e1 z z0 z1]
          by_cases hc : (j ≤ z ∧ z < j + k)
          · rw [if_pos hc, if_pos (by omega)]
          · rw [if_neg hc, if_neg (by omega)]
      · exfalso
        omega

theorem c_take_l1_24_26 (σ : rl_S) (h2 : 0 ≤ σ 24 2 ∧ σ 24 2 ≤ 2) (i j n : Int) (i0 : 0 ≤ i) (j0 : 0 ≤ j) (n0 : 0 ≤ n) (i1 : i + n ≤ 48) (j1 : j + n ≤ 48) (hd : i < j) : ∀ (m : Nat) (k : Int) (lx : Value) (σ2 : rl_S), 0 ≤ k → k + m = n → (∀ z : Int, 0 ≤ z → z < 48 → σ2 25 z.toNat = if (j + n - k ≤ z ∧ z < j + n) then nar (σ 24 2) (σ 27 (i + (z - j)).toNat) else σ 25 z.toNat) → (∀ k i, k ≠ 25 → σ2 k i = σ k i) → Rn cW mX4_take 3 [.ref 24, .ref 26, .int (iI i), .int (iI j), .int (iI n), .int (iI k), lx] [] σ2 (qV (tak_24_26 σ i j n)) := by
  intro m
  induction m with
  | zero =>
    intro k lx σ2 h0 hk e1 hf
    refine r_iload dX4_take_3 rfl ?_
    refine r_iload dX4_take_5 rfl ?_
    refine i_icmp_ge 51 dX4_take_7 rfl ⟨by omega, by omega⟩ ⟨by omega, by omega⟩ (fun q7 => ?_) (fun q7 => ?_)
    · skip
      refine r_vret rfl dX4_take_51 ?_
      refine ⟨rfl, fun z z0 z1 => ?_, hf⟩
      rw [e1 z z0 z1]
      by_cases hz : j ≤ z ∧ z < j + n
      · rw [if_pos hz, if_pos (by omega)]
      · rw [if_neg hz, if_neg (by omega)]
    · exfalso
      omega
  | succ m ih =>
    intro k lx σ2 h0 hk e1 hf
    have h2e : σ2 24 2 = σ 24 2 := hf 24 2 (by decide)
    have hrd : σ2 27 (i + (n - 1 - k)).toNat = σ 27 (i + (n - 1 - k)).toNat := hf 27 _ (by decide)
    refine r_iload dX4_take_3 rfl ?_
    refine r_iload dX4_take_5 rfl ?_
    refine i_icmp_ge 51 dX4_take_7 rfl ⟨by omega, by omega⟩ ⟨by omega, by omega⟩ (fun q7 => ?_) (fun q7 => ?_)
    · exfalso
      omega
    · skip
      refine r_iload_n dX4_take_10 rfl ?_
      refine r_iload_n dX4_take_11 rfl ?_
      refine i_icmp_le 25 dX4_take_12 rfl ⟨by omega, by omega⟩ ⟨by omega, by omega⟩ (fun q12 => ?_) (fun q12 => ?_)
      · exfalso
        omega
      · skip
        refine r_iload dX4_take_15 rfl ?_
        refine i_const dX4_take_17 ?_
        refine i_isub dX4_take_18 ?_
        refine r_iload dX4_take_19 rfl ?_
        refine i_isub dX4_take_21 ?_
        refine r_goto 27 dX4_take_22 rfl ?_
        refine r_istore dX4_take_27 (Nat.le_of_ble_eq_true rfl) ?_
        refine r_aload_n dX4_take_29 rfl ?_
        refine r_iload_n dX4_take_30 rfl ?_
        refine r_iload dX4_take_31 rfl ?_
        refine i_iadd dX4_take_33 ?_
        refine r_aload_n dX4_take_34 rfl ?_
        refine r_iload_n dX4_take_35 rfl ?_
        refine r_iload dX4_take_36 rfl ?_
        refine i_iadd dX4_take_38 ?_
        refine i_cvP (c_itemAt_26 σ2 (i + (n - 1 - k)) (by omega) (by omega)) lmX4_30 dX4_take_39 (Nat.le_of_ble_eq_true rfl) rfl ⟨_, _, rfl⟩ (by decide) (by decide) rfl rfl (Nat.le_of_ble_eq_true rfl) ?_
        rw [hrd]
        refine i_cvV (c_store_24 σ2 (by rw [h2e]; exact h2) (j + (n - 1 - k)) _ (by omega) (by omega)) lmX4_33 dX4_take_42 (Nat.le_of_ble_eq_true rfl) rfl ⟨_, _, rfl⟩ (by decide) (by decide) rfl rfl (Nat.le_of_ble_eq_true rfl) (fun σ3 h3 => ?_)
        refine i_iinc dX4_take_45 rfl (Nat.le_of_ble_eq_true rfl) ?_
        refine r_goto 3 dX4_take_48 rfl ?_
        subst h3
        refine ih (k + 1) _ _ (by omega) (by omega) (fun z z0 z1 => ?_) (fun a b g => (sup_k _ _ _ _ _ g).trans (hf a b g))
        by_cases hz : z = j + (n - 1 - k)
        · rw [hz, sup_h, if_pos (by omega), h2e, show i + (j + (n - 1 - k) - j) = i + (n - 1 - k) by omega]
        · rw [sup_i _ _ _ _ (by omega), e1 z z0 z1]
          by_cases hc : (j + n - k ≤ z ∧ z < j + n)
          · rw [if_pos hc, if_pos (by omega)]
          · rw [if_neg hc, if_neg (by omega)]

set_option maxRecDepth 20000 in
theorem c_take_24_26 (σ : rl_S) (h2 : 0 ≤ σ 24 2 ∧ σ 24 2 ≤ 2) (i j n : Int) (i0 : 0 ≤ i) (j0 : 0 ≤ j) (n0 : 0 ≤ n) (i1 : i + n ≤ 48) (j1 : j + n ≤ 48)  : Ct cW mX4_take [.ref 24, .ref 26, .int (iI i), .int (iI j), .int (iI n)] σ (qV (tak_24_26 σ i j n)) := by
  refine Ct.of plX4 (Nat.le_of_ble_eq_true rfl) ?_
  refine i_const dX4_take_0 ?_
  refine r_istore dX4_take_1 (Nat.le_of_ble_eq_true rfl) ?_
  by_cases hd : i < j
  · exact c_take_l1_24_26 σ h2 i j n i0 j0 n0 i1 j1 hd n.toNat 0 _ σ (by omega) (by omega) (fun z z0 z1 => by rw [if_neg (by omega)]) (fun _ _ _ => rfl)
  · exact c_take_l0_24_26 σ h2 i j n i0 j0 n0 i1 j1 (by omega) n.toNat 0 _ σ (by omega) (by omega) (fun z z0 z1 => by rw [if_neg (by omega)]) (fun _ _ _ => rfl)

/-- what taking over does -/
def tak_24_28 (σ : rl_S) (i j n : Int) : rl_S → Prop := fun σ2 => (∀ z : Int, 0 ≤ z → z < 48 → σ2 25 z.toNat = if j ≤ z ∧ z < j + n then nar (σ 24 2) (σ 29 (i + (z - j)).toNat) else σ 25 z.toNat) ∧ ∀ k i, k ≠ 25 → σ2 k i = σ k i
theorem c_take_l0_24_28 (σ : rl_S) (h2 : 0 ≤ σ 24 2 ∧ σ 24 2 ≤ 2) (i j n : Int) (i0 : 0 ≤ i) (j0 : 0 ≤ j) (n0 : 0 ≤ n) (i1 : i + n ≤ 48) (j1 : j + n ≤ 48) (hd : j ≤ i) : ∀ (m : Nat) (k : Int) (lx : Value) (σ2 : rl_S), 0 ≤ k → k + m = n → (∀ z : Int, 0 ≤ z → z < 48 → σ2 25 z.toNat = if (j ≤ z ∧ z < j + k) then nar (σ 24 2) (σ 29 (i + (z - j)).toNat) else σ 25 z.toNat) → (∀ k i, k ≠ 25 → σ2 k i = σ k i) → Rn cW mX4_take 3 [.ref 24, .ref 28, .int (iI i), .int (iI j), .int (iI n), .int (iI k), lx] [] σ2 (qV (tak_24_28 σ i j n)) := by
  intro m
  induction m with
  | zero =>
    intro k lx σ2 h0 hk e1 hf
    refine r_iload dX4_take_3 rfl ?_
    refine r_iload dX4_take_5 rfl ?_
    refine i_icmp_ge 51 dX4_take_7 rfl ⟨by omega, by omega⟩ ⟨by omega, by omega⟩ (fun q7 => ?_) (fun q7 => ?_)
    · skip
      refine r_vret rfl dX4_take_51 ?_
      refine ⟨rfl, fun z z0 z1 => ?_, hf⟩
      rw [e1 z z0 z1]
      by_cases hz : j ≤ z ∧ z < j + n
      · rw [if_pos hz, if_pos (by omega)]
      · rw [if_neg hz, if_neg (by omega)]
    · exfalso
      omega
  | succ m ih =>
    intro k lx σ2 h0 hk e1 hf
    have h2e : σ2 24 2 = σ 24 2 := hf 24 2 (by decide)
    have hrd : σ2 29 (i + k).toNat = σ 29 (i + k).toNat := hf 29 _ (by decide)
    refine r_iload dX4_take_3 rfl ?_
    refine r_iload dX4_take_5 rfl ?_
    refine i_icmp_ge 51 dX4_take_7 rfl ⟨by omega, by omega⟩ ⟨by omega, by omega⟩ (fun q7 => ?_) (fun q7 => ?_)
    · exfalso
      omega
    · skip
      refine r_iload_n dX4_take_10 rfl ?_
      refine r_iload_n dX4_take_11 rfl ?_
      refine i_icmp_le 25 dX4_take_12 rfl ⟨by omega, by omega⟩ ⟨by omega, by omega⟩ (fun q12 => ?_) (fun q12 => ?_)
      · skip
        refine r_iload dX4_take_25 rfl ?_
        refine r_istore dX4_take_27 (Nat.le_of_ble_eq_true rfl) ?_
        refine r_aload_n dX4_take_29 rfl ?_
        refine r_iload_n dX4_take_30 rfl ?_
        refine r_iload dX4_take_31 rfl ?_
        refine i_iadd dX4_take_33 ?_
        refine r_aload_n dX4_take_34 rfl ?_
        refine r_iload_n dX4_take_35 rfl ?_
        refine r_iload dX4_take_36 rfl ?_
        refine i_iadd dX4_take_38 ?_
        refine i_cvP (c_itemAt_28 σ2 (i + k) (by omega) (by omega)) lmX4_30 dX4_take_39 (Nat.le_of_ble_eq_true rfl) rfl ⟨_, _, rfl⟩ (by decide) (by decide) rfl rfl (Nat.le_of_ble_eq_true rfl) ?_
        rw [hrd]
        refine i_cvV (c_store_24 σ2 (by rw [h2e]; exact h2) (j + k) _ (by omega) (by omega)) lmX4_33 dX4_take_42 (Nat.le_of_ble_eq_true rfl) rfl ⟨_, _, rfl⟩ (by decide) (by decide) rfl rfl (Nat.le_of_ble_eq_true rfl) (fun σ3 h3 => ?_)
        refine i_iinc dX4_take_45 rfl (Nat.le_of_ble_eq_true rfl) ?_
        refine r_goto 3 dX4_take_48 rfl ?_
        subst h3
        refine ih (k + 1) _ _ (by omega) (by omega) (fun z z0 z1 => ?_) (fun a b g => (sup_k _ _ _ _ _ g).trans (hf a b g))
        by_cases hz : z = j + k
        · rw [hz, sup_h, if_pos (by omega), h2e, show i + (j + k - j) = i + k by omega]
        · rw [sup_i _ _ _ _ (by omega), e1 z z0 z1]
          by_cases hc : (j ≤ z ∧ z < j + k)
          · rw [if_pos hc, if_pos (by omega)]
          · rw [if_neg hc, if_neg (by omega)]
      · exfalso
        omega

theorem c_take_l1_24_28 (σ : rl_S) (h2 : 0 ≤ σ 24 2 ∧ σ 24 2 ≤ 2) (i j n : Int) (i0 : 0 ≤ i) (j0 : 0 ≤ j) (n0 : 0 ≤ n) (i1 : i + n ≤ 48) (j1 : j + n ≤ 48) (hd : i < j) : ∀ (m : Nat) (k : Int) (lx : Value) (σ2 : rl_S), 0 ≤ k → k + m = n → (∀ z : Int, 0 ≤ z → z < 48 → σ2 25 z.toNat = if (j + n - k ≤ z ∧ z < j + n) then nar (σ 24 2) (σ 29 (i + (z - j)).toNat) else σ 25 z.toNat) → (∀ k i, k ≠ 25 → σ2 k i = σ k i) → Rn cW mX4_take 3 [.ref 24, .ref 28, .int (iI i), .int (iI j), .int (iI n), .int (iI k), lx] [] σ2 (qV (tak_24_28 σ i j n)) := by
  intro m
  induction m with
  | zero =>
    intro k lx σ2 h0 hk e1 hf
    refine r_iload dX4_take_3 rfl ?_
    refine r_iload dX4_take_5 rfl ?_
    refine i_icmp_ge 51 dX4_take_7 rfl ⟨by omega, by omega⟩ ⟨by omega, by omega⟩ (fun q7 => ?_) (fun q7 => ?_)
    · skip
      refine r_vret rfl dX4_take_51 ?_
      refine ⟨rfl, fun z z0 z1 => ?_, hf⟩
      rw [e1 z z0 z1]
      by_cases hz : j ≤ z ∧ z < j + n
      · rw [if_pos hz, if_pos (by omega)]
      · rw [if_neg hz, if_neg (by omega)]
    · exfalso
      omega
  | succ m ih =>
    intro k lx σ2 h0 hk e1 hf
    have h2e : σ2 24 2 = σ 24 2 := hf 24 2 (by decide)
    have hrd : σ2 29 (i + (n - 1 - k)).toNat = σ 29 (i + (n - 1 - k)).toNat := hf 29 _ (by decide)
    refine r_iload dX4_take_3 rfl ?_
    refine r_iload dX4_take_5 rfl ?_
    refine i_icmp_ge 51 dX4_take_7 rfl ⟨by omega, by omega⟩ ⟨by omega, by omega⟩ (fun q7 => ?_) (fun q7 => ?_)
    · exfalso
      omega
    · skip
      refine r_iload_n dX4_take_10 rfl ?_
      refine r_iload_n dX4_take_11 rfl ?_
      refine i_icmp_le 25 dX4_take_12 rfl ⟨by omega, by omega⟩ ⟨by omega, by omega⟩ (fun q12 => ?_) (fun q12 => ?_)
      · exfalso
        omega
      · skip
        refine r_iload dX4_take_15 rfl ?_
        refine i_const dX4_take_17 ?_
        refine i_isub dX4_take_18 ?_
        refine r_iload dX4_take_19 rfl ?_
        refine i_isub dX4_take_21 ?_
        refine r_goto 27 dX4_take_22 rfl ?_
        refine r_istore dX4_take_27 (Nat.le_of_ble_eq_true rfl) ?_
        refine r_aload_n dX4_take_29 rfl ?_
        refine r_iload_n dX4_take_30 rfl ?_
        refine r_iload dX4_take_31 rfl ?_
        refine i_iadd dX4_take_33 ?_
        refine r_aload_n dX4_take_34 rfl ?_
        refine r_iload_n dX4_take_35 rfl ?_
        refine r_iload dX4_take_36 rfl ?_
        refine i_iadd dX4_take_38 ?_
        refine i_cvP (c_itemAt_28 σ2 (i + (n - 1 - k)) (by omega) (by omega)) lmX4_30 dX4_take_39 (Nat.le_of_ble_eq_true rfl) rfl ⟨_, _, rfl⟩ (by decide) (by decide) rfl rfl (Nat.le_of_ble_eq_true rfl) ?_
        rw [hrd]
        refine i_cvV (c_store_24 σ2 (by rw [h2e]; exact h2) (j + (n - 1 - k)) _ (by omega) (by omega)) lmX4_33 dX4_take_42 (Nat.le_of_ble_eq_true rfl) rfl ⟨_, _, rfl⟩ (by decide) (by decide) rfl rfl (Nat.le_of_ble_eq_true rfl) (fun σ3 h3 => ?_)
        refine i_iinc dX4_take_45 rfl (Nat.le_of_ble_eq_true rfl) ?_
        refine r_goto 3 dX4_take_48 rfl ?_
        subst h3
        refine ih (k + 1) _ _ (by omega) (by omega) (fun z z0 z1 => ?_) (fun a b g => (sup_k _ _ _ _ _ g).trans (hf a b g))
        by_cases hz : z = j + (n - 1 - k)
        · rw [hz, sup_h, if_pos (by omega), h2e, show i + (j + (n - 1 - k) - j) = i + (n - 1 - k) by omega]
        · rw [sup_i _ _ _ _ (by omega), e1 z z0 z1]
          by_cases hc : (j + n - k ≤ z ∧ z < j + n)
          · rw [if_pos hc, if_pos (by omega)]
          · rw [if_neg hc, if_neg (by omega)]

set_option maxRecDepth 20000 in
theorem c_take_24_28 (σ : rl_S) (h2 : 0 ≤ σ 24 2 ∧ σ 24 2 ≤ 2) (i j n : Int) (i0 : 0 ≤ i) (j0 : 0 ≤ j) (n0 : 0 ≤ n) (i1 : i + n ≤ 48) (j1 : j + n ≤ 48)  : Ct cW mX4_take [.ref 24, .ref 28, .int (iI i), .int (iI j), .int (iI n)] σ (qV (tak_24_28 σ i j n)) := by
  refine Ct.of plX4 (Nat.le_of_ble_eq_true rfl) ?_
  refine i_const dX4_take_0 ?_
  refine r_istore dX4_take_1 (Nat.le_of_ble_eq_true rfl) ?_
  by_cases hd : i < j
  · exact c_take_l1_24_28 σ h2 i j n i0 j0 n0 i1 j1 hd n.toNat 0 _ σ (by omega) (by omega) (fun z z0 z1 => by rw [if_neg (by omega)]) (fun _ _ _ => rfl)
  · exact c_take_l0_24_28 σ h2 i j n i0 j0 n0 i1 j1 (by omega) n.toNat 0 _ σ (by omega) (by omega) (fun z z0 z1 => by rw [if_neg (by omega)]) (fun _ _ _ => rfl)

/-- what taking over does -/
def tak_26_22 (σ : rl_S) (i j n : Int) : rl_S → Prop := fun σ2 => (∀ z : Int, 0 ≤ z → z < 48 → σ2 27 z.toNat = if j ≤ z ∧ z < j + n then nar (σ 26 2) (σ 23 (i + (z - j)).toNat) else σ 27 z.toNat) ∧ ∀ k i, k ≠ 27 → σ2 k i = σ k i
theorem c_take_l0_26_22 (σ : rl_S) (h2 : 0 ≤ σ 26 2 ∧ σ 26 2 ≤ 2) (i j n : Int) (i0 : 0 ≤ i) (j0 : 0 ≤ j) (n0 : 0 ≤ n) (i1 : i + n ≤ 48) (j1 : j + n ≤ 48) (hd : j ≤ i) : ∀ (m : Nat) (k : Int) (lx : Value) (σ2 : rl_S), 0 ≤ k → k + m = n → (∀ z : Int, 0 ≤ z → z < 48 → σ2 27 z.toNat = if (j ≤ z ∧ z < j + k) then nar (σ 26 2) (σ 23 (i + (z - j)).toNat) else σ 27 z.toNat) → (∀ k i, k ≠ 27 → σ2 k i = σ k i) → Rn cW mX4_take 3 [.ref 26, .ref 22, .int (iI i), .int (iI j), .int (iI n), .int (iI k), lx] [] σ2 (qV (tak_26_22 σ i j n)) := by
  intro m
  induction m with
  | zero =>
    intro k lx σ2 h0 hk e1 hf
    refine r_iload dX4_take_3 rfl ?_
    refine r_iload dX4_take_5 rfl ?_
    refine i_icmp_ge 51 dX4_take_7 rfl ⟨by omega, by omega⟩ ⟨by omega, by omega⟩ (fun q7 => ?_) (fun q7 => ?_)
    · skip
      refine r_vret rfl dX4_take_51 ?_
      refine ⟨rfl, fun z z0 z1 => ?_, hf⟩
      rw [e1 z z0 z1]
      by_cases hz : j ≤ z ∧ z < j + n
      · rw [if_pos hz, if_pos (by omega)]
      · rw [if_neg hz, if_neg (by omega)]
    · exfalso
      omega
  | succ m ih =>
    intro k lx σ2 h0 hk e1 hf
    have h2e : σ2 26 2 = σ 26 2 := hf 26 2 (by decide)
    have hrd : σ2 23 (i + k).toNat = σ 23 (i + k).toNat := hf 23 _ (by decide)
    refine r_iload dX4_take_3 rfl ?_
    refine r_iload dX4_take_5 rfl ?_
    refine i_icmp_ge 51 dX4_take_7 rfl ⟨by omega, by omega⟩ ⟨by omega, by omega⟩ (fun q7 => ?_) (fun q7 => ?_)
    · exfalso
      omega
    · skip
      refine r_iload_n dX4_take_10 rfl ?_
      refine r_iload_n dX4_take_11 rfl ?_
      refine i_icmp_le 25 dX4_take_12 rfl ⟨by omega, by omega⟩ ⟨by omega, by omega⟩ (fun q12 => ?_) (fun q12 => ?_)
      · skip
        refine r_iload dX4_take_25 rfl ?_
        refine r_istore dX4_take_27 (Nat.le_of_ble_eq_true rfl) ?_
        refine r_aload_n dX4_take_29 rfl ?_
        refine r_iload_n dX4_take_30 rfl ?_
        refine r_iload dX4_take_31 rfl ?_
        refine i_iadd dX4_take_33 ?_
        refine r_aload_n dX4_take_34 rfl ?_
        refine r_iload_n dX4_take_35 rfl ?_
        refine r_iload dX4_take_36 rfl ?_
        refine i_iadd dX4_take_38 ?_
        refine i_cvP (c_itemAt_22 σ2 (i + k) (by omega) (by omega)) lmX4_30 dX4_take_39 (Nat.le_of_ble_eq_true rfl) rfl ⟨_, _, rfl⟩ (by decide) (by decide) rfl rfl (Nat.le_of_ble_eq_true rfl) ?_
        rw [hrd]
        refine i_cvV (c_store_26 σ2 (by rw [h2e]; exact h2) (j + k) _ (by omega) (by omega)) lmX4_33 dX4_take_42 (Nat.le_of_ble_eq_true rfl) rfl ⟨_, _, rfl⟩ (by decide) (by decide) rfl rfl (Nat.le_of_ble_eq_true rfl) (fun σ3 h3 => ?_)
        refine i_iinc dX4_take_45 rfl (Nat.le_of_ble_eq_true rfl) ?_
        refine r_goto 3 dX4_take_48 rfl ?_
        subst h3
        refine ih (k + 1) _ _ (by omega) (by omega) (fun z z0 z1 => ?_) (fun a b g => (sup_k _ _ _ _ _ g).trans (hf a b g))
        by_cases hz : z = j + k
        · rw [hz, sup_h, if_pos (by omega), h2e, show i + (j + k - j) = i + k by omega]
        · rw [sup_i _ _ _ _ (by omega), e1 z z0 z1]
          by_cases hc : (j ≤ z ∧ z < j + k)
          · rw [if_pos hc, if_pos (by omega)]
          · rw [if_neg hc, if_neg (by omega)]
      · exfalso
        omega

theorem c_take_l1_26_22 (σ : rl_S) (h2 : 0 ≤ σ 26 2 ∧ σ 26 2 ≤ 2) (i j n : Int) (i0 : 0 ≤ i) (j0 : 0 ≤ j) (n0 : 0 ≤ n) (i1 : i + n ≤ 48) (j1 : j + n ≤ 48) (hd : i < j) : ∀ (m : Nat) (k : Int) (lx : Value) (σ2 : rl_S), 0 ≤ k → k + m = n → (∀ z : Int, 0 ≤ z → z < 48 → σ2 27 z.toNat = if (j + n - k ≤ z ∧ z < j + n) then nar (σ 26 2) (σ 23 (i + (z - j)).toNat) else σ 27 z.toNat) → (∀ k i, k ≠ 27 → σ2 k i = σ k i) → Rn cW mX4_take 3 [.ref 26, .ref 22, .int (iI i), .int (iI j), .int (iI n), .int (iI k), lx] [] σ2 (qV (tak_26_22 σ i j n)) := by
  intro m
  induction m with
  | zero =>
    intro k lx σ2 h0 hk e1 hf
    refine r_iload dX4_take_3 rfl ?_
    refine r_iload dX4_take_5 rfl ?_
    refine i_icmp_ge 51 dX4_take_7 rfl ⟨by omega, by omega⟩ ⟨by omega, by omega⟩ (fun q7 => ?_) (fun q7 => ?_)
    · skip
      refine r_vret rfl dX4_take_51 ?_
      refine ⟨rfl, fun z z0 z1 => ?_, hf⟩
      rw [e1 z z0 z1]
      by_cases hz : j ≤ z ∧ z < j + n
      · rw [if_pos hz, if_pos (by omega)]
      · rw [if_neg hz, if_neg (by omega)]
    · exfalso
      omega
  | succ m ih =>
    intro k lx σ2 h0 hk e1 hf
    have h2e : σ2 26 2 = σ 26 2 := hf 26 2 (by decide)
    have hrd : σ2 23 (i + (n - 1 - k)).toNat = σ 23 (i + (n - 1 - k)).toNat := hf 23 _ (by decide)
    refine r_iload dX4_take_3 rfl ?_
    refine r_iload dX4_take_5 rfl ?_
    refine i_icmp_ge 51 dX4_take_7 rfl ⟨by omega, by omega⟩ ⟨by omega, by omega⟩ (fun q7 => ?_) (fun q7 => ?_)
    · exfalso
      omega
    · skip
      refine r_iload_n dX4_take_10 rfl ?_
      refine r_iload_n dX4_take_11 rfl ?_
      refine i_icmp_le 25 dX4_take_12 rfl ⟨by omega, by omega⟩ ⟨by omega, by omega⟩ (fun q12 => ?_) (fun q12 => ?_)
      · exfalso
        omega
      · skip
        refine r_iload dX4_take_15 rfl ?_
        refine i_const dX4_take_17 ?_
        refine i_isub dX4_take_18 ?_
        refine r_iload dX4_take_19 rfl ?_
        refine i_isub dX4_take_21 ?_
        refine r_goto 27 dX4_take_22 rfl ?_
        refine r_istore dX4_take_27 (Nat.le_of_ble_eq_true rfl) ?_
        refine r_aload_n dX4_take_29 rfl ?_
        refine r_iload_n dX4_take_30 rfl ?_
        refine r_iload dX4_take_31 rfl ?_
        refine i_iadd dX4_take_33 ?_
        refine r_aload_n dX4_take_34 rfl ?_
        refine r_iload_n dX4_take_35 rfl ?_
        refine r_iload dX4_take_36 rfl ?_
        refine i_iadd dX4_take_38 ?_
        refine i_cvP (c_itemAt_22 σ2 (i + (n - 1 - k)) (by omega) (by omega)) lmX4_30 dX4_take_39 (Nat.le_of_ble_eq_true rfl) rfl ⟨_, _, rfl⟩ (by decide) (by decide) rfl rfl (Nat.le_of_ble_eq_true rfl) ?_
        rw [hrd]
        refine i_cvV (c_store_26 σ2 (by rw [h2e]; exact h2) (j + (n - 1 - k)) _ (by omega) (by omega)) lmX4_33 dX4_take_42 (Nat.le_of_ble_eq_true rfl) rfl ⟨_, _, rfl⟩ (by decide) (by decide) rfl rfl (Nat.le_of_ble_eq_true rfl) (fun σ3 h3 => ?_)
        refine i_iinc dX4_take_45 rfl (Nat.le_of_ble_eq_true rfl) ?_
        refine r_goto 3 dX4_take_48 rfl ?_
        subst h3
        refine ih (k + 1) _ _ (by omega) (by omega) (fun z z0 z1 => ?_) (fun a b g => (sup_k _ _ _ _ _ g).trans (hf a b g))
        by_cases hz : z = j + (n - 1 - k)
        · rw [hz, sup_h, if_pos (by omega), h2e, show i + (j + (n - 1 - k) - j) = i + (n - 1 - k) by omega]
        · rw [sup_i _ _ _ _ (by omega), e1 z z0 z1]
          by_cases hc : (j + n - k ≤ z ∧ z < j + n)
          · rw [if_pos hc, if_pos (by omega)]
          · rw [if_neg hc, if_neg (by omega)]

set_option maxRecDepth 20000 in
theorem c_take_26_22 (σ : rl_S) (h2 : 0 ≤ σ 26 2 ∧ σ 26 2 ≤ 2) (i j n : Int) (i0 : 0 ≤ i) (j0 : 0 ≤ j) (n0 : 0 ≤ n) (i1 : i + n ≤ 48) (j1 : j + n ≤ 48)  : Ct cW mX4_take [.ref 26, .ref 22, .int (iI i), .int (iI j), .int (iI n)] σ (qV (tak_26_22 σ i j n)) := by
  refine Ct.of plX4 (Nat.le_of_ble_eq_true rfl) ?_
  refine i_const dX4_take_0 ?_
  refine r_istore dX4_take_1 (Nat.le_of_ble_eq_true rfl) ?_
  by_cases hd : i < j
  · exact c_take_l1_26_22 σ h2 i j n i0 j0 n0 i1 j1 hd n.toNat 0 _ σ (by omega) (by omega) (fun z z0 z1 => by rw [if_neg (by omega)]) (fun _ _ _ => rfl)
  · exact c_take_l0_26_22 σ h2 i j n i0 j0 n0 i1 j1 (by omega) n.toNat 0 _ σ (by omega) (by omega) (fun z z0 z1 => by rw [if_neg (by omega)]) (fun _ _ _ => rfl)

/-- what taking over does -/
def tak_26_24 (σ : rl_S) (i j n : Int) : rl_S → Prop := fun σ2 => (∀ z : Int, 0 ≤ z → z < 48 → σ2 27 z.toNat = if j ≤ z ∧ z < j + n then nar (σ 26 2) (σ 25 (i + (z - j)).toNat) else σ 27 z.toNat) ∧ ∀ k i, k ≠ 27 → σ2 k i = σ k i
theorem c_take_l0_26_24 (σ : rl_S) (h2 : 0 ≤ σ 26 2 ∧ σ 26 2 ≤ 2) (i j n : Int) (i0 : 0 ≤ i) (j0 : 0 ≤ j) (n0 : 0 ≤ n) (i1 : i + n ≤ 48) (j1 : j + n ≤ 48) (hd : j ≤ i) : ∀ (m : Nat) (k : Int) (lx : Value) (σ2 : rl_S), 0 ≤ k → k + m = n → (∀ z : Int, 0 ≤ z → z < 48 → σ2 27 z.toNat = if (j ≤ z ∧ z < j + k) then nar (σ 26 2) (σ 25 (i + (z - j)).toNat) else σ 27 z.toNat) → (∀ k i, k ≠ 27 → σ2 k i = σ k i) → Rn cW mX4_take 3 [.ref 26, .ref 24, .int (iI i), .int (iI j), .int (iI n), .int (iI k), lx] [] σ2 (qV (tak_26_24 σ i j n)) := by
  intro m
  induction m with
  | zero =>
    intro k lx σ2 h0 hk e1 hf
    refine r_iload dX4_take_3 rfl ?_
    refine r_iload dX4_take_5 rfl ?_
    refine i_icmp_ge 51 dX4_take_7 rfl ⟨by omega, by omega⟩ ⟨by omega, by omega⟩ (fun q7 => ?_) (fun q7 => ?_)
    · skip
      refine r_vret rfl dX4_take_51 ?_
      refine ⟨rfl, fun z z0 z1 => ?_, hf⟩
      rw [e1 z z0 z1]
      by_cases hz : j ≤ z ∧ z < j + n
      · rw [if_pos hz, if_pos (by omega)]
      · rw [if_neg hz, if_neg (by omega)]
    · exfalso
      omega
  | succ m ih =>
    intro k lx σ2 h0 hk e1 hf
    have h2e : σ2 26 2 = σ 26 2 := hf 26 2 (by decide)
    have hrd : σ2 25 (i + k).toNat = σ 25 (i + k).toNat := hf 25 _ (by decide)
    refine r_iload dX4_take_3 rfl ?_
    refine r_iload dX4_take_5 rfl ?_
    refine i_icmp_ge 51 dX4_take_7 rfl ⟨by omega, by omega⟩ ⟨by omega, by omega⟩ (fun q7 => ?_) (fun q7 => ?_)
    · exfalso
      omega
    · skip
      refine r_iload_n dX4_take_10 rfl ?_
      refine r_iload_n dX4_take_11 rfl ?_
      refine i_icmp_le 25 dX4_take_12 rfl ⟨by omega, by omega⟩ ⟨by omega, by omega⟩ (fun q12 => ?_) (fun q12 => ?_)
      · skip
        refine r_iload dX4_take_25 rfl ?_
        refine r_istore dX4_take_27 (Nat.le_of_ble_eq_true rfl) ?_
        refine r_aload_n dX4_take_29 rfl ?_
        refine r_iload_n dX4_take_30 rfl ?_
        refine r_iload dX4_take_31 rfl ?_
        refine i_iadd dX4_take_33 ?_
        refine r_aload_n dX4_take_34 rfl ?_
        refine r_iload_n dX4_take_35 rfl ?_
        refine r_iload dX4_take_36 rfl ?_
        refine i_iadd dX4_take_38 ?_
        refine i_cvP (c_itemAt_24 σ2 (i + k) (by omega) (by omega)) lmX4_30 dX4_take_39 (Nat.le_of_ble_eq_true rfl) rfl ⟨_, _, rfl⟩ (by decide) (by decide) rfl rfl (Nat.le_of_ble_eq_true rfl) ?_
        rw [hrd]
        refine i_cvV (c_store_26 σ2 (by rw [h2e]; exact h2) (j + k) _ (by omega) (by omega)) lmX4_33 dX4_take_42 (Nat.le_of_ble_eq_true rfl) rfl ⟨_, _, rfl⟩ (by decide) (by decide) rfl rfl (Nat.le_of_ble_eq_true rfl) (fun σ3 h3 => ?_)
        refine i_iinc dX4_take_45 rfl (Nat.le_of_ble_eq_true rfl) ?_
        refine r_goto 3 dX4_take_48 rfl ?_
        subst h3
        refine ih (k + 1) _ _ (by omega) (by omega) (fun z z0 z1 => ?_) (fun a b g => (sup_k _ _ _ _ _ g).trans (hf a b g))
        by_cases hz : z = j + k
        · rw [hz, sup_h, if_pos (by omega), h2e, show i + (j + k - j) = i + k by omega]
        · rw [sup_i _ _ _ _ (by omega), e1 z z0 z1]
          by_cases hc : (j ≤ z ∧ z < j + k)
          · rw [if_pos hc, if_pos (by omega)]
          · rw [if_neg hc, if_neg (by omega)]
      · exfalso
        omega

theorem c_take_l1_26_24 (σ : rl_S) (h2 : 0 ≤ σ 26 2 ∧ σ 26 2 ≤ 2) (i j n : Int) (i0 : 0 ≤ i) (j0 : 0 ≤ j) (n0 : 0 ≤ n) (i1 : i + n ≤ 48) (j1 : j + n ≤ 48) (hd : i < j) : ∀ (m : Nat) (k : Int) (lx : Value) (σ2 : rl_S), 0 ≤ k → k + m = n → (∀ z : Int, 0 ≤ z → z < 48 → σ2 27 z.toNat = if (j + n - k ≤ z ∧ z < j + n) then nar (σ 26 2) (σ 25 (i + (z - j)).toNat) else σ 27 z.toNat) → (∀ k i, k ≠ 27 → σ2 k i = σ k i) → Rn cW mX4_take 3 [.ref 26, .ref 24, .int (iI i), .int (iI j), .int (iI n), .int (iI k), lx] [] σ2 (qV (tak_26_24 σ i j n)) := by
  intro m
  induction m with
  | zero =>
    intro k lx σ2 h0 hk e1 hf
    refine r_iload dX4_take_3 rfl ?_
    refine r_iload dX4_take_5 rfl ?_
    refine i_icmp_ge 51 dX4_take_7 rfl ⟨by omega, by omega⟩ ⟨by omega, by omega⟩ (fun q7 => ?_) (fun q7 => ?_)
    · skip
      refine r_vret rfl dX4_take_51 ?_
      refine ⟨rfl, fun z z0 z1 => ?_, hf⟩
      rw [e1 z z0 z1]
      by_cases hz : j ≤ z ∧ z < j + n
      · rw [if_pos hz, if_pos (by omega)]
      · rw [if_neg hz, if_neg (by omega)]
    · exfalso
      omega
  | succ m ih =>
    intro k lx σ2 h0 hk e1 hf
    have h2e : σ2 26 2 = σ 26 2 := hf 26 2 (by decide)
    have hrd : σ2 25 (i + (n - 1 - k)).toNat = σ 25 (i + (n - 1 - k)).toNat := hf 25 _ (by decide)
    refine r_iload dX4_take_3 rfl ?_
    refine r_iload dX4_take_5 rfl ?_
    refine i_icmp_ge 51 dX4_take_7 rfl ⟨by omega, by omega⟩ ⟨by omega, by omega⟩ (fun q7 => ?_) (fun q7 => ?_)
    · exfalso
      omega
    · skip
      refine r_iload_n dX4_take_10 rfl ?_
      refine r_iload_n dX4_take_11 rfl ?_
      refine i_icmp_le 25 dX4_take_12 rfl ⟨by omega, by omega⟩ ⟨by omega, by omega⟩ (fun q12 => ?_) (fun q12 => ?_)
      · exfalso
        omega
      · skip
        refine r_iload dX4_take_15 rfl ?_
        refine i_const dX4_take_17 ?_
        refine i_isub dX4_take_18 ?_
        refine r_iload dX4_take_19 rfl ?_
        refine i_isub dX4_take_21 ?_
        refine r_goto 27 dX4_take_22 rfl ?_
        refine r_istore dX4_take_27 (Nat.le_of_ble_eq_true rfl) ?_
        refine r_aload_n dX4_take_29 rfl ?_
        refine r_iload_n dX4_take_30 rfl ?_
        refine r_iload dX4_take_31 rfl ?_
        refine i_iadd dX4_take_33 ?_
        refine r_aload_n dX4_take_34 rfl ?_
        refine r_iload_n dX4_take_35 rfl ?_
        refine r_iload dX4_take_36 rfl ?_
        refine i_iadd dX4_take_38 ?_
        refine i_cvP (c_itemAt_24 σ2 (i + (n - 1 - k)) (by omega) (by omega)) lmX4_30 dX4_take_39 (Nat.le_of_ble_eq_true rfl) rfl ⟨_, _, rfl⟩ (by decide) (by decide) rfl rfl (Nat.le_of_ble_eq_true rfl) ?_
        rw [hrd]
        refine i_cvV (c_store_26 σ2 (by rw [h2e]; exact h2) (j + (n - 1 - k)) _ (by omega) (by omega)) lmX4_33 dX4_take_42 (Nat.le_of_ble_eq_true rfl) rfl ⟨_, _, rfl⟩ (by decide) (by decide) rfl rfl (Nat.le_of_ble_eq_true rfl) (fun σ3 h3 => ?_)
        refine i_iinc dX4_take_45 rfl (Nat.le_of_ble_eq_true rfl) ?_
        refine r_goto 3 dX4_take_48 rfl ?_
        subst h3
        refine ih (k + 1) _ _ (by omega) (by omega) (fun z z0 z1 => ?_) (fun a b g => (sup_k _ _ _ _ _ g).trans (hf a b g))
        by_cases hz : z = j + (n - 1 - k)
        · rw [hz, sup_h, if_pos (by omega), h2e, show i + (j + (n - 1 - k) - j) = i + (n - 1 - k) by omega]
        · rw [sup_i _ _ _ _ (by omega), e1 z z0 z1]
          by_cases hc : (j + n - k ≤ z ∧ z < j + n)
          · rw [if_pos hc, if_pos (by omega)]
          · rw [if_neg hc, if_neg (by omega)]

set_option maxRecDepth 20000 in
theorem c_take_26_24 (σ : rl_S) (h2 : 0 ≤ σ 26 2 ∧ σ 26 2 ≤ 2) (i j n : Int) (i0 : 0 ≤ i) (j0 : 0 ≤ j) (n0 : 0 ≤ n) (i1 : i + n ≤ 48) (j1 : j + n ≤ 48)  : Ct cW mX4_take [.ref 26, .ref 24, .int (iI i), .int (iI j), .int (iI n)] σ (qV (tak_26_24 σ i j n)) := by
  refine Ct.of plX4 (Nat.le_of_ble_eq_true rfl) ?_
  refine i_const dX4_take_0 ?_
  refine r_istore dX4_take_1 (Nat.le_of_ble_eq_true rfl) ?_
  by_cases hd : i < j
  · exact c_take_l1_26_24 σ h2 i j n i0 j0 n0 i1 j1 hd n.toNat 0 _ σ (by omega) (by omega) (fun z z0 z1 => by rw [if_neg (by omega)]) (fun _ _ _ => rfl)
  · exact c_take_l0_26_24 σ h2 i j n i0 j0 n0 i1 j1 (by omega) n.toNat 0 _ σ (by omega) (by omega) (fun z z0 z1 => by rw [if_neg (by omega)]) (fun _ _ _ => rfl)

/-- what taking over does -/
def tak_26_26 (σ : rl_S) (i j n : Int) : rl_S → Prop := fun σ2 => (∀ z : Int, 0 ≤ z → z < 48 → σ2 27 z.toNat = if j ≤ z ∧ z < j + n then nar (σ 26 2) (σ 27 (i + (z - j)).toNat) else σ 27 z.toNat) ∧ ∀ k i, k ≠ 27 → σ2 k i = σ k i
theorem c_take_l0_26_26 (σ : rl_S) (h2 : 0 ≤ σ 26 2 ∧ σ 26 2 ≤ 2) (i j n : Int) (i0 : 0 ≤ i) (j0 : 0 ≤ j) (n0 : 0 ≤ n) (i1 : i + n ≤ 48) (j1 : j + n ≤ 48) (hd : j ≤ i) : ∀ (m : Nat) (k : Int) (lx : Value) (σ2 : rl_S), 0 ≤ k → k + m = n → (∀ z : Int, 0 ≤ z → z < 48 → σ2 27 z.toNat = if (j ≤ z ∧ z < j + k) then nar (σ 26 2) (σ 27 (i + (z - j)).toNat) else σ 27 z.toNat) → (∀ k i, k ≠ 27 → σ2 k i = σ k i) → Rn cW mX4_take 3 [.ref 26, .ref 26, .int (iI i), .int (iI j), .int (iI n), .int (iI k), lx] [] σ2 (qV (tak_26_26 σ i j n)) := by
  intro m
  induction m with
  | zero =>
    intro k lx σ2 h0 hk e1 hf
    refine r_iload dX4_take_3 rfl ?_
    refine r_iload dX4_take_5 rfl ?_
    refine i_icmp_ge 51 dX4_take_7 rfl ⟨by omega, by omega⟩ ⟨by omega, by omega⟩ (fun q7 => ?_) (fun q7 => ?_)
    · skip
      refine r_vret rfl dX4_take_51 ?_
      refine ⟨rfl, fun z z0 z1 => ?_, hf⟩
      rw [e1 z z0 z1]
      by_cases hz : j ≤ z ∧ z < j + n
      · rw [if_pos hz, if_pos (by omega)]
      · rw [if_neg hz, if_neg (by omega)]
    · exfalso
      omega
  | succ m ih =>
    intro k lx σ2 h0 hk e1 hf
    have h2e : σ2 26 2 = σ 26 2 := hf 26 2 (by decide)
    have hrd : σ2 27 (i + k).toNat = σ 27 (i + k).toNat := by
      rw [e1 (i + k) (by omega) (by omega), if_neg (by omega)]
    refine r_iload dX4_take_3 rfl ?_
    refine r_iload dX4_take_5 rfl ?_
    refine i_icmp_ge 51 dX4_take_7 rfl ⟨by omega, by omega⟩ ⟨by omega, by omega⟩ (fun q7 => ?_) (fun q7 => ?_)
    · exfalso
      omega
    · skip
      refine r_iload_n dX4_take_10 rfl ?_
      refine r_iload_n dX4_take_11 rfl ?_
      refine i_icmp_le 25 dX4_take_12 rfl ⟨by omega, by omega⟩ ⟨by omega, by omega⟩ (fun q12 => ?_) (fun q12 => ?_)
      · skip
        refine r_iload dX4_take_25 rfl ?_
        refine r_istore dX4_take_27 (Nat.le_of_ble_eq_true rfl) ?_
        refine r_aload_n dX4_take_29 rfl ?_
        refine r_iload_n dX4_take_30 rfl ?_
        refine r_iload dX4_take_31 rfl ?_
        refine i_iadd dX4_take_33 ?_
        refine r_aload_n dX4_take_34 rfl ?_
        refine r_iload_n dX4_take_35 rfl ?_
        refine r_iload dX4_take_36 rfl ?_
        refine i_iadd dX4_take_38 ?_
        refine i_cvP (c_itemAt_26 σ2 (i + k) (by omega) (by omega)) lmX4_30 dX4_take_39 (Nat.le_of_ble_eq_true rfl) rfl ⟨_, _, rfl⟩ (by decide) (by decide) rfl rfl (Nat.le_of_ble_eq_true rfl) ?_
        rw [hrd]
        refine i_cvV (c_store_26 σ2 (by rw [h2e]; exact h2) (j + k) _ (by omega) (by omega)) lmX4_33 dX4_take_42 (Nat.le_of_ble_eq_true rfl) rfl ⟨_, _, rfl⟩ (by decide) (by decide) rfl rfl (Nat.le_of_ble_eq_true rfl) (fun σ3 h3 => ?_)
        refine i_iinc dX4_take_45 rfl (Nat.le_of_ble_eq_true rfl) ?_
        refine r_goto 3 dX4_take_48 rfl ?_
        subst h3
        refine ih (k + 1) _ _ (by omega) (by omega) (fun z z0 z1 => ?_) (fun a b g => (sup_k _ _ _ _ _ g).trans (hf a b g))
        by_cases hz : z = j + k
        · rw [hz, sup_h, if_pos (by omega), h2e, show i + (j + k - j) = i + k by omega]
        · rw [sup_i _ _ _ _ (by omega), e1 z z0 z1]
          by_cases hc : (j ≤ z ∧ z < j + k)
          · rw [if_pos hc, if_pos (by omega)]
          · rw [if_neg hc, if_neg (by omega)]
      · exfalso
        omega

theorem c_take_l1_26_26 (σ : rl_S) (h2 : 0 ≤ σ 26 2 ∧ σ 26 2 ≤ 2) (i j n : Int) (i0 : 0 ≤ i) (j0 : 0 ≤ j) (n0 : 0 ≤ n) (i1 : i + n ≤ 48) (j1 : j + n ≤ 48) (hd : i < j) : ∀ (m : Nat) (k : Int) (lx : Value) (σ2 : rl_S), 0 ≤ k → k + m = n → (∀ z : Int, 0 ≤ z → z < 48 → σ2 27 z.toNat = if (j + n - k ≤ z ∧ z < j + n) then nar (σ 26 2) (σ 27 (i + (z - j)).toNat) else σ 27 z.toNat) → (∀ k i, k ≠ 27 → σ2 k i = σ k i) → Rn cW mX4_take 3 [.ref 26, .ref 26, .int (iI i), .int (iI j), .int (iI n), .int (iI k), lx] [] σ2 (qV (tak_26_26 σ i j n)) := by
  intro m
  induction m with
  | zero =>
    intro k lx σ2 h0 hk e1 hf
    refine r_iload dX4_take_3 rfl ?_
    refine r_iload dX4_take_5 rfl ?_
    refine i_icmp_ge 51 dX4_take_7 rfl ⟨by omega, by omega⟩ ⟨by omega, by omega⟩ (fun q7 => ?_) (fun q7 => ?_)
    · skip
      refine r_vret rfl dX4_take_51 ?_
      refine ⟨rfl, fun z z0 z1 => ?_, hf⟩
      rw [e1 z z0 z1]
      by_cases hz : j ≤ z ∧ z < j + n
      · rw [if_pos hz, if_pos (by omega)]
      · rw [if_neg hz, if_neg (by omega)]
    · exfalso
      omega
  | succ m ih =>
    intro k lx σ2 h0 hk e1 hf
    have h2e : σ2 26 2 = σ 26 2 := hf 26 2 (by decide)
    have hrd : σ2 27 (i + (n - 1 - k)).toNat = σ 27 (i + (n - 1 - k)).toNat := by
      rw [e1 (i + (n - 1 - k)) (by omega) (by omega), if_neg (by omega)]
    refine r_iload dX4_take_3 rfl ?_
    refine r_iload dX4_take_5 rfl ?_
    refine i_icmp_ge 51 dX4_take_7 rfl ⟨by omega, by omega⟩ ⟨by omega, by omega⟩ (fun q7 => ?_) (fun q7 => ?_)
    · exfalso
      omega
    · skip
      refine r_iload_n dX4_take_10 rfl ?_
      refine r_iload_n dX4_take_11 rfl ?_
      refine i_icmp_le 25 dX4_take_12 rfl ⟨by omega, by omega⟩ ⟨by omega, by omega⟩ (fun q12 => ?_) (fun q12 => ?_)
      · exfalso
        omega
      · skip
        refine r_iload dX4_take_15 rfl ?_
        refine i_const dX4_take_17 ?_
        refine i_isub dX4_take_18 ?_
        refine r_iload dX4_take_19 rfl ?_
        refine i_isub dX4_take_21 ?_
        refine r_goto 27 dX4_take_22 rfl ?_
        refine r_istore dX4_take_27 (Nat.le_of_ble_eq_true rfl) ?_
        refine r_aload_n dX4_take_29 rfl ?_
        refine r_iload_n dX4_take_30 rfl ?_
        refine r_iload dX4_take_31 rfl ?_
        refine i_iadd dX4_take_33 ?_
        refine r_aload_n dX4_take_34 rfl ?_
        refine r_iload_n dX4_take_35 rfl ?_
        refine r_iload dX4_take_36 rfl ?_
        refine i_iadd dX4_take_38 ?_
        refine i_cvP (c_itemAt_26 σ2 (i + (n - 1 - k)) (by omega) (by omega)) lmX4_30 dX4_take_39 (Nat.le_of_ble_eq_true rfl) rfl ⟨_, _, rfl⟩ (by decide) (by decide) rfl rfl (Nat.le_of_ble_eq_true rfl) ?_
        rw [hrd]
        refine i_cvV (c_store_26 σ2 (by rw [h2e]; exact h2) (j + (n - 1 - k)) _ (by omega) (by omega)) lmX4_33 dX4_take_42 (Nat.le_of_ble_eq_true rfl) rfl ⟨_, _, rfl⟩ (by decide) (by decide) rfl rfl (Nat.le_of_ble_eq_true rfl) (fun σ3 h3 => ?_)
        refine i_iinc dX4_take_45 rfl (Nat.le_of_ble_eq_true rfl) ?_
        refine r_goto 3 dX4_take_48 rfl ?_
        subst h3
        refine ih (k + 1) _ _ (by omega) (by omega) (fun z z0 z1 => ?_) (fun a b g => (sup_k _ _ _ _ _ g).trans (hf a b g))
        by_cases hz : z = j + (n - 1 - k)
        · rw [hz, sup_h, if_pos (by omega), h2e, show i + (j + (n - 1 - k) - j) = i + (n - 1 - k) by omega]
        · rw [sup_i _ _ _ _ (by omega), e1 z z0 z1]
          by_cases hc : (j + n - k ≤ z ∧ z < j + n)
          · rw [if_pos hc, if_pos (by omega)]
          · rw [if_neg hc, if_neg (by omega)]

set_option maxRecDepth 20000 in
theorem c_take_26_26 (σ : rl_S) (h2 : 0 ≤ σ 26 2 ∧ σ 26 2 ≤ 2) (i j n : Int) (i0 : 0 ≤ i) (j0 : 0 ≤ j) (n0 : 0 ≤ n) (i1 : i + n ≤ 48) (j1 : j + n ≤ 48)  : Ct cW mX4_take [.ref 26, .ref 26, .int (iI i), .int (iI j), .int (iI n)] σ (qV (tak_26_26 σ i j n)) := by
  refine Ct.of plX4 (Nat.le_of_ble_eq_true rfl) ?_
  refine i_const dX4_take_0 ?_
  refine r_istore dX4_take_1 (Nat.le_of_ble_eq_true rfl) ?_
  by_cases hd : i < j
  · exact c_take_l1_26_26 σ h2 i j n i0 j0 n0 i1 j1 hd n.toNat 0 _ σ (by omega) (by omega) (fun z z0 z1 => by rw [if_neg (by omega)]) (fun _ _ _ => rfl)
  · exact c_take_l0_26_26 σ h2 i j n i0 j0 n0 i1 j1 (by omega) n.toNat 0 _ σ (by omega) (by omega) (fun z z0 z1 => by rw [if_neg (by omega)]) (fun _ _ _ => rfl)

/-- what taking over does -/
def tak_26_28 (σ : rl_S) (i j n : Int) : rl_S → Prop := fun σ2 => (∀ z : Int, 0 ≤ z → z < 48 → σ2 27 z.toNat = if j ≤ z ∧ z < j + n then nar (σ 26 2) (σ 29 (i + (z - j)).toNat) else σ 27 z.toNat) ∧ ∀ k i, k ≠ 27 → σ2 k i = σ k i
theorem c_take_l0_26_28 (σ : rl_S) (h2 : 0 ≤ σ 26 2 ∧ σ 26 2 ≤ 2) (i j n : Int) (i0 : 0 ≤ i) (j0 : 0 ≤ j) (n0 : 0 ≤ n) (i1 : i + n ≤ 48) (j1 : j + n ≤ 48) (hd : j ≤ i) : ∀ (m : Nat) (k : Int) (lx : Value) (σ2 : rl_S), 0 ≤ k → k + m = n → (∀ z : Int, 0 ≤ z → z < 48 → σ2 27 z.toNat = if (j ≤ z ∧ z < j + k) then nar (σ 26 2) (σ 29 (i + (z - j)).toNat) else σ 27 z.toNat) → (∀ k i, k ≠ 27 → σ2 k i = σ k i) → Rn cW mX4_take 3 [.ref 26, .ref 28, .int (iI i), .int (iI j), .int (iI n), .int (iI k), lx] [] σ2 (qV (tak_26_28 σ i j n)) := by
  intro m
  induction m with
  | zero =>
    intro k lx σ2 h0 hk e1 hf
    refine r_iload dX4_take_3 rfl ?_
    refine r_iload dX4_take_5 rfl ?_
    refine i_icmp_ge 51 dX4_take_7 rfl ⟨by omega, by omega⟩ ⟨by omega, by omega⟩ (fun q7 => ?_) (fun q7 => ?_)
    · skip
      refine r_vret rfl dX4_take_51 ?_
      refine ⟨rfl, fun z z0 z1 => ?_, hf⟩
      rw [e1 z z0 z1]
      by_cases hz : j ≤ z ∧ z < j + n
      · rw [if_pos hz, if_pos (by omega)]
      · rw [if_neg hz, if_neg (by omega)]
    · exfalso
      omega
  | succ m ih =>
    intro k lx σ2 h0 hk e1 hf
    have h2e : σ2 26 2 = σ 26 2 := hf 26 2 (by decide)
    have hrd : σ2 29 (i + k).toNat = σ 29 (i + k).toNat := hf 29 _ (by decide)
    refine r_iload dX4_take_3 rfl ?_
    refine r_iload dX4_take_5 rfl ?_
    refine i_icmp_ge 51 dX4_take_7 rfl ⟨by omega, by omega⟩ ⟨by omega, by omega⟩ (fun q7 => ?_) (fun q7 => ?_)
    · exfalso
      omega
    · skip
      refine r_iload_n dX4_take_10 rfl ?_
      refine r_iload_n dX4_take_11 rfl ?_
      refine i_icmp_le 25 dX4_take_12 rfl ⟨by omega, by omega⟩ ⟨by omega, by omega⟩ (fun q12 => ?_) (fun q12 => ?_)
      · skip
        refine r_iload dX4_take_25 rfl ?_
        refine r_istore dX4_take_27 (Nat.le_of_ble_eq_true rfl) ?_
        refine r_aload_n dX4_take_29 rfl ?_
        refine r_iload_n dX4_take_30 rfl ?_
        refine r_iload dX4_take_31 rfl ?_
        refine i_iadd dX4_take_33 ?_
        refine r_aload_n dX4_take_34 rfl ?_
        refine r_iload_n dX4_take_35 rfl ?_
        refine r_iload dX4_take_36 rfl ?_
        refine i_iadd dX4_take_38 ?_
        refine i_cvP (c_itemAt_28 σ2 (i + k) (by omega) (by omega)) lmX4_30 dX4_take_39 (Nat.le_of_ble_eq_true rfl) rfl ⟨_, _, rfl⟩ (by decide) (by decide) rfl rfl (Nat.le_of_ble_eq_true rfl) ?_
        rw [hrd]
        refine i_cvV (c_store_26 σ2 (by rw [h2e]; exact h2) (j + k) _ (by omega) (by omega)) lmX4_33 dX4_take_42 (Nat.le_of_ble_eq_true rfl) rfl ⟨_, _, rfl⟩ (by decide) (by decide) rfl rfl (Nat.le_of_ble_eq_true rfl) (fun σ3 h3 => ?_)
        refine i_iinc dX4_take_45 rfl (Nat.le_of_ble_eq_true rfl) ?_
        refine r_goto 3 dX4_take_48 rfl ?_
        subst h3
        refine ih (k + 1) _ _ (by omega) (by omega) (fun z z0 z1 => ?_) (fun a b g => (sup_k _ _ _ _ _ g).trans (hf a b g))
        by_cases hz : z = j + k
        · rw [hz, sup_h, if_pos (by omega), h2e, show i + (j + k - j) = i + k by omega]
        · rw [sup_i _ _ _ _ (by omega), e1 z z0 z1]
          by_cases hc : (j ≤ z ∧ z < j + k)
          · rw [if_pos hc, if_pos (by omega)]
          · rw [if_neg hc, if_neg (by omega)]
      · exfalso
        omega

theorem c_take_l1_26_28 (σ : rl_S) (h2 : 0 ≤ σ 26 2 ∧ σ 26 2 ≤ 2) (i j n : Int) (i0 : 0 ≤ i) (j0 : 0 ≤ j) (n0 : 0 ≤ n) (i1 : i + n ≤ 48) (j1 : j + n ≤ 48) (hd : i < j) : ∀ (m : Nat) (k : Int) (lx : Value) (σ2 : rl_S), 0 ≤ k → k + m = n → (∀ z : Int, 0 ≤ z → z < 48 → σ2 27 z.toNat = if (j + n - k ≤ z ∧ z < j + n) then nar (σ 26 2) (σ 29 (i + (z - j)).toNat) else σ 27 z.toNat) → (∀ k i, k ≠ 27 → σ2 k i = σ k i) → Rn cW mX4_take 3 [.ref 26, .ref 28, .int (iI i), .int (iI j), .int (iI n), .int (iI k), lx] [] σ2 (qV (tak_26_28 σ i j n)) := by
  intro m
  induction m with
  | zero =>
    intro k lx σ2 h0 hk e1 hf
    refine r_iload dX4_take_3 rfl ?_
    refine r_iload dX4_take_5 rfl ?_
    refine i_icmp_ge 51 dX4_take_7 rfl ⟨by omega, by omega⟩ ⟨by omega, by omega⟩ (fun q7 => ?_) (fun q7 => ?_)
    · skip
      refine r_vret rfl dX4_take_51 ?_
      refine ⟨rfl, fun z z0 z1 => ?_, hf⟩
      rw [e1 z z0 z1]
      by_cases hz : j ≤ z ∧ z < j + n
      · rw [if_pos hz, if_pos (by omega)]
      · rw [if_neg hz, if_neg (by omega)]
    · exfalso
      omega
  | succ m ih =>
    intro k lx σ2 h0 hk e1 hf
    have h2e : σ2 26 2 = σ 26 2 := hf 26 2 (by decide)
    have hrd : σ2 29 (i + (n - 1 - k)).toNat = σ 29 (i + (n - 1 - k)).toNat := hf 29 _ (by decide)
    refine r_iload dX4_take_3 rfl ?_
    refine r_iload dX4_take_5 rfl ?_
    refine i_icmp_ge 51 dX4_take_7 rfl ⟨by omega, by omega⟩ ⟨by omega, by omega⟩ (fun q7 => ?_) (fun q7 => ?_)
    · exfalso
      omega
    · skip
      refine r_iload_n dX4_take_10 rfl ?_
      refine r_iload_n dX4_take_11 rfl ?_
      refine i_icmp_le 25 dX4_take_12 rfl ⟨by omega, by omega⟩ ⟨by omega, by omega⟩ (fun q12 => ?_) (fun q12 => ?_)
      · exfalso
        omega
      · skip
        refine r_iload dX4_take_15 rfl ?_
        refine i_const dX4_take_17 ?_
        refine i_isub dX4_take_18 ?_
        refine r_iload dX4_take_19 rfl ?_
        refine i_isub dX4_take_21 ?_
        refine r_goto 27 dX4_take_22 rfl ?_
        refine r_istore dX4_take_27 (Nat.le_of_ble_eq_true rfl) ?_
        refine r_aload_n dX4_take_29 rfl ?_
        refine r_iload_n dX4_take_30 rfl ?_
        refine r_iload dX4_take_31 rfl ?_
        refine i_iadd dX4_take_33 ?_
        refine r_aload_n dX4_take_34 rfl ?_
        refine r_iload_n dX4_take_35 rfl ?_
        refine r_iload dX4_take_36 rfl ?_
        refine i_iadd dX4_take_38 ?_
        refine i_cvP (c_itemAt_28 σ2 (i + (n - 1 - k)) (by omega) (by omega)) lmX4_30 dX4_take_39 (Nat.le_of_ble_eq_true rfl) rfl ⟨_, _, rfl⟩ (by decide) (by decide) rfl rfl (Nat.le_of_ble_eq_true rfl) ?_
        rw [hrd]
        refine i_cvV (c_store_26 σ2 (by rw [h2e]; exact h2) (j + (n - 1 - k)) _ (by omega) (by omega)) lmX4_33 dX4_take_42 (Nat.le_of_ble_eq_true rfl) rfl ⟨_, _, rfl⟩ (by decide) (by decide) rfl rfl (Nat.le_of_ble_eq_true rfl) (fun σ3 h3 => ?_)
        refine i_iinc dX4_take_45 rfl (Nat.le_of_ble_eq_true rfl) ?_
        refine r_goto 3 dX4_take_48 rfl ?_
        subst h3
        refine ih (k + 1) _ _ (by omega) (by omega) (fun z z0 z1 => ?_) (fun a b g => (sup_k _ _ _ _ _ g).trans (hf a b g))
        by_cases hz : z = j + (n - 1 - k)
        · rw [hz, sup_h, if_pos (by omega), h2e, show i + (j + (n - 1 - k) - j) = i + (n - 1 - k) by omega]
        · rw [sup_i _ _ _ _ (by omega), e1 z z0 z1]
          by_cases hc : (j + n - k ≤ z ∧ z < j + n)
          · rw [if_pos hc, if_pos (by omega)]
          · rw [if_neg hc, if_neg (by omega)]

set_option maxRecDepth 20000 in
theorem c_take_26_28 (σ : rl_S) (h2 : 0 ≤ σ 26 2 ∧ σ 26 2 ≤ 2) (i j n : Int) (i0 : 0 ≤ i) (j0 : 0 ≤ j) (n0 : 0 ≤ n) (i1 : i + n ≤ 48) (j1 : j + n ≤ 48)  : Ct cW mX4_take [.ref 26, .ref 28, .int (iI i), .int (iI j), .int (iI n)] σ (qV (tak_26_28 σ i j n)) := by
  refine Ct.of plX4 (Nat.le_of_ble_eq_true rfl) ?_
  refine i_const dX4_take_0 ?_
  refine r_istore dX4_take_1 (Nat.le_of_ble_eq_true rfl) ?_
  by_cases hd : i < j
  · exact c_take_l1_26_28 σ h2 i j n i0 j0 n0 i1 j1 hd n.toNat 0 _ σ (by omega) (by omega) (fun z z0 z1 => by rw [if_neg (by omega)]) (fun _ _ _ => rfl)
  · exact c_take_l0_26_28 σ h2 i j n i0 j0 n0 i1 j1 (by omega) n.toNat 0 _ σ (by omega) (by omega) (fun z z0 z1 => by rw [if_neg (by omega)]) (fun _ _ _ => rfl)

/-- what taking over does -/
def tak_28_22 (σ : rl_S) (i j n : Int) : rl_S → Prop := fun σ2 => (∀ z : Int, 0 ≤ z → z < 48 → σ2 29 z.toNat = if j ≤ z ∧ z < j + n then nar (σ 28 2) (σ 23 (i + (z - j)).toNat) else σ 29 z.toNat) ∧ ∀ k i, k ≠ 29 → σ2 k i = σ k i
theorem c_take_l0_28_22 (σ : rl_S) (h2 : 0 ≤ σ 28 2 ∧ σ 28 2 ≤ 2) (i j n : Int) (i0 : 0 ≤ i) (j0 : 0 ≤ j) (n0 : 0 ≤ n) (i1 : i + n ≤ 48) (j1 : j + n ≤ 48) (hd : j ≤ i) : ∀ (m : Nat) (k : Int) (lx : Value) (σ2 : rl_S), 0 ≤ k → k + m = n → (∀ z : Int, 0 ≤ z → z < 48 → σ2 29 z.toNat = if (j ≤ z ∧ z < j + k) then nar (σ 28 2) (σ 23 (i + (z - j)).toNat) else σ 29 z.toNat) → (∀ k i, k ≠ 29 → σ2 k i = σ k i) → Rn cW mX4_take 3 [.ref 28, .ref 22, .int (iI i), .int (iI j), .int (iI n), .int (iI k), lx] [] σ2 (qV (tak_28_22 σ i j n)) := by
  intro m
  induction m with
  | zero =>
    intro k lx σ2 h0 hk e1 hf
    refine r_iload dX4_take_3 rfl ?_
    refine r_iload dX4_take_5 rfl ?_
    refine i_icmp_ge 51 dX4_take_7 rfl ⟨by omega, by omega⟩ ⟨by omega, by omega⟩ (fun q7 => ?_) (fun q7 => ?_)
    · skip
      refine r_vret rfl dX4_take_51 ?_
      refine ⟨rfl, fun z z0 z1 => ?_, hf⟩
      rw [e1 z z0 z1]
      by_cases hz : j ≤ z ∧ z < j + n
      · rw [if_pos hz, if_pos (by omega)]
      · rw [if_neg hz, if_neg (by omega)]
    · exfalso
      omega
  | succ m ih =>
    intro k lx σ2 h0 hk e1 hf
    have h2e : σ2 28 2 = σ 28 2 := hf 28 2 (by decide)
    have hrd : σ2 23 (i + k).toNat = σ 23 (i + k).toNat := hf 23 _ (by decide)
    refine r_iload dX4_take_3 rfl ?_
    refine r_iload dX4_take_5 rfl ?_
    refine i_icmp_ge 51 dX4_take_7 rfl ⟨by omega, by omega⟩ ⟨by omega, by omega⟩ (fun q7 => ?_) (fun q7 => ?_)
    · exfalso
      omega
    · skip
      refine r_iload_n dX4_take_10 rfl ?_
      refine r_iload_n dX4_take_11 rfl ?_
      refine i_icmp_le 25 dX4_take_12 rfl ⟨by omega, by omega⟩ ⟨by omega, by omega⟩ (fun q12 => ?_) (fun q12 => ?_)
      · skip
        refine r_iload dX4_take_25 rfl ?_
        refine r_istore dX4_take_27 (Nat.le_of_ble_eq_true rfl) ?_
        refine r_aload_n dX4_take_29 rfl ?_
        refine r_iload_n dX4_take_30 rfl ?_
        refine r_iload dX4_take_31 rfl ?_
        refine i_iadd dX4_take_33 ?_
        refine r_aload_n dX4_take_34 rfl ?_
        refine r_iload_n dX4_take_35 rfl ?_
        refine r_iload dX4_take_36 rfl ?_
        refine i_iadd dX4_take_38 ?_
        refine i_cvP (c_itemAt_22 σ2 (i + k) (by omega) (by omega)) lmX4_30 dX4_take_39 (Nat.le_of_ble_eq_true rfl) rfl ⟨_, _, rfl⟩ (by decide) (by decide) rfl rfl (Nat.le_of_ble_eq_true rfl) ?_
        rw [hrd]
        refine i_cvV (c_store_28 σ2 (by rw [h2e]; exact h2) (j + k) _ (by omega) (by omega)) lmX4_33 dX4_take_42 (Nat.le_of_ble_eq_true rfl) rfl ⟨_, _, rfl⟩ (by decide) (by decide) rfl rfl (Nat.le_of_ble_eq_true rfl) (fun σ3 h3 => ?_)
        refine i_iinc dX4_take_45 rfl (Nat.le_of_ble_eq_true rfl) ?_
        refine r_goto 3 dX4_take_48 rfl ?_
        subst h3
        refine ih (k + 1) _ _ (by omega) (by omega) (fun z z0 z1 => ?_) (fun a b g => (sup_k _ _ _ _ _ g).trans (hf a b g))
        by_cases hz : z = j + k
        · rw [hz, sup_h, if_pos (by omega), h2e, show i + (j + k - j) = i + k by omega]
        · rw [sup_i _ _ _ _ (by omega), e1 z z0 z1]
          by_cases hc : (j ≤ z ∧ z < j + k)
          · rw [if_pos hc, if_pos (by omega)]
          · rw [if_neg hc, if_neg (by omega)]
      · exfalso
        omega

theorem c_take_l1_28_22 (σ : rl_S) (h2 : 0 ≤ σ 28 2 ∧ σ 28 2 ≤ 2) (i j n : Int) (i0 : 0 ≤ i) (j0 : 0 ≤ j) (n0 : 0 ≤ n) (i1 : i + n ≤ 48) (j1 : j + n ≤ 48) (hd : i < j) : ∀ (m : Nat) (k : Int) (lx : Value) (σ2 : rl_S), 0 ≤ k → k + m = n → (∀ z : Int, 0 ≤ z → z < 48 → σ2 29 z.toNat = if (j + n - k ≤ z ∧ z < j + n) then nar (σ 28 2) (σ 23 (i + (z - j)).toNat) else σ 29 z.toNat) → (∀ k i, k ≠ 29 → σ2 k i = σ k i) → Rn cW mX4_take 3 [.ref 28, .ref 22, .int (iI i), .int (iI j), .int (iI n), .int (iI k), lx] [] σ2 (qV (tak_28_22 σ i j n)) := by
  intro m
  induction m with
  | zero =>
    intro k lx σ2 h0 hk e1 hf
    refine r_iload dX4_take_3 rfl ?_
    refine r_iload dX4_take_5 rfl ?_
    refine i_icmp_ge 51 dX4_take_7 rfl ⟨by omega, by omega⟩ ⟨by omega, by omega⟩ (fun q7 => ?_) (fun q7 => ?_)
    · skip
      refine r_vret rfl dX4_take_51 ?_
      refine ⟨rfl, fun z z0 z1 => ?_, hf⟩
      rw [e1 z z0 z1]
      by_cases hz : j ≤ z ∧ z < j + n
      · rw [if_pos hz, if_pos (by omega)]
      · rw [if_neg hz, if_neg (by omega)]
    · exfalso
      omega
  | succ m ih =>
    intro k lx σ2 h0 hk e1 hf
    have h2e : σ2 28 2 = σ 28 2 := hf 28 2 (by decide)
    have hrd : σ2 23 (i + (n - 1 - k)).toNat = σ 23 (i + (n - 1 - k)).toNat := hf 23 _ (by decide)
    refine r_iload dX4_take_3 rfl ?_
    refine r_iload dX4_take_5 rfl ?_
    refine i_icmp_ge 51 dX4_take_7 rfl ⟨by omega, by omega⟩ ⟨by omega, by omega⟩ (fun q7 => ?_) (fun q7 => ?_)
    · exfalso
      omega
    · skip
      refine r_iload_n dX4_take_10 rfl ?_
      refine r_iload_n dX4_take_11 rfl ?_
      refine i_icmp_le 25 dX4_take_12 rfl ⟨by omega, by omega⟩ ⟨by omega, by omega⟩ (fun q12 => ?_) (fun q12 => ?_)
      · exfalso
        omega
      · skip
        refine r_iload dX4_take_15 rfl ?_
        refine i_const dX4_take_17 ?_
        refine i_isub dX4_take_18 ?_
        refine r_iload dX4_take_19 rfl ?_
        refine i_isub dX4_take_21 ?_
        refine r_goto 27 dX4_take_22 rfl ?_
        refine r_istore dX4_take_27 (Nat.le_of_ble_eq_true rfl) ?_
        refine r_aload_n dX4_take_29 rfl ?_
        refine r_iload_n dX4_take_30 rfl ?_
        refine r_iload dX4_take_31 rfl ?_
        refine i_iadd dX4_take_33 ?_
        refine r_aload_n dX4_take_34 rfl ?_
        refine r_iload_n dX4_take_35 rfl ?_
        refine r_iload dX4_take_36 rfl ?_
        refine i_iadd dX4_take_38 ?_
        refine i_cvP (c_itemAt_22 σ2 (i + (n - 1 - k)) (by omega) (by omega)) lmX4_30 dX4_take_39 (Nat.le_of_ble_eq_true rfl) rfl ⟨_, _, rfl⟩ (by decide) (by decide) rfl rfl (Nat.le_of_ble_eq_true rfl) ?_
        rw [hrd]
        refine i_cvV (c_store_28 σ2 (by rw [h2e]; exact h2) (j + (n - 1 - k)) _ (by omega) (by omega)) lmX4_33 dX4_take_42 (Nat.le_of_ble_eq_true rfl) rfl ⟨_, _, rfl⟩ (by decide) (by decide) rfl rfl (Nat.le_of_ble_eq_true rfl) (fun σ3 h3 => ?_)
        refine i_iinc dX4_take_45 rfl (Nat.le_of_ble_eq_true rfl) ?_
        refine r_goto 3 dX4_take_48 rfl ?_
        subst h3
        refine ih (k + 1) _ _ (by omega) (by omega) (fun z z0 z1 => ?_) (fun a b g => (sup_k _ _ _ _ _ g).trans (hf a b g))
        by_cases hz : z = j + (n - 1 - k)
        · rw [hz, sup_h, if_pos (by omega), h2e, show i + (j + (n - 1 - k) - j) = i + (n - 1 - k) by omega]
        · rw [sup_i _ _ _ _ (by omega), e1 z z0 z1]
          by_cases hc : (j + n - k ≤ z ∧ z < j + n)
          · rw [if_pos hc, if_pos (by omega)]
          · rw [if_neg hc, if_neg (by omega)]

set_option maxRecDepth 20000 in
theorem c_take_28_22 (σ : rl_S) (h2 : 0 ≤ σ 28 2 ∧ σ 28 2 ≤ 2) (i j n : Int) (i0 : 0 ≤ i) (j0 : 0 ≤ j) (n0 : 0 ≤ n) (i1 : i + n ≤ 48) (j1 : j + n ≤ 48)  : Ct cW mX4_take [.ref 28, .ref 22, .int (iI i), .int (iI j), .int (iI n)] σ (qV (tak_28_22 σ i j n)) := by
  refine Ct.of plX4 (Nat.le_of_ble_eq_true rfl) ?_
  refine i_const dX4_take_0 ?_
  refine r_istore dX4_take_1 (Nat.le_of_ble_eq_true rfl) ?_
  by_cases hd : i < j
  · exact c_take_l1_28_22 σ h2 i j n i0 j0 n0 i1 j1 hd n.toNat 0 _ σ (by omega) (by omega) (fun z z0 z1 => by rw [if_neg (by omega)]) (fun _ _ _ => rfl)
  · exact c_take_l0_28_22 σ h2 i j n i0 j0 n0 i1 j1 (by omega) n.toNat 0 _ σ (by omega) (by omega) (fun z z0 z1 => by rw [if_neg (by omega)]) (fun _ _ _ => rfl)

/-- what taking over does -/
def tak_28_24 (σ : rl_S) (i j n : Int) : rl_S → Prop := fun σ2 => (∀ z : Int, 0 ≤ z → z < 48 → σ2 29 z.toNat = if j ≤ z ∧ z < j + n then nar (σ 28 2) (σ 25 (i + (z - j)).toNat) else σ 29 z.toNat) ∧ ∀ k i, k ≠ 29 → σ2 k i = σ k i
theorem c_take_l0_28_24 (σ : rl_S) (h2 : 0 ≤ σ 28 2 ∧ σ 28 2 ≤ 2) (i j n : Int) (i0 : 0 ≤ i) (j0 : 0 ≤ j) (n0 : 0 ≤ n) (i1 : i + n ≤ 48) (j1 : j + n ≤ 48) (hd : j ≤ i) : ∀ (m : Nat) (k : Int) (lx : Value) (σ2 : rl_S), 0 ≤ k → k + m = n → (∀ z : Int, 0 ≤ z → z < 48 → σ2 29 z.toNat = if (j ≤ z ∧ z < j + k) then nar (σ 28 2) (σ 25 (i + (z - j)).toNat) else σ 29 z.toNat) → (∀ k i, k ≠ 29 → σ2 k i = σ k i) → Rn cW mX4_take 3 [.ref 28, .ref 24, .int (iI i), .int (iI j), .int (iI n), .int (iI k), lx] [] σ2 (qV (tak_28_24 σ i j n)) := by
  intro m
  induction m with
  | zero =>
    intro k lx σ2 h0 hk e1 hf
    refine r_iload dX4_take_3 rfl ?_
    refine r_iload dX4_take_5 rfl ?_
    refine i_icmp_ge 51 dX4_take_7 rfl ⟨by omega, by omega⟩ ⟨by omega, by omega⟩ (fun q7 => ?_) (fun q7 => ?_)
    · skip
      refine r_vret rfl dX4_take_51 ?_
      refine ⟨rfl, fun z z0 z1 => ?_, hf⟩
      rw [e1 z z0 z1]
      by_cases hz : j ≤ z ∧ z < j + n
      · rw [if_pos hz, if_pos (by omega)]
      · rw [if_neg hz, if_neg (by omega)]
    · exfalso
      omega
  | succ m ih =>
    intro k lx σ2 h0 hk e1 hf
    have h2e : σ2 28 2 = σ 28 2 := hf 28 2 (by decide)
    have hrd : σ2 25 (i + k).toNat = σ 25 (i + k).toNat := hf 25 _ (by decide)
    refine r_iload dX4_take_3 rfl ?_
    refine r_iload dX4_take_5 rfl ?_
    refine i_icmp_ge 51 dX4_take_7 rfl ⟨by omega, by omega⟩ ⟨by omega, by omega⟩ (fun q7 => ?_) (fun q7 => ?_)
    · exfalso
      omega
    · skip
      refine r_iload_n dX4_take_10 rfl ?_
      refine r_iload_n dX4_take_11 rfl ?_
      refine i_icmp_le 25 dX4_take_12 rfl ⟨by omega, by omega⟩ ⟨by omega, by omega⟩ (fun q12 => ?_) (fun q12 => ?_)
      · skip
        refine r_iload dX4_take_25 rfl ?_
        refine r_istore dX4_take_27 (Nat.le_of_ble_eq_true rfl) ?_
        refine r_aload_n dX4_take_29 rfl ?_
        refine r_iload_n dX4_take_30 rfl ?_
        refine r_iload dX4_take_31 rfl ?_
        refine i_iadd dX4_take_33 ?_
        refine r_aload_n dX4_take_34 rfl ?_
        refine r_iload_n dX4_take_35 rfl ?_
        refine r_iload dX4_take_36 rfl ?_
        refine i_iadd dX4_take_38 ?_
        refine i_cvP (c_itemAt_24 σ2 (i + k) (by omega) (by omega)) lmX4_30 dX4_take_39 (Nat.le_of_ble_eq_true rfl) rfl ⟨_, _, rfl⟩ (by decide) (by decide) rfl rfl (Nat.le_of_ble_eq_true rfl) ?_
        rw [hrd]
        refine i_cvV (c_store_28 σ2 (by rw [h2e]; exact h2) (j + k) _ (by omega) (by omega)) lmX4_33 dX4_take_42 (Nat.le_of_ble_eq_true rfl) rfl ⟨_, _, rfl⟩ (by decide) (by decide) rfl rfl (Nat.le_of_ble_eq_true rfl) (fun σ3 h3 => ?_)
        refine i_iinc dX4_take_45 rfl (Nat.le_of_ble_eq_true rfl) ?_
        refine r_goto 3 dX4_take_48 rfl ?_
        subst h3
        refine ih (k + 1) _ _ (by omega) (by omega) (fun z z0 z1 => ?_) (fun a b g => (sup_k _ _ _ _ _ g).trans (hf a b g))
        by_cases hz : z = j + k
        · rw [hz, sup_h, if_pos (by omega), h2e, show i + (j + k - j) = i + k by omega]
        · rw [sup_i _ _ _ _ (by omega), e1 z z0 z1]
          by_cases hc : (j ≤ z ∧ z < j + k)
          · rw [if_pos hc, if_pos (by omega)]
          · rw [if_neg hc, if_neg (by omega)]
      · exfalso
        omega

theorem c_take_l1_28_24 (σ : rl_S) (h2 : 0 ≤ σ 28 2 ∧ σ 28 2 ≤ 2) (i j n : Int) (i0 : 0 ≤ i) (j0 : 0 ≤ j) (n0 : 0 ≤ n) (i1 : i + n ≤ 48) (j1 : j + n ≤ 48) (hd : i < j) : ∀ (m : Nat) (k : Int) (lx : Value) (σ2 : rl_S), 0 ≤ k → k + m = n → (∀ z : Int, 0 ≤ z → z < 48 → σ2 29 z.toNat = if (j + n - k ≤ z ∧ z < j + n) then nar (σ 28 2) (σ 25 (i + (z - j)).toNat) else σ 29 z.toNat) → (∀ k i, k ≠ 29 → σ2 k i = σ k i) → Rn cW mX4_take 3 [.ref 28, .ref 24, .int (iI i), .int (iI j), .int (iI n), .int (iI k), lx] [] σ2 (qV (tak_28_24 σ i j n)) := by
  intro m
  induction m with
  | zero =>
    intro k lx σ2 h0 hk e1 hf
    refine r_iload dX4_take_3 rfl ?_
    refine r_iload dX4_take_5 rfl ?_
    refine i_icmp_ge 51 dX4_take_7 rfl ⟨by omega, by omega⟩ ⟨by omega, by omega⟩ (fun q7 => ?_) (fun q7 => ?_)
    · skip
      refine r_vret rfl dX4_take_51 ?_
      refine ⟨rfl, fun z z0 z1 => ?_, hf⟩
      rw [e1 z z0 z1]
      by_cases hz : j ≤ z ∧ z < j + n
      · rw [if_pos hz, if_pos (by omega)]
      · rw [if_neg hz, if_neg (by omega)]
    · exfalso
      omega
  | succ m ih =>
    intro k lx σ2 h0 hk e1 hf
    have h2e : σ2 28 2 = σ 28 2 := hf 28 2 (by decide)
    have hrd : σ2 25 (i + (n - 1 - k)).toNat = σ 25 (i + (n - 1 - k)).toNat := hf 25 _ (by decide)
    refine r_iload dX4_take_3 rfl ?_
    refine r_iload dX4_take_5 rfl ?_
    refine i_icmp_ge 51 dX4_take_7 rfl ⟨by omega, by omega⟩ ⟨by omega, by omega⟩ (fun q7 => ?_) (fun q7 => ?_)
    · exfalso
      omega
    · skip
      refine r_iload_n dX4_take_10 rfl ?_
      refine r_iload_n dX4_take_11 rfl ?_
      refine i_icmp_le 25 dX4_take_12 rfl ⟨by omega, by omega⟩ ⟨by omega, by omega⟩ (fun q12 => ?_) (fun q12 => ?_)
      · exfalso
        omega
      · skip
        refine r_iload dX4_take_15 rfl ?_
        refine i_const dX4_take_17 ?_
        refine i_isub dX4_take_18 ?_
        refine r_iload dX4_take_19 rfl ?_
        refine i_isub dX4_take_21 ?_
        refine r_goto 27 dX4_take_22 rfl ?_
        refine r_istore dX4_take_27 (Nat.le_of_ble_eq_true rfl) ?_
        refine r_aload_n dX4_take_29 rfl ?_
        refine r_iload_n dX4_take_30 rfl ?_
        refine r_iload dX4_take_31 rfl ?_
        refine i_iadd dX4_take_33 ?_
        refine r_aload_n dX4_take_34 rfl ?_
        refine r_iload_n dX4_take_35 rfl ?_
        refine r_iload dX4_take_36 rfl ?_
        refine i_iadd dX4_take_38 ?_
        refine i_cvP (c_itemAt_24 σ2 (i + (n - 1 - k)) (by omega) (by omega)) lmX4_30 dX4_take_39 (Nat.le_of_ble_eq_true rfl) rfl ⟨_, _, rfl⟩ (by decide) (by decide) rfl rfl (Nat.le_of_ble_eq_true rfl) ?_
        rw [hrd]
        refine i_cvV (c_store_28 σ2 (by rw [h2e]; exact h2) (j + (n - 1 - k)) _ (by omega) (by omega)) lmX4_33 dX4_take_42 (Nat.le_of_ble_eq_true rfl) rfl ⟨_, _, rfl⟩ (by decide) (by decide) rfl rfl (Nat.le_of_ble_eq_true rfl) (fun σ3 h3 => ?_)
        refine i_iinc dX4_take_45 rfl (Nat.le_of_ble_eq_true rfl) ?_
        refine r_goto 3 dX4_take_48 rfl ?_
        subst h3
        refine ih (k + 1) _ _ (by omega) (by omega) (fun z z0 z1 => ?_) (fun a b g => (sup_k _ _ _ _ _ g).trans (hf a b g))
        by_cases hz : z = j + (n - 1 - k)
        · rw [hz, sup_h, if_pos (by omega), h2e, show i + (j + (n - 1 - k) - j) = i + (n - 1 - k) by omega]
        · rw [sup_i _ _ _ _ (by omega), e1 z z0 z1]
          by_cases hc : (j + n - k ≤ z ∧ z < j + n)
          · rw [if_pos hc, if_pos (by omega)]
          · rw [if_neg hc, if_neg (by omega)]

set_option maxRecDepth 20000 in
theorem c_take_28_24 (σ : rl_S) (h2 : 0 ≤ σ 28 2 ∧ σ 28 2 ≤ 2) (i j n : Int) (i0 : 0 ≤ i) (j0 : 0 ≤ j) (n0 : 0 ≤ n) (i1 : i + n ≤ 48) (j1 : j + n ≤ 48)  : Ct cW mX4_take [.ref 28, .ref 24, .int (iI i), .int (iI j), .int (iI n)] σ (qV (tak_28_24 σ i j n)) := by
  refine Ct.of plX4 (Nat.le_of_ble_eq_true rfl) ?_
  refine i_const dX4_take_0 ?_
  refine r_istore dX4_take_1 (Nat.le_of_ble_eq_true rfl) ?_
  by_cases hd : i < j
  · exact c_take_l1_28_24 σ h2 i j n i0 j0 n0 i1 j1 hd n.toNat 0 _ σ (by omega) (by omega) (fun z z0 z1 => by rw [if_neg (by omega)]) (fun _ _ _ => rfl)
  · exact c_take_l0_28_24 σ h2 i j n i0 j0 n0 i1 j1 (by omega) n.toNat 0 _ σ (by omega) (by omega) (fun z z0 z1 => by rw [if_neg (by omega)]) (fun _ _ _ => rfl)

/-- what taking over does -/
def tak_28_26 (σ : rl_S) (i j n : Int) : rl_S → Prop := fun σ2 => (∀ z : Int, 0 ≤ z → z < 48 → σ2 29 z.toNat = if j ≤ z ∧ z < j + n then nar (σ 28 2) (σ 27 (i + (z - j)).toNat) else σ 29 z.toNat) ∧ ∀ k i, k ≠ 29 → σ2 k i = σ k i
theorem c_take_l0_28_26 (σ : rl_S) (h2 : 0 ≤ σ 28 2 ∧ σ 28 2 ≤ 2) (i j n : Int) (i0 : 0 ≤ i) (j0 : 0 ≤ j) (n0 : 0 ≤ n) (i1 : i + n ≤ 48) (j1 : j + n ≤ 48) (hd : j ≤ i) : ∀ (m : Nat) (k : Int) (lx : Value) (σ2 : rl_S), 0 ≤ k → k + m = n → (∀ z : Int, 0 ≤ z → z < 48 → σ2 29 z.toNat = if (j ≤ z ∧ z < j + k) then nar (σ 28 2) (σ 27 (i + (z - j)).toNat) else σ 29 z.toNat) → (∀ k i, k ≠ 29 → σ2 k i = σ k i) → Rn cW mX4_take 3 [.ref 28, .ref 26, .int (iI i), .int (iI j), .int (iI n), .int (iI k), lx] [] σ2 (qV (tak_28_26 σ i j n)) := by
  intro m
  induction m with
  | zero =>
    intro k lx σ2 h0 hk e1 hf
    refine r_iload dX4_take_3 rfl ?_
    refine r_iload dX4_take_5 rfl ?_
    refine i_icmp_ge 51 dX4_take_7 rfl ⟨by omega, by omega⟩ ⟨by omega, by omega⟩ (fun q7 => ?_) (fun q7 => ?_)
    · skip
      refine r_vret rfl dX4_take_51 ?_
      refine ⟨rfl, fun z z0 z1 => ?_, hf⟩
      rw [e1 z z0 z1]
      by_cases hz : j ≤ z ∧ z < j + n
      · rw [if_pos hz, if_pos (by omega)]
      · rw [if_neg hz, if_neg (by omega)]
    · exfalso
      omega
  | succ m ih =>
    intro k lx σ2 h0 hk e1 hf
    have h2e : σ2 28 2 = σ 28 2 := hf 28 2 (by decide)
    have hrd : σ2 27 (i + k).toNat = σ 27 (i + k).toNat := hf 27 _ (by decide)
    refine r_iload dX4_take_3 rfl ?_
    refine r_iload dX4_take_5 rfl ?_
    refine i_icmp_ge 51 dX4_take_7 rfl ⟨by omega, by omega⟩ ⟨by omega, by omega⟩ (fun q7 => ?_) (fun q7 => ?_)
    · exfalso
      omega
    · skip
      refine r_iload_n dX4_take_10 rfl ?_
      refine r_iload_n dX4_take_11 rfl ?_
      refine i_icmp_le 25 dX4_take_12 rfl ⟨by omega, by omega⟩ ⟨by omega, by omega⟩ (fun q12 => ?_) (fun q12 => ?_)
      · skip
        refine r_iload dX4_take_25 rfl ?_
        refine r_istore dX4_take_27 (Nat.le_of_ble_eq_true rfl) ?_
        refine r_aload_n dX4_take_29 rfl ?_
        refine r_iload_n dX4_take_30 rfl ?_
        refine r_iload dX4_take_31 rfl ?_
        refine i_iadd dX4_take_33 ?_
        refine r_aload_n dX4_take_34 rfl ?_
        refine r_iload_n dX4_take_35 rfl ?_
        refine r_iload dX4_take_36 rfl ?_
        refine i_iadd dX4_take_38 ?_
        refine i_cvP (c_itemAt_26 σ2 (i + k) (by omega) (by omega)) lmX4_30 dX4_take_39 (Nat.le_of_ble_eq_true rfl) rfl ⟨_, _, rfl⟩ (by decide) (by decide) rfl rfl (Nat.le_of_ble_eq_true rfl) ?_
        rw [hrd]
        refine i_cvV (c_store_28 σ2 (by rw [h2e]; exact h2) (j + k) _ (by omega) (by omega)) lmX4_33 dX4_take_42 (Nat.le_of_ble_eq_true rfl) rfl ⟨_, _, rfl⟩ (by decide) (by decide) rfl rfl (Nat.le_of_ble_eq_true rfl) (fun σ3 h3 => ?_)
        refine i_iinc dX4_take_45 rfl (Nat.le_of_ble_eq_true rfl) ?_
        refine r_goto 3 dX4_take_48 rfl ?_
        subst h3
        refine ih (k + 1) _ _ (by omega) (by omega) (fun z z0 z1 => ?_) (fun a b g => (sup_k _ _ _ _ _ g).trans (hf a b g))
        by_cases hz : z = j + k
        · rw [hz, sup_h, if_pos (by omega), h2e, show i + (j + k - j) = i + k by omega]
        · rw [sup_i _ _ _ _ (by omega), e1 z z0 z1]
          by_cases hc : (j ≤ z ∧ z < j + k)
          · rw [if_pos hc, if_pos (by omega)]
          · rw [if_neg hc, if_neg (by omega)]
      · exfalso
        omega

theorem c_take_l1_28_26 (σ : rl_S) (h2 : 0 ≤ σ 28 2 ∧ σ 28 2 ≤ 2) (i j n : Int) (i0 : 0 ≤ i) (j0 : 0 ≤ j) (n0 : 0 ≤ n) (i1 : i + n ≤ 48) (j1 : j + n ≤ 48) (hd : i < j) : ∀ (m : Nat) (k : Int) (lx : Value) (σ2 : rl_S), 0 ≤ k → k + m = n → (∀ z : Int, 0 ≤ z → z < 48 → σ2 29 z.toNat = if (j + n - k ≤ z ∧ z < j + n) then nar (σ 28 2) (σ 27 (i + (z - j)).toNat) else σ 29 z.toNat) → (∀ k i, k ≠ 29 → σ2 k i = σ k i) → Rn cW mX4_take 3 [.ref 28, .ref 26, .int (iI i), .int (iI j), .int (iI n), .int (iI k), lx] [] σ2 (qV (tak_28_26 σ i j n)) := by
  intro m
  induction m with
  | zero =>
    intro k lx σ2 h0 hk e1 hf
    refine r_iload dX4_take_3 rfl ?_
    refine r_iload dX4_take_5 rfl ?_
    refine i_icmp_ge 51 dX4_take_7 rfl ⟨by omega, by omega⟩ ⟨by omega, by omega⟩ (fun q7 => ?_) (fun q7 => ?_)
    · skip
      refine r_vret rfl dX4_take_51 ?_
      refine ⟨rfl, fun z z0 z1 => ?_, hf⟩
      rw [e1 z z0 z1]
      by_cases hz : j ≤ z ∧ z < j + n
      · rw [if_pos hz, if_pos (by omega)]
      · rw [if_neg hz, if_neg (by omega)]
    · exfalso
      omega
  | succ m ih =>
    intro k lx σ2 h0 hk e1 hf
    have h2e : σ2 28 2 = σ 28 2 := hf 28 2 (by decide)
    have hrd : σ2 27 (i + (n - 1 - k)).toNat = σ 27 (i + (n - 1 - k)).toNat := hf 27 _ (by decide)
    refine r_iload dX4_take_3 rfl ?_
    refine r_iload dX4_take_5 rfl ?_
    refine i_icmp_ge 51 dX4_take_7 rfl ⟨by omega, by omega⟩ ⟨by omega, by omega⟩ (fun q7 => ?_) (fun q7 => ?_)
    · exfalso
      omega
    · skip
      refine r_iload_n dX4_take_10 rfl ?_
      refine r_iload_n dX4_take_11 rfl ?_
      refine i_icmp_le 25 dX4_take_12 rfl ⟨by omega, by omega⟩ ⟨by omega, by omega⟩ (fun q12 => ?_) (fun q12 => ?_)
      · exfalso
        omega
      · skip
        refine r_iload dX4_take_15 rfl ?_
        refine i_const dX4_take_17 ?_
        refine i_isub dX4_take_18 ?_
        refine r_iload dX4_take_19 rfl ?_
        refine i_isub dX4_take_21 ?_
        refine r_goto 27 dX4_take_22 rfl ?_
        refine r_istore dX4_take_27 (Nat.le_of_ble_eq_true rfl) ?_
        refine r_aload_n dX4_take_29 rfl ?_
        refine r_iload_n dX4_take_30 rfl ?_
        refine r_iload dX4_take_31 rfl ?_
        refine i_iadd dX4_take_33 ?_
        refine r_aload_n dX4_take_34 rfl ?_
        refine r_iload_n dX4_take_35 rfl ?_
        refine r_iload dX4_take_36 rfl ?_
        refine i_iadd dX4_take_38 ?_
        refine i_cvP (c_itemAt_26 σ2 (i + (n - 1 - k)) (by omega) (by omega)) lmX4_30 dX4_take_39 (Nat.le_of_ble_eq_true rfl) rfl ⟨_, _, rfl⟩ (by decide) (by decide) rfl rfl (Nat.le_of_ble_eq_true rfl) ?_
        rw [hrd]
        refine i_cvV (c_store_28 σ2 (by rw [h2e]; exact h2) (j + (n - 1 - k)) _ (by omega) (by omega)) lmX4_33 dX4_take_42 (Nat.le_of_ble_eq_true rfl) rfl ⟨_, _, rfl⟩ (by decide) (by decide) rfl rfl (Nat.le_of_ble_eq_true rfl) (fun σ3 h3 => ?_)
        refine i_iinc dX4_take_45 rfl (Nat.le_of_ble_eq_true rfl) ?_
        refine r_goto 3 dX4_take_48 rfl ?_
        subst h3
        refine ih (k + 1) _ _ (by omega) (by omega) (fun z z0 z1 => ?_) (fun a b g => (sup_k _ _ _ _ _ g).trans (hf a b g))
        by_cases hz : z = j + (n - 1 - k)
        · rw [hz, sup_h, if_pos (by omega), h2e, show i + (j + (n - 1 - k) - j) = i + (n - 1 - k) by omega]
        · rw [sup_i _ _ _ _ (by omega), e1 z z0 z1]
          by_cases hc : (j + n - k ≤ z ∧ z < j + n)
          · rw [if_pos hc, if_pos (by omega)]
          · rw [if_neg hc, if_neg (by omega)]

set_option maxRecDepth 20000 in
theorem c_take_28_26 (σ : rl_S) (h2 : 0 ≤ σ 28 2 ∧ σ 28 2 ≤ 2) (i j n : Int) (i0 : 0 ≤ i) (j0 : 0 ≤ j) (n0 : 0 ≤ n) (i1 : i + n ≤ 48) (j1 : j + n ≤ 48)  : Ct cW mX4_take [.ref 28, .ref 26, .int (iI i), .int (iI j), .int (iI n)] σ (qV (tak_28_26 σ i j n)) := by
  refine Ct.of plX4 (Nat.le_of_ble_eq_true rfl) ?_
  refine i_const dX4_take_0 ?_
  refine r_istore dX4_take_1 (Nat.le_of_ble_eq_true rfl) ?_
  by_cases hd : i < j
  · exact c_take_l1_28_26 σ h2 i j n i0 j0 n0 i1 j1 hd n.toNat 0 _ σ (by omega) (by omega) (fun z z0 z1 => by rw [if_neg (by omega)]) (fun _ _ _ => rfl)
  · exact c_take_l0_28_26 σ h2 i j n i0 j0 n0 i1 j1 (by omega) n.toNat 0 _ σ (by omega) (by omega) (fun z z0 z1 => by rw [if_neg (by omega)]) (fun _ _ _ => rfl)

/-- what taking over does -/
def tak_28_28 (σ : rl_S) (i j n : Int) : rl_S → Prop := fun σ2 => (∀ z : Int, 0 ≤ z → z < 48 → σ2 29 z.toNat = if j ≤ z ∧ z < j + n then nar (σ 28 2) (σ 29 (i + (z - j)).toNat) else σ 29 z.toNat) ∧ ∀ k i, k ≠ 29 → σ2 k i = σ k i
theorem c_take_l0_28_28 (σ : rl_S) (h2 : 0 ≤ σ 28 2 ∧ σ 28 2 ≤ 2) (i j n : Int) (i0 : 0 ≤ i) (j0 : 0 ≤ j) (n0 : 0 ≤ n) (i1 : i + n ≤ 48) (j1 : j + n ≤ 48) (hd : j ≤ i) : ∀ (m : Nat) (k : Int) (lx : Value) (σ2 : rl_S), 0 ≤ k → k + m = n → (∀ z : Int, 0 ≤ z → z < 48 → σ2 29 z.toNat = if (j ≤ z ∧ z < j + k) then nar (σ 28 2) (σ 29 (i + (z - j)).toNat) else σ 29 z.toNat) → (∀ k i, k ≠ 29 → σ2 k i = σ k i) → Rn cW mX4_take 3 [.ref 28, .ref 28, .int (iI i), .int (iI j), .int (iI n), .int (iI k), lx] [] σ2 (qV (tak_28_28 σ i j n)) := by
  intro m
  induction m with
  | zero =>
    intro k lx σ2 h0 hk e1 hf
    refine r_iload dX4_take_3 rfl ?_
    refine r_iload dX4_take_5 rfl ?_
    refine i_icmp_ge 51 dX4_take_7 rfl ⟨by omega, by omega⟩ ⟨by omega, by omega⟩ (fun q7 => ?_) (fun q7 => ?_)
    · skip
      refine r_vret rfl dX4_take_51 ?_
      refine ⟨rfl, fun z z0 z1 => ?_, hf⟩
      rw [e1 z z0 z1]
      by_cases hz : j ≤ z ∧ z < j + n
      · rw [if_pos hz, if_pos (by omega)]
      · rw [if_neg hz, if_neg (by omega)]
    · exfalso
      omega
  | succ m ih =>
    intro k lx σ2 h0 hk e1 hf
    have h2e : σ2 28 2 = σ 28 2 := hf 28 2 (by decide)
    have hrd : σ2 29 (i + k).toNat = σ 29 (i + k).toNat := by
      rw [e1 (i + k) (by omega) (by omega), if_neg (by omega)]
    refine r_iload dX4_take_3 rfl ?_
    refine r_iload dX4_take_5 rfl ?_
    refine i_icmp_ge 51 dX4_take_7 rfl ⟨by omega, by omega⟩ ⟨by omega, by omega⟩ (fun q7 => ?_) (fun q7 => ?_)
    · exfalso
      omega
    · skip
      refine r_iload_n dX4_take_10 rfl ?_
      refine r_iload_n dX4_take_11 rfl ?_
      refine i_icmp_le 25 dX4_take_12 rfl ⟨by omega, by omega⟩ ⟨by omega, by omega⟩ (fun q12 => ?_) (fun q12 => ?_)
      · skip
        refine r_iload dX4_take_25 rfl ?_
        refine r_istore dX4_take_27 (Nat.le_of_ble_eq_true rfl) ?_
        refine r_aload_n dX4_take_29 rfl ?_
        refine r_iload_n dX4_take_30 rfl ?_
        refine r_iload dX4_take_31 rfl ?_
        refine i_iadd dX4_take_33 ?_
        refine r_aload_n dX4_take_34 rfl ?_
        refine r_iload_n dX4_take_35 rfl ?_
        refine r_iload dX4_take_36 rfl ?_
        refine i_iadd dX4_take_38 ?_
        refine i_cvP (c_itemAt_28 σ2 (i + k) (by omega) (by omega)) lmX4_30 dX4_take_39 (Nat.le_of_ble_eq_true rfl) rfl ⟨_, _, rfl⟩ (by decide) (by decide) rfl rfl (Nat.le_of_ble_eq_true rfl) ?_
        rw [hrd]
        refine i_cvV (c_store_28 σ2 (by rw [h2e]; exact h2) (j + k) _ (by omega) (by omega)) lmX4_33 dX4_take_42 (Nat.le_of_ble_eq_true rfl) rfl ⟨_, _, rfl⟩ (by decide) (by decide) rfl rfl (Nat.le_of_ble_eq_true rfl) (fun σ3 h3 => ?_)
        refine i_iinc dX4_take_45 rfl (Nat.le_of_ble_eq_true rfl) ?_
        refine r_goto 3 dX4_take_48 rfl ?_
        subst h3
        refine ih (k + 1) _ _ (by omega) (by omega) (fun z z0 z1 => ?_) (fun a b g => (sup_k _ _ _ _ _ g).trans (hf a b g))
        by_cases hz : z = j + k
        · rw [hz, sup_h, if_pos (by omega), h2e, show i + (j + k - j) = i + k by omega]
        · rw [sup_i _ _ _ _ (by omega), e1 z z0 z1]
          by_cases hc : (j ≤ z ∧ z < j + k)
          · rw [if_pos hc, if_pos (by omega)]
          · rw [if_neg hc, if_neg (by omega)]
      · exfalso
        omega

theorem c_take_l1_28_28 (σ : rl_S) (h2 : 0 ≤ σ 28 2 ∧ σ 28 2 ≤ 2) (i j n : Int) (i0 : 0 ≤ i) (j0 : 0 ≤ j) (n0 : 0 ≤ n) (i1 : i + n ≤ 48) (j1 : j + n ≤ 48) (hd : i < j) : ∀ (m : Nat) (k : Int) (lx : Value) (σ2 : rl_S), 0 ≤ k → k + m = n → (∀ z : Int, 0 ≤ z → z < 48 → σ2 29 z.toNat = if (j + n - k ≤ z ∧ z < j + n) then nar (σ 28 2) (σ 29 (i + (z - j)).toNat) else σ 29 z.toNat) → (∀ k i, k ≠ 29 → σ2 k i = σ k i) → Rn cW mX4_take 3 [.ref 28, .ref 28, .int (iI i), .int (iI j), .int (iI n), .int (iI k), lx] [] σ2 (qV (tak_28_28 σ i j n)) := by
  intro m
  induction m with
  | zero =>
    intro k lx σ2 h0 hk e1 hf
    refine r_iload dX4_take_3 rfl ?_
    refine r_iload dX4_take_5 rfl ?_
    refine i_icmp_ge 51 dX4_take_7 rfl ⟨by omega, by omega⟩ ⟨by omega, by omega⟩ (fun q7 => ?_) (fun q7 => ?_)
    · skip
      refine r_vret rfl dX4_take_51 ?_
      refine ⟨rfl, fun z z0 z1 => ?_, hf⟩
      rw [e1 z z0 z1]
      by_cases hz : j ≤ z ∧ z < j + n
      · rw [if_pos hz, if_pos (by omega)]
      · rw [if_neg hz, if_neg (by omega)]
    · exfalso
      omega
  | succ m ih =>
    intro k lx σ2 h0 hk e1 hf
    have h2e : σ2 28 2 = σ 28 2 := hf 28 2 (by decide)
    have hrd : σ2 29 (i + (n - 1 - k)).toNat = σ 29 (i + (n - 1 - k)).toNat := by
      rw [e1 (i + (n - 1 - k)) (by omega) (by omega), if_neg (by omega)]
    refine r_iload dX4_take_3 rfl ?_
    refine r_iload dX4_take_5 rfl ?_
    refine i_icmp_ge 51 dX4_take_7 rfl ⟨by omega, by omega⟩ ⟨by omega, by omega⟩ (fun q7 => ?_) (fun q7 => ?_)
    · exfalso
      omega
    · skip
      refine r_iload_n dX4_take_10 rfl ?_
      refine r_iload_n dX4_take_11 rfl ?_
      refine i_icmp_le 25 dX4_take_12 rfl ⟨by omega, by omega⟩ ⟨by omega, by omega⟩ (fun q12 => ?_) (fun q12 => ?_)
      · exfalso
        omega
      · skip
        refine r_iload dX4_take_15 rfl ?_
        refine i_const dX4_take_17 ?_
        refine i_isub dX4_take_18 ?_
        refine r_iload dX4_take_19 rfl ?_
        refine i_isub dX4_take_21 ?_
        refine r_goto 27 dX4_take_22 rfl ?_
        refine r_istore dX4_take_27 (Nat.le_of_ble_eq_true rfl) ?_
        refine r_aload_n dX4_take_29 rfl ?_
        refine r_iload_n dX4_take_30 rfl ?_
        refine r_iload dX4_take_31 rfl ?_
        refine i_iadd dX4_take_33 ?_
        refine r_aload_n dX4_take_34 rfl ?_
        refine r_iload_n dX4_take_35 rfl ?_
        refine r_iload dX4_take_36 rfl ?_
        refine i_iadd dX4_take_38 ?_
        refine i_cvP (c_itemAt_28 σ2 (i + (n - 1 - k)) (by omega) (by omega)) lmX4_30 dX4_take_39 (Nat.le_of_ble_eq_true rfl) rfl ⟨_, _, rfl⟩ (by decide) (by decide) rfl rfl (Nat.le_of_ble_eq_true rfl) ?_
        rw [hrd]
        refine i_cvV (c_store_28 σ2 (by rw [h2e]; exact h2) (j + (n - 1 - k)) _ (by omega) (by omega)) lmX4_33 dX4_take_42 (Nat.le_of_ble_eq_true rfl) rfl ⟨_, _, rfl⟩ (by decide) (by decide) rfl rfl (Nat.le_of_ble_eq_true rfl) (fun σ3 h3 => ?_)
        refine i_iinc dX4_take_45 rfl (Nat.le_of_ble_eq_true rfl) ?_
        refine r_goto 3 dX4_take_48 rfl ?_
        subst h3
        refine ih (k + 1) _ _ (by omega) (by omega) (fun z z0 z1 => ?_) (fun a b g => (sup_k _ _ _ _ _ g).trans (hf a b g))
        by_cases hz : z = j + (n - 1 - k)
        · rw [hz, sup_h, if_pos (by omega), h2e, show i + (j + (n - 1 - k) - j) = i + (n - 1 - k) by omega]
        · rw [sup_i _ _ _ _ (by omega), e1 z z0 z1]
          by_cases hc : (j + n - k ≤ z ∧ z < j + n)
          · rw [if_pos hc, if_pos (by omega)]
          · rw [if_neg hc, if_neg (by omega)]

set_option maxRecDepth 20000 in
theorem c_take_28_28 (σ : rl_S) (h2 : 0 ≤ σ 28 2 ∧ σ 28 2 ≤ 2) (i j n : Int) (i0 : 0 ≤ i) (j0 : 0 ≤ j) (n0 : 0 ≤ n) (i1 : i + n ≤ 48) (j1 : j + n ≤ 48)  : Ct cW mX4_take [.ref 28, .ref 28, .int (iI i), .int (iI j), .int (iI n)] σ (qV (tak_28_28 σ i j n)) := by
  refine Ct.of plX4 (Nat.le_of_ble_eq_true rfl) ?_
  refine i_const dX4_take_0 ?_
  refine r_istore dX4_take_1 (Nat.le_of_ble_eq_true rfl) ?_
  by_cases hd : i < j
  · exact c_take_l1_28_28 σ h2 i j n i0 j0 n0 i1 j1 hd n.toNat 0 _ σ (by omega) (by omega) (fun z z0 z1 => by rw [if_neg (by omega)]) (fun _ _ _ => rfl)
  · exact c_take_l0_28_28 σ h2 i j n i0 j0 n0 i1 j1 (by omega) n.toNat 0 _ σ (by omega) (by omega) (fun z z0 z1 => by rw [if_neg (by omega)]) (fun _ _ _ => rfl)
