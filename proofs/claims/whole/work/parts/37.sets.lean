/-! what changes the state -/
theorem im_sup {M σ : rl_S} (h : IM M σ) (k i : Nat) (x : Int) : IM (sup M k i x) (sup σ k i x) := by
  have e : ∀ a j, σ a j = M a j → sup σ k i x a j = sup M k i x a j := fun a j q => by
    rw [sup_at, sup_at]
    by_cases ha : a = k
    · rw [if_pos ha, if_pos ha]
      by_cases hj : j = i
      · rw [if_pos hj, if_pos hj]
      · rw [if_neg hj, if_neg hj, ← ha]; exact q
    · rw [if_neg ha, if_neg ha]; exact q
  obtain ⟨h1, h2, h3, h4, h5⟩ := h
  exact ⟨fun a j g => e a j (h1 a j g), e _ _ h2, e _ _ h3, e _ _ h4, e _ _ h5⟩
theorem wf_ty {M : rl_S} (h : WF M) {t : Int} (ht : t = 0 ∨ t = 1) : 0 ≤ M 1 t.toNat ∧ M 1 t.toNat ≤ (if t = 0 then 23 else 3) := by
  rcases ht with rfl | rfl
  · exact h.1
  · exact h.2.1
set_option maxRecDepth 20000 in
theorem m_type (M σ : rl_S) (c : IM M σ) (hw : WF M) (t b : Int) (ht : -2147483648 ≤ t ∧ t < 2147483648) (hbb : -2147483648 ≤ b ∧ b < 2147483648) : Ct mW mX9_type [.ref 0, .int (iI t), .int (iI b)] σ (qI (fun z σ' => z = (s_type M t b).1 ∧ IM (s_type M t b).2 σ')) := by
  refine Ct.of plX9 (Nat.le_of_ble_eq_true rfl) ?_
  have ob1 := ob_bd (decide (0 ≤ t ∧ t ≤ 1))
  have ob2 := ob_bd (decide (0 ≤ b ∧ b ≤ 255))
  refine r_iload_n dX9_type_0 rfl ?_
  refine i_csP (m_isText _ t ht) lmX9_59 dX9_type_1 (by decide) (by decide) rfl rfl (Nat.le_of_ble_eq_true rfl) ?_
  refine i_if_eq 18 dX9_type_4 rfl (ob_i32 _) (fun q4 => ?_) (fun q4 => ?_)
  · have e4 := ob_df q4
    refine i_bipush dX9_type_18 (by decide) ?_
    refine r_iret rfl dX9_type_20 ?_
    first
      | (exfalso; omega)
      | (have e : s_type M t b = (-4, M) := by unfold s_type; rw [if_pos (by omega), if_pos (by split <;> omega)]
         exact ⟨_, rfl, by rw [e], by rw [e]; exact c⟩)
      | (have e : s_type M t b = (M 1 t.toNat + 1, sup (sup M 2 (23 * t.toNat + (M 1 t.toNat).toNat) b) 1 t.toNat (M 1 t.toNat + 1)) := by unfold s_type; rw [if_pos (by omega), if_neg (by split <;> omega)]
         refine ⟨_, rfl, by rw [e], ?_⟩
         rw [e, show (23 * t + M 1 t.toNat).toNat = 23 * t.toNat + (M 1 t.toNat).toNat by omega]
         exact im_sup (im_sup c _ _ _) _ _ _)
      | (have e : s_type M t b = (-2, M) := by unfold s_type; rw [if_neg (by omega)]
         exact ⟨_, rfl, by rw [e], by rw [e]; exact c⟩)
  · have e4 := ob_dt q4
    refine r_iload_n dX9_type_7 rfl ?_
    refine i_const dX9_type_8 ?_
    refine i_sipush dX9_type_9 (by decide) ?_
    refine i_csP (m_in σ b 0 255 hbb (by decide) (by decide)) lmX9_55 dX9_type_12 (by decide) (by decide) rfl rfl (Nat.le_of_ble_eq_true rfl) ?_
    refine i_if_ne 21 dX9_type_15 rfl (ob_i32 _) (fun q15 => ?_) (fun q15 => ?_)
    · have e15 := ob_dt q15
      have ht2 : t = 0 ∨ t = 1 := by omega
      have ty := wf_ty hw ht2
      have tr : t = 0 → M 1 t.toNat ≤ 23 := fun q => by rw [if_pos q] at ty; exact ty.2
      have tr2 : ¬ t = 0 → M 1 t.toNat ≤ 3 := fun q => by rw [if_neg q] at ty; exact ty.2
      have ty0 := ty.1
      refine r_aload_n dX9_type_21 rfl ?_
      refine r_get (k := 0) lfX9_7 dX9_type_22 (Nat.le_of_ble_eq_true rfl) rfl rfl ?_
      refine r_iload_n dX9_type_25 rfl ?_
      refine i_ald (k := 1) dX9_type_26 (Nat.le_of_ble_eq_true rfl) rfl rfl ⟨by omega, by omega⟩ (by decide) ?_
      rw [c.1 1 _ (by decide)]
      refine r_iload_n dX9_type_27 rfl ?_
      refine i_if_ne 36 dX9_type_28 rfl ⟨by omega, by omega⟩ (fun q28 => ?_) (fun q28 => ?_)
      · skip
        refine i_const dX9_type_36 ?_
        refine i_icmp_ne 43 dX9_type_37 rfl ⟨by omega, by omega⟩ ⟨by omega, by omega⟩ (fun q37 => ?_) (fun q37 => ?_)
        · skip
          refine r_aload_n dX9_type_43 rfl ?_
          refine r_get (k := 0) lfX9_13 dX9_type_44 (Nat.le_of_ble_eq_true rfl) rfl rfl ?_
          refine i_bipush dX9_type_47 (by decide) ?_
          refine r_iload_n dX9_type_49 rfl ?_
          refine i_imul dX9_type_50 ?_
          refine r_aload_n dX9_type_51 rfl ?_
          refine r_get (k := 0) lfX9_7 dX9_type_52 (Nat.le_of_ble_eq_true rfl) rfl rfl ?_
          refine r_iload_n dX9_type_55 rfl ?_
          refine i_ald (k := 1) dX9_type_56 (Nat.le_of_ble_eq_true rfl) rfl rfl ⟨by omega, by omega⟩ (by decide) ?_
          rw [c.1 1 _ (by decide)]
          refine i_iadd dX9_type_57 ?_
          refine r_iload_n dX9_type_58 rfl ?_
          refine i_ast (k := 2) dX9_type_59 (Nat.le_of_ble_eq_true rfl) rfl rfl ⟨by omega, by omega⟩ (by decide) ?_
          refine r_aload_n dX9_type_60 rfl ?_
          refine r_get (k := 0) lfX9_7 dX9_type_61 (Nat.le_of_ble_eq_true rfl) rfl rfl ?_
          refine r_iload_n dX9_type_64 rfl ?_
          refine r_dup2 dX9_type_65 rfl rfl ?_
          refine i_ald (k := 1) dX9_type_66 (Nat.le_of_ble_eq_true rfl) rfl rfl ⟨by omega, by omega⟩ (by decide) ?_
          rw [sup_k _ _ _ _ _ (show (1 : Nat) ≠ 2 by decide), c.1 1 _ (by decide)]
          refine i_const dX9_type_67 ?_
          refine i_iadd dX9_type_68 ?_
          refine i_ast (k := 1) dX9_type_69 (Nat.le_of_ble_eq_true rfl) rfl rfl ⟨by omega, by omega⟩ (by decide) ?_
          refine r_aload_n dX9_type_70 rfl ?_
          refine r_get (k := 0) lfX9_7 dX9_type_71 (Nat.le_of_ble_eq_true rfl) rfl rfl ?_
          refine r_iload_n dX9_type_74 rfl ?_
          refine i_ald (k := 1) dX9_type_75 (Nat.le_of_ble_eq_true rfl) rfl rfl ⟨by omega, by omega⟩ (by decide) ?_
          rw [sup_h]
          refine r_iret rfl dX9_type_76 ?_
          first
            | (exfalso; omega)
            | (have e : s_type M t b = (-4, M) := by unfold s_type; rw [if_pos (by omega), if_pos (by split <;> omega)]
               exact ⟨_, rfl, by rw [e], by rw [e]; exact c⟩)
            | (have e : s_type M t b = (M 1 t.toNat + 1, sup (sup M 2 (23 * t.toNat + (M 1 t.toNat).toNat) b) 1 t.toNat (M 1 t.toNat + 1)) := by unfold s_type; rw [if_pos (by omega), if_neg (by split <;> omega)]
               refine ⟨_, rfl, by rw [e], ?_⟩
               rw [e, show (23 * t + M 1 t.toNat).toNat = 23 * t.toNat + (M 1 t.toNat).toNat by omega]
               exact im_sup (im_sup c _ _ _) _ _ _)
            | (have e : s_type M t b = (-2, M) := by unfold s_type; rw [if_neg (by omega)]
               exact ⟨_, rfl, by rw [e], by rw [e]; exact c⟩)
        · skip
          refine i_bipush dX9_type_40 (by decide) ?_
          refine r_iret rfl dX9_type_42 ?_
          first
            | (exfalso; omega)
            | (have e : s_type M t b = (-4, M) := by unfold s_type; rw [if_pos (by omega), if_pos (by split <;> omega)]
               exact ⟨_, rfl, by rw [e], by rw [e]; exact c⟩)
            | (have e : s_type M t b = (M 1 t.toNat + 1, sup (sup M 2 (23 * t.toNat + (M 1 t.toNat).toNat) b) 1 t.toNat (M 1 t.toNat + 1)) := by unfold s_type; rw [if_pos (by omega), if_neg (by split <;> omega)]
               refine ⟨_, rfl, by rw [e], ?_⟩
               rw [e, show (23 * t + M 1 t.toNat).toNat = 23 * t.toNat + (M 1 t.toNat).toNat by omega]
               exact im_sup (im_sup c _ _ _) _ _ _)
            | (have e : s_type M t b = (-2, M) := by unfold s_type; rw [if_neg (by omega)]
               exact ⟨_, rfl, by rw [e], by rw [e]; exact c⟩)
      · skip
        refine i_bipush dX9_type_31 (by decide) ?_
        refine r_goto 37 dX9_type_33 rfl ?_
        refine i_icmp_ne 43 dX9_type_37 rfl ⟨by omega, by omega⟩ ⟨by omega, by omega⟩ (fun q37 => ?_) (fun q37 => ?_)
        · skip
          refine r_aload_n dX9_type_43 rfl ?_
          refine r_get (k := 0) lfX9_13 dX9_type_44 (Nat.le_of_ble_eq_true rfl) rfl rfl ?_
          refine i_bipush dX9_type_47 (by decide) ?_
          refine r_iload_n dX9_type_49 rfl ?_
          refine i_imul dX9_type_50 ?_
          refine r_aload_n dX9_type_51 rfl ?_
          refine r_get (k := 0) lfX9_7 dX9_type_52 (Nat.le_of_ble_eq_true rfl) rfl rfl ?_
          refine r_iload_n dX9_type_55 rfl ?_
          refine i_ald (k := 1) dX9_type_56 (Nat.le_of_ble_eq_true rfl) rfl rfl ⟨by omega, by omega⟩ (by decide) ?_
          rw [c.1 1 _ (by decide)]
          refine i_iadd dX9_type_57 ?_
          refine r_iload_n dX9_type_58 rfl ?_
          refine i_ast (k := 2) dX9_type_59 (Nat.le_of_ble_eq_true rfl) rfl rfl ⟨by omega, by omega⟩ (by decide) ?_
          refine r_aload_n dX9_type_60 rfl ?_
          refine r_get (k := 0) lfX9_7 dX9_type_61 (Nat.le_of_ble_eq_true rfl) rfl rfl ?_
          refine r_iload_n dX9_type_64 rfl ?_
          refine r_dup2 dX9_type_65 rfl rfl ?_
          refine i_ald (k := 1) dX9_type_66 (Nat.le_of_ble_eq_true rfl) rfl rfl ⟨by omega, by omega⟩ (by decide) ?_
          rw [sup_k _ _ _ _ _ (show (1 : Nat) ≠ 2 by decide), c.1 1 _ (by decide)]
          refine i_const dX9_type_67 ?_
          refine i_iadd dX9_type_68 ?_
          refine i_ast (k := 1) dX9_type_69 (Nat.le_of_ble_eq_true rfl) rfl rfl ⟨by omega, by omega⟩ (by decide) ?_
          refine r_aload_n dX9_type_70 rfl ?_
          refine r_get (k := 0) lfX9_7 dX9_type_71 (Nat.le_of_ble_eq_true rfl) rfl rfl ?_
          refine r_iload_n dX9_type_74 rfl ?_
          refine i_ald (k := 1) dX9_type_75 (Nat.le_of_ble_eq_true rfl) rfl rfl ⟨by omega, by omega⟩ (by decide) ?_
          rw [sup_h]
          refine r_iret rfl dX9_type_76 ?_
          first
            | (exfalso; omega)
            | (have e : s_type M t b = (-4, M) := by unfold s_type; rw [if_pos (by omega), if_pos (by split <;> omega)]
               exact ⟨_, rfl, by rw [e], by rw [e]; exact c⟩)
            | (have e : s_type M t b = (M 1 t.toNat + 1, sup (sup M 2 (23 * t.toNat + (M 1 t.toNat).toNat) b) 1 t.toNat (M 1 t.toNat + 1)) := by unfold s_type; rw [if_pos (by omega), if_neg (by split <;> omega)]
               refine ⟨_, rfl, by rw [e], ?_⟩
               rw [e, show (23 * t + M 1 t.toNat).toNat = 23 * t.toNat + (M 1 t.toNat).toNat by omega]
               exact im_sup (im_sup c _ _ _) _ _ _)
            | (have e : s_type M t b = (-2, M) := by unfold s_type; rw [if_neg (by omega)]
               exact ⟨_, rfl, by rw [e], by rw [e]; exact c⟩)
        · skip
          refine i_bipush dX9_type_40 (by decide) ?_
          refine r_iret rfl dX9_type_42 ?_
          first
            | (exfalso; omega)
            | (have e : s_type M t b = (-4, M) := by unfold s_type; rw [if_pos (by omega), if_pos (by split <;> omega)]
               exact ⟨_, rfl, by rw [e], by rw [e]; exact c⟩)
            | (have e : s_type M t b = (M 1 t.toNat + 1, sup (sup M 2 (23 * t.toNat + (M 1 t.toNat).toNat) b) 1 t.toNat (M 1 t.toNat + 1)) := by unfold s_type; rw [if_pos (by omega), if_neg (by split <;> omega)]
               refine ⟨_, rfl, by rw [e], ?_⟩
               rw [e, show (23 * t + M 1 t.toNat).toNat = 23 * t.toNat + (M 1 t.toNat).toNat by omega]
               exact im_sup (im_sup c _ _ _) _ _ _)
            | (have e : s_type M t b = (-2, M) := by unfold s_type; rw [if_neg (by omega)]
               exact ⟨_, rfl, by rw [e], by rw [e]; exact c⟩)
    · have e15 := ob_df q15
      refine i_bipush dX9_type_18 (by decide) ?_
      refine r_iret rfl dX9_type_20 ?_
      first
        | (exfalso; omega)
        | (have e : s_type M t b = (-4, M) := by unfold s_type; rw [if_pos (by omega), if_pos (by split <;> omega)]
           exact ⟨_, rfl, by rw [e], by rw [e]; exact c⟩)
        | (have e : s_type M t b = (M 1 t.toNat + 1, sup (sup M 2 (23 * t.toNat + (M 1 t.toNat).toNat) b) 1 t.toNat (M 1 t.toNat + 1)) := by unfold s_type; rw [if_pos (by omega), if_neg (by split <;> omega)]
           refine ⟨_, rfl, by rw [e], ?_⟩
           rw [e, show (23 * t + M 1 t.toNat).toNat = 23 * t.toNat + (M 1 t.toNat).toNat by omega]
           exact im_sup (im_sup c _ _ _) _ _ _)
        | (have e : s_type M t b = (-2, M) := by unfold s_type; rw [if_neg (by omega)]
           exact ⟨_, rfl, by rw [e], by rw [e]; exact c⟩)

set_option maxRecDepth 20000 in
theorem m_wipe (M σ : rl_S) (c : IM M σ) (hw : WF M) (t : Int) (ht : -2147483648 ≤ t ∧ t < 2147483648) : Ct mW mX9_wipe [.ref 0, .int (iI t)] σ (qI (fun z σ' => z = (s_wipe M t).1 ∧ IM (s_wipe M t).2 σ')) := by
  refine Ct.of plX9 (Nat.le_of_ble_eq_true rfl) ?_
  have ob1 := ob_bd (decide (0 ≤ t ∧ t ≤ 1))
  refine r_iload_n dX9_wipe_0 rfl ?_
  refine i_csP (m_isText _ t ht) lmX9_59 dX9_wipe_1 (by decide) (by decide) rfl rfl (Nat.le_of_ble_eq_true rfl) ?_
  refine i_if_ne 10 dX9_wipe_4 rfl (ob_i32 _) (fun q4 => ?_) (fun q4 => ?_)
  · have e4 := ob_dt q4
    have ht2 : t = 0 ∨ t = 1 := by omega
    have ty := wf_ty hw ht2
    refine r_aload_n dX9_wipe_10 rfl ?_
    refine r_get (k := 0) lfX9_7 dX9_wipe_11 (Nat.le_of_ble_eq_true rfl) rfl rfl ?_
    refine r_iload_n dX9_wipe_14 rfl ?_
    refine i_ald (k := 1) dX9_wipe_15 (Nat.le_of_ble_eq_true rfl) rfl rfl ⟨by omega, by omega⟩ (by decide) ?_
    rw [c.1 1 _ (by decide)]
    refine r_istore_n dX9_wipe_16 (Nat.le_of_ble_eq_true rfl) ?_
    refine r_aload_n dX9_wipe_17 rfl ?_
    refine r_get (k := 0) lfX9_7 dX9_wipe_18 (Nat.le_of_ble_eq_true rfl) rfl rfl ?_
    refine r_iload_n dX9_wipe_21 rfl ?_
    refine i_const dX9_wipe_22 ?_
    refine i_ast (k := 1) dX9_wipe_23 (Nat.le_of_ble_eq_true rfl) rfl rfl ⟨by omega, by omega⟩ (by decide) ?_
    refine r_iload_n dX9_wipe_24 rfl ?_
    refine r_iret rfl dX9_wipe_25 ?_
    first
      | (exfalso; omega)
      | (have e : s_wipe M t = (M 1 t.toNat, sup M 1 t.toNat 0) := by unfold s_wipe; rw [if_pos (by omega)]
         exact ⟨_, rfl, by rw [e], by rw [e]; exact im_sup c _ _ _⟩)
      | (have e : s_wipe M t = (-2, M) := by unfold s_wipe; rw [if_neg (by omega)]
         exact ⟨_, rfl, by rw [e], by rw [e]; exact c⟩)
  · have e4 := ob_df q4
    refine i_bipush dX9_wipe_7 (by decide) ?_
    refine r_iret rfl dX9_wipe_9 ?_
    first
      | (exfalso; omega)
      | (have e : s_wipe M t = (M 1 t.toNat, sup M 1 t.toNat 0) := by unfold s_wipe; rw [if_pos (by omega)]
         exact ⟨_, rfl, by rw [e], by rw [e]; exact im_sup c _ _ _⟩)
      | (have e : s_wipe M t = (-2, M) := by unfold s_wipe; rw [if_neg (by omega)]
         exact ⟨_, rfl, by rw [e], by rw [e]; exact c⟩)

set_option maxRecDepth 20000 in
theorem m_undo (M σ : rl_S) (c : IM M σ) (hw : WF M) (t : Int) (ht : -2147483648 ≤ t ∧ t < 2147483648) : Ct mW mX9_undo [.ref 0, .int (iI t)] σ (qI (fun z σ' => z = (s_undo M t).1 ∧ IM (s_undo M t).2 σ')) := by
  refine Ct.of plX9 (Nat.le_of_ble_eq_true rfl) ?_
  have ob1 := ob_bd (decide (0 ≤ t ∧ t ≤ 1))
  refine r_iload_n dX9_undo_0 rfl ?_
  refine i_csP (m_isText _ t ht) lmX9_59 dX9_undo_1 (by decide) (by decide) rfl rfl (Nat.le_of_ble_eq_true rfl) ?_
  refine i_if_ne 10 dX9_undo_4 rfl (ob_i32 _) (fun q4 => ?_) (fun q4 => ?_)
  · have e4 := ob_dt q4
    have ht2 : t = 0 ∨ t = 1 := by omega
    have ty := wf_ty hw ht2
    have tr : M 1 t.toNat ≤ 23 := by have := ty.2; split at this <;> omega
    have ty0 := ty.1
    refine r_aload_n dX9_undo_10 rfl ?_
    refine r_get (k := 0) lfX9_7 dX9_undo_11 (Nat.le_of_ble_eq_true rfl) rfl rfl ?_
    refine r_iload_n dX9_undo_14 rfl ?_
    refine i_ald (k := 1) dX9_undo_15 (Nat.le_of_ble_eq_true rfl) rfl rfl ⟨by omega, by omega⟩ (by decide) ?_
    rw [c.1 1 _ (by decide)]
    refine i_if_ne 22 dX9_undo_16 rfl ⟨by omega, by omega⟩ (fun q16 => ?_) (fun q16 => ?_)
    · skip
      refine r_aload_n dX9_undo_22 rfl ?_
      refine r_get (k := 0) lfX9_7 dX9_undo_23 (Nat.le_of_ble_eq_true rfl) rfl rfl ?_
      refine r_iload_n dX9_undo_26 rfl ?_
      refine r_dup2 dX9_undo_27 rfl rfl ?_
      refine i_ald (k := 1) dX9_undo_28 (Nat.le_of_ble_eq_true rfl) rfl rfl ⟨by omega, by omega⟩ (by decide) ?_
      rw [c.1 1 _ (by decide)]
      refine i_const dX9_undo_29 ?_
      refine i_isub dX9_undo_30 ?_
      refine i_ast (k := 1) dX9_undo_31 (Nat.le_of_ble_eq_true rfl) rfl rfl ⟨by omega, by omega⟩ (by decide) ?_
      refine r_aload_n dX9_undo_32 rfl ?_
      refine r_get (k := 0) lfX9_7 dX9_undo_33 (Nat.le_of_ble_eq_true rfl) rfl rfl ?_
      refine r_iload_n dX9_undo_36 rfl ?_
      refine i_ald (k := 1) dX9_undo_37 (Nat.le_of_ble_eq_true rfl) rfl rfl ⟨by omega, by omega⟩ (by decide) ?_
      rw [sup_h]
      refine r_iret rfl dX9_undo_38 ?_
      first
        | (exfalso; omega)
        | (have e : s_undo M t = (-3, M) := by unfold s_undo; rw [if_pos (by omega), if_pos (by omega)]
           exact ⟨_, rfl, by rw [e], by rw [e]; exact c⟩)
        | (have e : s_undo M t = (M 1 t.toNat - 1, sup M 1 t.toNat (M 1 t.toNat - 1)) := by unfold s_undo; rw [if_pos (by omega), if_neg (by omega)]
           exact ⟨_, rfl, by rw [e], by rw [e]; exact im_sup c _ _ _⟩)
        | (have e : s_undo M t = (-2, M) := by unfold s_undo; rw [if_neg (by omega)]
           exact ⟨_, rfl, by rw [e], by rw [e]; exact c⟩)
    · skip
      refine i_bipush dX9_undo_19 (by decide) ?_
      refine r_iret rfl dX9_undo_21 ?_
      first
        | (exfalso; omega)
        | (have e : s_undo M t = (-3, M) := by unfold s_undo; rw [if_pos (by omega), if_pos (by omega)]
           exact ⟨_, rfl, by rw [e], by rw [e]; exact c⟩)
        | (have e : s_undo M t = (M 1 t.toNat - 1, sup M 1 t.toNat (M 1 t.toNat - 1)) := by unfold s_undo; rw [if_pos (by omega), if_neg (by omega)]
           exact ⟨_, rfl, by rw [e], by rw [e]; exact im_sup c _ _ _⟩)
        | (have e : s_undo M t = (-2, M) := by unfold s_undo; rw [if_neg (by omega)]
           exact ⟨_, rfl, by rw [e], by rw [e]; exact c⟩)
  · have e4 := ob_df q4
    refine i_bipush dX9_undo_7 (by decide) ?_
    refine r_iret rfl dX9_undo_9 ?_
    first
      | (exfalso; omega)
      | (have e : s_undo M t = (-3, M) := by unfold s_undo; rw [if_pos (by omega), if_pos (by omega)]
         exact ⟨_, rfl, by rw [e], by rw [e]; exact c⟩)
      | (have e : s_undo M t = (M 1 t.toNat - 1, sup M 1 t.toNat (M 1 t.toNat - 1)) := by unfold s_undo; rw [if_pos (by omega), if_neg (by omega)]
         exact ⟨_, rfl, by rw [e], by rw [e]; exact im_sup c _ _ _⟩)
      | (have e : s_undo M t = (-2, M) := by unfold s_undo; rw [if_neg (by omega)]
         exact ⟨_, rfl, by rw [e], by rw [e]; exact c⟩)

set_option maxRecDepth 20000 in
theorem m_begins (M σ : rl_S) (c : IM M σ) (hw : WF M) (s v : Int) (hs : -2147483648 ≤ s ∧ s < 2147483648) (hv : -2147483648 ≤ v ∧ v < 2147483648) : Ct mW mX9_begins [.ref 0, .int (iI s), .int (iI v)] σ (qI (fun z σ' => z = (s_begins M s v).1 ∧ IM (s_begins M s v).2 σ')) := by
  refine Ct.of plX9 (Nat.le_of_ble_eq_true rfl) ?_
  have ob1 := ob_bd (decide (0 ≤ s ∧ s ≤ 5))
  have ob2 := ob_bd (decide (0 ≤ v ∧ v ≤ 98))
  refine r_iload_n dX9_begins_0 rfl ?_
  refine i_const dX9_begins_1 ?_
  refine i_const dX9_begins_2 ?_
  refine i_csP (m_in σ s 0 5 hs (by decide) (by decide)) lmX9_55 dX9_begins_3 (by decide) (by decide) rfl rfl (Nat.le_of_ble_eq_true rfl) ?_
  refine i_if_eq 19 dX9_begins_6 rfl (ob_i32 _) (fun q6 => ?_) (fun q6 => ?_)
  · have e6 := ob_df q6
    refine i_bipush dX9_begins_19 (by decide) ?_
    refine r_iret rfl dX9_begins_21 ?_
    first
      | (exfalso; omega)
      | (have e : s_begins M s v = (pS M s, sup M 5 s.toNat v) := by unfold s_begins; rw [if_pos (by omega)]
         exact ⟨_, rfl, by rw [e]; unfold pS; rw [if_pos (by omega)], by rw [e]; exact im_sup c _ _ _⟩)
      | (have e : s_begins M s v = (-2, M) := by unfold s_begins; rw [if_neg (by omega)]
         exact ⟨_, rfl, by rw [e], by rw [e]; exact c⟩)
  · have e6 := ob_dt q6
    refine r_iload_n dX9_begins_9 rfl ?_
    refine i_const dX9_begins_10 ?_
    refine i_bipush dX9_begins_11 (by decide) ?_
    refine i_csP (m_in σ v 0 98 hv (by decide) (by decide)) lmX9_55 dX9_begins_13 (by decide) (by decide) rfl rfl (Nat.le_of_ble_eq_true rfl) ?_
    refine i_if_ne 22 dX9_begins_16 rfl (ob_i32 _) (fun q16 => ?_) (fun q16 => ?_)
    · have e16 := ob_dt q16
      refine r_aload_n dX9_begins_22 rfl ?_
      refine r_get (k := 0) lfX9_22 dX9_begins_23 (Nat.le_of_ble_eq_true rfl) rfl rfl ?_
      refine r_iload_n dX9_begins_26 rfl ?_
      refine i_ald (k := 5) dX9_begins_27 (Nat.le_of_ble_eq_true rfl) rfl rfl ⟨by omega, by omega⟩ (by decide) ?_
      rw [c.1 5 _ (by decide)]
      refine r_istore_n dX9_begins_28 (Nat.le_of_ble_eq_true rfl) ?_
      refine r_aload_n dX9_begins_29 rfl ?_
      refine r_get (k := 0) lfX9_22 dX9_begins_30 (Nat.le_of_ble_eq_true rfl) rfl rfl ?_
      refine r_iload_n dX9_begins_33 rfl ?_
      refine r_iload_n dX9_begins_34 rfl ?_
      refine i_ast (k := 5) dX9_begins_35 (Nat.le_of_ble_eq_true rfl) rfl rfl ⟨by omega, by omega⟩ (by decide) ?_
      refine r_iload_n dX9_begins_36 rfl ?_
      refine r_iret rfl dX9_begins_37 ?_
      first
        | (exfalso; omega)
        | (have e : s_begins M s v = (pS M s, sup M 5 s.toNat v) := by unfold s_begins; rw [if_pos (by omega)]
           exact ⟨_, rfl, by rw [e]; unfold pS; rw [if_pos (by omega)], by rw [e]; exact im_sup c _ _ _⟩)
        | (have e : s_begins M s v = (-2, M) := by unfold s_begins; rw [if_neg (by omega)]
           exact ⟨_, rfl, by rw [e], by rw [e]; exact c⟩)
    · have e16 := ob_df q16
      refine i_bipush dX9_begins_19 (by decide) ?_
      refine r_iret rfl dX9_begins_21 ?_
      first
        | (exfalso; omega)
        | (have e : s_begins M s v = (pS M s, sup M 5 s.toNat v) := by unfold s_begins; rw [if_pos (by omega)]
           exact ⟨_, rfl, by rw [e]; unfold pS; rw [if_pos (by omega)], by rw [e]; exact im_sup c _ _ _⟩)
        | (have e : s_begins M s v = (-2, M) := by unfold s_begins; rw [if_neg (by omega)]
           exact ⟨_, rfl, by rw [e], by rw [e]; exact c⟩)

set_option maxRecDepth 20000 in
theorem m_lee (M σ : rl_S) (c : IM M σ) (hw : WF M) (w t : Int) (hw2 : -2147483648 ≤ w ∧ w < 2147483648) (ht : -2147483648 ≤ t ∧ t < 2147483648) : Ct mW mX9_lee [.ref 0, .int (iI w), .int (iI t)] σ (qI (fun z σ' => z = (s_lee M w t).1 ∧ IM (s_lee M w t).2 σ')) := by
  refine Ct.of plX9 (Nat.le_of_ble_eq_true rfl) ?_
  have ob0 := ob_bd (decide (0 ≤ w ∧ w ≤ 1))
  have ob1 := ob_bd (decide (0 ≤ t ∧ t ≤ 399))
  refine r_iload_n dX9_lee_0 rfl ?_
  refine i_const dX9_lee_1 ?_
  refine i_const dX9_lee_2 ?_
  refine i_csP (m_in σ w 0 1 hw2 (by decide) (by decide)) lmX9_55 dX9_lee_3 (by decide) (by decide) rfl rfl (Nat.le_of_ble_eq_true rfl) ?_
  refine i_if_eq 16 dX9_lee_6 rfl (ob_i32 _) (fun q6 => ?_) (fun q6 => ?_)
  · have e6 := ob_df q6
    refine i_bipush dX9_lee_16 (by decide) ?_
    refine r_iret rfl dX9_lee_18 ?_
    first
      | (exfalso; omega)
      | (have e : s_lee M w t = (M 0 7, sup M 0 7 t) := by unfold s_lee; rw [if_pos (by omega), if_pos (by omega)]
         refine ⟨_, rfl, by rw [e]; exact c.2.1, ?_⟩
         rw [e, sup_id]
         exact im_sup c _ _ _)
      | (have e : s_lee M w t = (M 0 8, sup M 0 8 t) := by unfold s_lee; rw [if_pos (by omega), if_neg (by omega)]
         refine ⟨_, rfl, by rw [e]; exact c.2.2.1, ?_⟩
         rw [e, sup_id]
         exact im_sup c _ _ _)
      | (have e : s_lee M w t = (-2, M) := by unfold s_lee; rw [if_neg (by omega)]
         exact ⟨_, rfl, by rw [e], by rw [e]; exact c⟩)
  · have e6 := ob_dt q6
    refine r_iload_n dX9_lee_9 rfl ?_
    refine i_csP (m_isTenth _ t ht) lmX9_90 dX9_lee_10 (by decide) (by decide) rfl rfl (Nat.le_of_ble_eq_true rfl) ?_
    refine i_if_ne 19 dX9_lee_13 rfl (ob_i32 _) (fun q13 => ?_) (fun q13 => ?_)
    · have e13 := ob_dt q13
      refine r_iload_n dX9_lee_19 rfl ?_
      refine i_if_ne 30 dX9_lee_20 rfl ⟨by omega, by omega⟩ (fun q20 => ?_) (fun q20 => ?_)
      · skip
        refine r_aload_n dX9_lee_30 rfl ?_
        refine r_get (k := 0) lfX9_96 dX9_lee_31 (Nat.le_of_ble_eq_true rfl) rfl rfl ?_
        refine r_istore_n dX9_lee_34 (Nat.le_of_ble_eq_true rfl) ?_
        refine r_aload_n dX9_lee_35 rfl ?_
        refine r_iload_n dX9_lee_36 rfl ?_
        refine i_if_ne 44 dX9_lee_37 rfl ⟨by omega, by omega⟩ (fun q37 => ?_) (fun q37 => ?_)
        · skip
          refine r_aload_n dX9_lee_44 rfl ?_
          refine r_get (k := 0) lfX9_93 dX9_lee_45 (Nat.le_of_ble_eq_true rfl) rfl rfl ?_
          refine i_put (k := 0) lpX9_93 dX9_lee_48 (Nat.le_of_ble_eq_true rfl) rfl rfl ?_
          refine r_aload_n dX9_lee_51 rfl ?_
          refine r_iload_n dX9_lee_52 rfl ?_
          refine i_const dX9_lee_53 ?_
          refine i_icmp_ne 61 dX9_lee_54 rfl ⟨by omega, by omega⟩ ⟨by omega, by omega⟩ (fun q54 => ?_) (fun q54 => ?_)
          · skip
            refine r_aload_n dX9_lee_61 rfl ?_
            refine r_get (k := 0) lfX9_96 dX9_lee_62 (Nat.le_of_ble_eq_true rfl) rfl rfl ?_
            refine i_put (k := 0) lpX9_96 dX9_lee_65 (Nat.le_of_ble_eq_true rfl) rfl rfl ?_
            refine r_iload_n dX9_lee_68 rfl ?_
            refine r_iret rfl dX9_lee_69 ?_
            first
              | (exfalso; omega)
              | (have e : s_lee M w t = (M 0 7, sup M 0 7 t) := by unfold s_lee; rw [if_pos (by omega), if_pos (by omega)]
                 refine ⟨_, rfl, by rw [e]; exact c.2.1, ?_⟩
                 rw [e, sup_id]
                 exact im_sup c _ _ _)
              | (have e : s_lee M w t = (M 0 8, sup M 0 8 t) := by unfold s_lee; rw [if_pos (by omega), if_neg (by omega)]
                 refine ⟨_, rfl, by rw [e]; exact c.2.2.1, ?_⟩
                 rw [e, sup_id]
                 exact im_sup c _ _ _)
              | (have e : s_lee M w t = (-2, M) := by unfold s_lee; rw [if_neg (by omega)]
                 exact ⟨_, rfl, by rw [e], by rw [e]; exact c⟩)
          · skip
            refine r_iload_n dX9_lee_57 rfl ?_
            refine r_goto 65 dX9_lee_58 rfl ?_
            refine i_put (k := 0) lpX9_96 dX9_lee_65 (Nat.le_of_ble_eq_true rfl) rfl rfl ?_
            refine r_iload_n dX9_lee_68 rfl ?_
            refine r_iret rfl dX9_lee_69 ?_
            first
              | (exfalso; omega)
              | (have e : s_lee M w t = (M 0 7, sup M 0 7 t) := by unfold s_lee; rw [if_pos (by omega), if_pos (by omega)]
                 refine ⟨_, rfl, by rw [e]; exact c.2.1, ?_⟩
                 rw [e, sup_id]
                 exact im_sup c _ _ _)
              | (have e : s_lee M w t = (M 0 8, sup M 0 8 t) := by unfold s_lee; rw [if_pos (by omega), if_neg (by omega)]
                 refine ⟨_, rfl, by rw [e]; exact c.2.2.1, ?_⟩
                 rw [e, sup_id]
                 exact im_sup c _ _ _)
              | (have e : s_lee M w t = (-2, M) := by unfold s_lee; rw [if_neg (by omega)]
                 exact ⟨_, rfl, by rw [e], by rw [e]; exact c⟩)
        · skip
          refine r_iload_n dX9_lee_40 rfl ?_
          refine r_goto 48 dX9_lee_41 rfl ?_
          refine i_put (k := 0) lpX9_93 dX9_lee_48 (Nat.le_of_ble_eq_true rfl) rfl rfl ?_
          refine r_aload_n dX9_lee_51 rfl ?_
          refine r_iload_n dX9_lee_52 rfl ?_
          refine i_const dX9_lee_53 ?_
          refine i_icmp_ne 61 dX9_lee_54 rfl ⟨by omega, by omega⟩ ⟨by omega, by omega⟩ (fun q54 => ?_) (fun q54 => ?_)
          · skip
            refine r_aload_n dX9_lee_61 rfl ?_
            refine r_get (k := 0) lfX9_96 dX9_lee_62 (Nat.le_of_ble_eq_true rfl) rfl rfl ?_
            refine i_put (k := 0) lpX9_96 dX9_lee_65 (Nat.le_of_ble_eq_true rfl) rfl rfl ?_
            refine r_iload_n dX9_lee_68 rfl ?_
            refine r_iret rfl dX9_lee_69 ?_
            first
              | (exfalso; omega)
              | (have e : s_lee M w t = (M 0 7, sup M 0 7 t) := by unfold s_lee; rw [if_pos (by omega), if_pos (by omega)]
                 refine ⟨_, rfl, by rw [e]; exact c.2.1, ?_⟩
                 rw [e, sup_id]
                 exact im_sup c _ _ _)
              | (have e : s_lee M w t = (M 0 8, sup M 0 8 t) := by unfold s_lee; rw [if_pos (by omega), if_neg (by omega)]
                 refine ⟨_, rfl, by rw [e]; exact c.2.2.1, ?_⟩
                 rw [e, sup_id]
                 exact im_sup c _ _ _)
              | (have e : s_lee M w t = (-2, M) := by unfold s_lee; rw [if_neg (by omega)]
                 exact ⟨_, rfl, by rw [e], by rw [e]; exact c⟩)
          · skip
            refine r_iload_n dX9_lee_57 rfl ?_
            refine r_goto 65 dX9_lee_58 rfl ?_
            refine i_put (k := 0) lpX9_96 dX9_lee_65 (Nat.le_of_ble_eq_true rfl) rfl rfl ?_
            refine r_iload_n dX9_lee_68 rfl ?_
            refine r_iret rfl dX9_lee_69 ?_
            first
              | (exfalso; omega)
              | (have e : s_lee M w t = (M 0 7, sup M 0 7 t) := by unfold s_lee; rw [if_pos (by omega), if_pos (by omega)]
                 refine ⟨_, rfl, by rw [e]; exact c.2.1, ?_⟩
                 rw [e, sup_id]
                 exact im_sup c _ _ _)
              | (have e : s_lee M w t = (M 0 8, sup M 0 8 t) := by unfold s_lee; rw [if_pos (by omega), if_neg (by omega)]
                 refine ⟨_, rfl, by rw [e]; exact c.2.2.1, ?_⟩
                 rw [e, sup_id]
                 exact im_sup c _ _ _)
              | (have e : s_lee M w t = (-2, M) := by unfold s_lee; rw [if_neg (by omega)]
                 exact ⟨_, rfl, by rw [e], by rw [e]; exact c⟩)
      · skip
        refine r_aload_n dX9_lee_23 rfl ?_
        refine r_get (k := 0) lfX9_93 dX9_lee_24 (Nat.le_of_ble_eq_true rfl) rfl rfl ?_
        refine r_goto 34 dX9_lee_27 rfl ?_
        refine r_istore_n dX9_lee_34 (Nat.le_of_ble_eq_true rfl) ?_
        refine r_aload_n dX9_lee_35 rfl ?_
        refine r_iload_n dX9_lee_36 rfl ?_
        refine i_if_ne 44 dX9_lee_37 rfl ⟨by omega, by omega⟩ (fun q37 => ?_) (fun q37 => ?_)
        · skip
          refine r_aload_n dX9_lee_44 rfl ?_
          refine r_get (k := 0) lfX9_93 dX9_lee_45 (Nat.le_of_ble_eq_true rfl) rfl rfl ?_
          refine i_put (k := 0) lpX9_93 dX9_lee_48 (Nat.le_of_ble_eq_true rfl) rfl rfl ?_
          refine r_aload_n dX9_lee_51 rfl ?_
          refine r_iload_n dX9_lee_52 rfl ?_
          refine i_const dX9_lee_53 ?_
          refine i_icmp_ne 61 dX9_lee_54 rfl ⟨by omega, by omega⟩ ⟨by omega, by omega⟩ (fun q54 => ?_) (fun q54 => ?_)
          · skip
            refine r_aload_n dX9_lee_61 rfl ?_
            refine r_get (k := 0) lfX9_96 dX9_lee_62 (Nat.le_of_ble_eq_true rfl) rfl rfl ?_
            refine i_put (k := 0) lpX9_96 dX9_lee_65 (Nat.le_of_ble_eq_true rfl) rfl rfl ?_
            refine r_iload_n dX9_lee_68 rfl ?_
            refine r_iret rfl dX9_lee_69 ?_
            first
              | (exfalso; omega)
              | (have e : s_lee M w t = (M 0 7, sup M 0 7 t) := by unfold s_lee; rw [if_pos (by omega), if_pos (by omega)]
                 refine ⟨_, rfl, by rw [e]; exact c.2.1, ?_⟩
                 rw [e, sup_id]
                 exact im_sup c _ _ _)
              | (have e : s_lee M w t = (M 0 8, sup M 0 8 t) := by unfold s_lee; rw [if_pos (by omega), if_neg (by omega)]
                 refine ⟨_, rfl, by rw [e]; exact c.2.2.1, ?_⟩
                 rw [e, sup_id]
                 exact im_sup c _ _ _)
              | (have e : s_lee M w t = (-2, M) := by unfold s_lee; rw [if_neg (by omega)]
                 exact ⟨_, rfl, by rw [e], by rw [e]; exact c⟩)
          · skip
            refine r_iload_n dX9_lee_57 rfl ?_
            refine r_goto 65 dX9_lee_58 rfl ?_
            refine i_put (k := 0) lpX9_96 dX9_lee_65 (Nat.le_of_ble_eq_true rfl) rfl rfl ?_
            refine r_iload_n dX9_lee_68 rfl ?_
            refine r_iret rfl dX9_lee_69 ?_
            first
              | (exfalso; omega)
              | (have e : s_lee M w t = (M 0 7, sup M 0 7 t) := by unfold s_lee; rw [if_pos (by omega), if_pos (by omega)]
                 refine ⟨_, rfl, by rw [e]; exact c.2.1, ?_⟩
                 rw [e, sup_id]
                 exact im_sup c _ _ _)
              | (have e : s_lee M w t = (M 0 8, sup M 0 8 t) := by unfold s_lee; rw [if_pos (by omega), if_neg (by omega)]
                 refine ⟨_, rfl, by rw [e]; exact c.2.2.1, ?_⟩
                 rw [e, sup_id]
                 exact im_sup c _ _ _)
              | (have e : s_lee M w t = (-2, M) := by unfold s_lee; rw [if_neg (by omega)]
                 exact ⟨_, rfl, by rw [e], by rw [e]; exact c⟩)
        · skip
          refine r_iload_n dX9_lee_40 rfl ?_
          refine r_goto 48 dX9_lee_41 rfl ?_
          refine i_put (k := 0) lpX9_93 dX9_lee_48 (Nat.le_of_ble_eq_true rfl) rfl rfl ?_
          refine r_aload_n dX9_lee_51 rfl ?_
          refine r_iload_n dX9_lee_52 rfl ?_
          refine i_const dX9_lee_53 ?_
          refine i_icmp_ne 61 dX9_lee_54 rfl ⟨by omega, by omega⟩ ⟨by omega, by omega⟩ (fun q54 => ?_) (fun q54 => ?_)
          · skip
            refine r_aload_n dX9_lee_61 rfl ?_
            refine r_get (k := 0) lfX9_96 dX9_lee_62 (Nat.le_of_ble_eq_true rfl) rfl rfl ?_
            refine i_put (k := 0) lpX9_96 dX9_lee_65 (Nat.le_of_ble_eq_true rfl) rfl rfl ?_
            refine r_iload_n dX9_lee_68 rfl ?_
            refine r_iret rfl dX9_lee_69 ?_
            first
              | (exfalso; omega)
              | (have e : s_lee M w t = (M 0 7, sup M 0 7 t) := by unfold s_lee; rw [if_pos (by omega), if_pos (by omega)]
                 refine ⟨_, rfl, by rw [e]; exact c.2.1, ?_⟩
                 rw [e, sup_id]
                 exact im_sup c _ _ _)
              | (have e : s_lee M w t = (M 0 8, sup M 0 8 t) := by unfold s_lee; rw [if_pos (by omega), if_neg (by omega)]
                 refine ⟨_, rfl, by rw [e]; exact c.2.2.1, ?_⟩
                 rw [e, sup_id]
                 exact im_sup c _ _ _)
              | (have e : s_lee M w t = (-2, M) := by unfold s_lee; rw [if_neg (by omega)]
                 exact ⟨_, rfl, by rw [e], by rw [e]; exact c⟩)
          · skip
            refine r_iload_n dX9_lee_57 rfl ?_
            refine r_goto 65 dX9_lee_58 rfl ?_
            refine i_put (k := 0) lpX9_96 dX9_lee_65 (Nat.le_of_ble_eq_true rfl) rfl rfl ?_
            refine r_iload_n dX9_lee_68 rfl ?_
            refine r_iret rfl dX9_lee_69 ?_
            first
              | (exfalso; omega)
              | (have e : s_lee M w t = (M 0 7, sup M 0 7 t) := by unfold s_lee; rw [if_pos (by omega), if_pos (by omega)]
                 refine ⟨_, rfl, by rw [e]; exact c.2.1, ?_⟩
                 rw [e, sup_id]
                 exact im_sup c _ _ _)
              | (have e : s_lee M w t = (M 0 8, sup M 0 8 t) := by unfold s_lee; rw [if_pos (by omega), if_neg (by omega)]
                 refine ⟨_, rfl, by rw [e]; exact c.2.2.1, ?_⟩
                 rw [e, sup_id]
                 exact im_sup c _ _ _)
              | (have e : s_lee M w t = (-2, M) := by unfold s_lee; rw [if_neg (by omega)]
                 exact ⟨_, rfl, by rw [e], by rw [e]; exact c⟩)
    · have e13 := ob_df q13
      refine i_bipush dX9_lee_16 (by decide) ?_
      refine r_iret rfl dX9_lee_18 ?_
      first
        | (exfalso; omega)
        | (have e : s_lee M w t = (M 0 7, sup M 0 7 t) := by unfold s_lee; rw [if_pos (by omega), if_pos (by omega)]
           refine ⟨_, rfl, by rw [e]; exact c.2.1, ?_⟩
           rw [e, sup_id]
           exact im_sup c _ _ _)
        | (have e : s_lee M w t = (M 0 8, sup M 0 8 t) := by unfold s_lee; rw [if_pos (by omega), if_neg (by omega)]
           refine ⟨_, rfl, by rw [e]; exact c.2.2.1, ?_⟩
           rw [e, sup_id]
           exact im_sup c _ _ _)
        | (have e : s_lee M w t = (-2, M) := by unfold s_lee; rw [if_neg (by omega)]
           exact ⟨_, rfl, by rw [e], by rw [e]; exact c⟩)

set_option maxRecDepth 20000 in
theorem m_lowOf (σ : rl_S) (t : Int) (t0 : 0 ≤ t) (t1 : t < 12) : Ct mW mX9_lowOf [.int (iI t)] σ (pR (.int (iI (zLEAST t.toNat))) σ) := by
  refine Ct.of plX9 (Nat.le_of_ble_eq_true rfl) ?_
  refine r_iload_n dX9_lowOf_0 rfl ?_
  refine i_const dX9_lowOf_1 ?_
  refine i_icmp_eq 16 dX9_lowOf_2 rfl ⟨by omega, by omega⟩ ⟨by omega, by omega⟩ (fun q2 => ?_) (fun q2 => ?_)
  · skip
    refine i_const dX9_lowOf_16 ?_
    refine r_goto 21 dX9_lowOf_17 rfl ?_
    refine r_iret rfl dX9_lowOf_21 ?_
    have h12 : t = 0 ∨ t = 1 ∨ t = 2 ∨ t = 3 ∨ t = 4 ∨ t = 5 ∨ t = 6 ∨ t = 7 ∨ t = 8 ∨ t = 9 ∨ t = 10 ∨ t = 11 := by omega
    rcases h12 with rfl | rfl | rfl | rfl | rfl | rfl | rfl | rfl | rfl | rfl | rfl | rfl <;> first | (exfalso; omega) | exact ⟨rfl, rfl⟩
  · skip
    refine r_iload_n dX9_lowOf_5 rfl ?_
    refine i_const dX9_lowOf_6 ?_
    refine i_icmp_eq 16 dX9_lowOf_7 rfl ⟨by omega, by omega⟩ ⟨by omega, by omega⟩ (fun q7 => ?_) (fun q7 => ?_)
    · skip
      refine i_const dX9_lowOf_16 ?_
      refine r_goto 21 dX9_lowOf_17 rfl ?_
      refine r_iret rfl dX9_lowOf_21 ?_
      have h12 : t = 0 ∨ t = 1 ∨ t = 2 ∨ t = 3 ∨ t = 4 ∨ t = 5 ∨ t = 6 ∨ t = 7 ∨ t = 8 ∨ t = 9 ∨ t = 10 ∨ t = 11 := by omega
      rcases h12 with rfl | rfl | rfl | rfl | rfl | rfl | rfl | rfl | rfl | rfl | rfl | rfl <;> first | (exfalso; omega) | exact ⟨rfl, rfl⟩
    · skip
      refine r_iload_n dX9_lowOf_10 rfl ?_
      refine i_bipush dX9_lowOf_11 (by decide) ?_
      refine i_icmp_ne 20 dX9_lowOf_13 rfl ⟨by omega, by omega⟩ ⟨by omega, by omega⟩ (fun q13 => ?_) (fun q13 => ?_)
      · skip
        refine i_const dX9_lowOf_20 ?_
        refine r_iret rfl dX9_lowOf_21 ?_
        have h12 : t = 0 ∨ t = 1 ∨ t = 2 ∨ t = 3 ∨ t = 4 ∨ t = 5 ∨ t = 6 ∨ t = 7 ∨ t = 8 ∨ t = 9 ∨ t = 10 ∨ t = 11 := by omega
        rcases h12 with rfl | rfl | rfl | rfl | rfl | rfl | rfl | rfl | rfl | rfl | rfl | rfl <;> first | (exfalso; omega) | exact ⟨rfl, rfl⟩
      · skip
        refine i_const dX9_lowOf_16 ?_
        refine r_goto 21 dX9_lowOf_17 rfl ?_
        refine r_iret rfl dX9_lowOf_21 ?_
        have h12 : t = 0 ∨ t = 1 ∨ t = 2 ∨ t = 3 ∨ t = 4 ∨ t = 5 ∨ t = 6 ∨ t = 7 ∨ t = 8 ∨ t = 9 ∨ t = 10 ∨ t = 11 := by omega
        rcases h12 with rfl | rfl | rfl | rfl | rfl | rfl | rfl | rfl | rfl | rfl | rfl | rfl <;> first | (exfalso; omega) | exact ⟨rfl, rfl⟩

set_option maxRecDepth 20000 in
theorem m_highOf (σ : rl_S) (t : Int) (t0 : 0 ≤ t) (t1 : t < 12) : Ct mW mX9_highOf [.int (iI t)] σ (pR (.int (iI (zMOST t.toNat))) σ) := by
  refine Ct.of plX9 (Nat.le_of_ble_eq_true rfl) ?_
  refine r_iload_n dX9_highOf_0 rfl ?_
  refine i_if_ne 10 dX9_highOf_1 rfl ⟨by omega, by omega⟩ (fun q1 => ?_) (fun q1 => ?_)
  · skip
    refine r_iload_n dX9_highOf_10 rfl ?_
    refine i_const dX9_highOf_11 ?_
    refine i_icmp_ne 20 dX9_highOf_12 rfl ⟨by omega, by omega⟩ ⟨by omega, by omega⟩ (fun q12 => ?_) (fun q12 => ?_)
    · skip
      refine r_iload_n dX9_highOf_20 rfl ?_
      refine i_const dX9_highOf_21 ?_
      refine i_icmp_ne 30 dX9_highOf_22 rfl ⟨by omega, by omega⟩ ⟨by omega, by omega⟩ (fun q22 => ?_) (fun q22 => ?_)
      · skip
        refine r_iload_n dX9_highOf_30 rfl ?_
        refine i_const dX9_highOf_31 ?_
        refine i_icmp_ne 40 dX9_highOf_32 rfl ⟨by omega, by omega⟩ ⟨by omega, by omega⟩ (fun q32 => ?_) (fun q32 => ?_)
        · skip
          refine r_iload_n dX9_highOf_40 rfl ?_
          refine i_bipush dX9_highOf_41 (by decide) ?_
          refine i_icmp_ge 51 dX9_highOf_43 rfl ⟨by omega, by omega⟩ ⟨by omega, by omega⟩ (fun q43 => ?_) (fun q43 => ?_)
          · skip
            refine i_bipush dX9_highOf_51 (by decide) ?_
            refine r_iret rfl dX9_highOf_53 ?_
            have h12 : t = 0 ∨ t = 1 ∨ t = 2 ∨ t = 3 ∨ t = 4 ∨ t = 5 ∨ t = 6 ∨ t = 7 ∨ t = 8 ∨ t = 9 ∨ t = 10 ∨ t = 11 := by omega
            rcases h12 with rfl | rfl | rfl | rfl | rfl | rfl | rfl | rfl | rfl | rfl | rfl | rfl <;> first | (exfalso; omega) | exact ⟨rfl, rfl⟩
          · skip
            refine i_bipush dX9_highOf_46 (by decide) ?_
            refine r_goto 53 dX9_highOf_48 rfl ?_
            refine r_iret rfl dX9_highOf_53 ?_
            have h12 : t = 0 ∨ t = 1 ∨ t = 2 ∨ t = 3 ∨ t = 4 ∨ t = 5 ∨ t = 6 ∨ t = 7 ∨ t = 8 ∨ t = 9 ∨ t = 10 ∨ t = 11 := by omega
            rcases h12 with rfl | rfl | rfl | rfl | rfl | rfl | rfl | rfl | rfl | rfl | rfl | rfl <;> first | (exfalso; omega) | exact ⟨rfl, rfl⟩
        · skip
          refine i_bipush dX9_highOf_35 (by decide) ?_
          refine r_goto 53 dX9_highOf_37 rfl ?_
          refine r_iret rfl dX9_highOf_53 ?_
          have h12 : t = 0 ∨ t = 1 ∨ t = 2 ∨ t = 3 ∨ t = 4 ∨ t = 5 ∨ t = 6 ∨ t = 7 ∨ t = 8 ∨ t = 9 ∨ t = 10 ∨ t = 11 := by omega
          rcases h12 with rfl | rfl | rfl | rfl | rfl | rfl | rfl | rfl | rfl | rfl | rfl | rfl <;> first | (exfalso; omega) | exact ⟨rfl, rfl⟩
      · skip
        refine i_bipush dX9_highOf_25 (by decide) ?_
        refine r_goto 53 dX9_highOf_27 rfl ?_
        refine r_iret rfl dX9_highOf_53 ?_
        have h12 : t = 0 ∨ t = 1 ∨ t = 2 ∨ t = 3 ∨ t = 4 ∨ t = 5 ∨ t = 6 ∨ t = 7 ∨ t = 8 ∨ t = 9 ∨ t = 10 ∨ t = 11 := by omega
        rcases h12 with rfl | rfl | rfl | rfl | rfl | rfl | rfl | rfl | rfl | rfl | rfl | rfl <;> first | (exfalso; omega) | exact ⟨rfl, rfl⟩
    · skip
      refine i_bipush dX9_highOf_15 (by decide) ?_
      refine r_goto 53 dX9_highOf_17 rfl ?_
      refine r_iret rfl dX9_highOf_53 ?_
      have h12 : t = 0 ∨ t = 1 ∨ t = 2 ∨ t = 3 ∨ t = 4 ∨ t = 5 ∨ t = 6 ∨ t = 7 ∨ t = 8 ∨ t = 9 ∨ t = 10 ∨ t = 11 := by omega
      rcases h12 with rfl | rfl | rfl | rfl | rfl | rfl | rfl | rfl | rfl | rfl | rfl | rfl <;> first | (exfalso; omega) | exact ⟨rfl, rfl⟩
  · skip
    refine i_sipush dX9_highOf_4 (by decide) ?_
    refine r_goto 53 dX9_highOf_7 rfl ?_
    refine r_iret rfl dX9_highOf_53 ?_
    have h12 : t = 0 ∨ t = 1 ∨ t = 2 ∨ t = 3 ∨ t = 4 ∨ t = 5 ∨ t = 6 ∨ t = 7 ∨ t = 8 ∨ t = 9 ∨ t = 10 ∨ t = 11 := by omega
    rcases h12 with rfl | rfl | rfl | rfl | rfl | rfl | rfl | rfl | rfl | rfl | rfl | rfl <;> first | (exfalso; omega) | exact ⟨rfl, rfl⟩

set_option maxRecDepth 20000 in
theorem m_set (M σ : rl_S) (c : IM M σ) (hw : WF M) (t v : Int) (ht : -2147483648 ≤ t ∧ t < 2147483648) (hv : -2147483648 ≤ v ∧ v < 2147483648) : Ct mW mX9_set [.ref 0, .int (iI t), .int (iI v)] σ (qI (fun z σ' => z = (s_set M t v).1 ∧ IM (s_set M t v).2 σ')) := by
  refine Ct.of plX9 (Nat.le_of_ble_eq_true rfl) ?_
  have ob0 := ob_bd (decide (0 ≤ t ∧ t ≤ 11))
  have ob1 := ob_bd (decide (zLEAST t.toNat ≤ v ∧ v ≤ zMOST t.toNat))
  have zb := zL_bd t.toNat
  refine r_iload_n dX9_set_0 rfl ?_
  refine i_const dX9_set_1 ?_
  refine i_bipush dX9_set_2 (by decide) ?_
  refine i_csP (m_in σ t 0 11 ht (by decide) (by decide)) lmX9_55 dX9_set_4 (by decide) (by decide) rfl rfl (Nat.le_of_ble_eq_true rfl) ?_
  refine i_if_eq 25 dX9_set_7 rfl (ob_i32 _) (fun q7 => ?_) (fun q7 => ?_)
  · have e7 := ob_df q7
    refine i_bipush dX9_set_25 (by decide) ?_
    refine r_iret rfl dX9_set_27 ?_
    first
      | (exfalso; omega)
      | (have e : s_set M t v = (M 6 t.toNat, sup M 6 t.toNat v) := by unfold s_set; rw [if_pos (by unfold alw; exact decide_eq_true (by omega))]
         exact ⟨_, rfl, by rw [e], by rw [e]; exact im_sup c _ _ _⟩)
      | (have e : s_set M t v = (-2, M) := by unfold s_set; rw [if_neg (by unfold alw; intro q; have := of_decide_eq_true q; omega)]
         exact ⟨_, rfl, by rw [e], by rw [e]; exact c⟩)
  · have e7 := ob_dt q7
    refine r_iload_n dX9_set_10 rfl ?_
    refine r_iload_n dX9_set_11 rfl ?_
    refine i_csP (m_lowOf σ t (by omega) (by omega)) lmX9_99 dX9_set_12 (by decide) (by decide) rfl rfl (Nat.le_of_ble_eq_true rfl) ?_
    refine r_iload_n dX9_set_15 rfl ?_
    refine i_csP (m_highOf σ t (by omega) (by omega)) lmX9_102 dX9_set_16 (by decide) (by decide) rfl rfl (Nat.le_of_ble_eq_true rfl) ?_
    refine i_csP (m_in σ v _ _ hv (by have := zb (by omega); omega) (by have := zb (by omega); omega)) lmX9_55 dX9_set_19 (by decide) (by decide) rfl rfl (Nat.le_of_ble_eq_true rfl) ?_
    refine i_if_ne 28 dX9_set_22 rfl (ob_i32 _) (fun q22 => ?_) (fun q22 => ?_)
    · have e22 := ob_dt q22
      refine r_aload_n dX9_set_28 rfl ?_
      refine r_get (k := 0) lfX9_25 dX9_set_29 (Nat.le_of_ble_eq_true rfl) rfl rfl ?_
      refine r_iload_n dX9_set_32 rfl ?_
      refine i_ald (k := 6) dX9_set_33 (Nat.le_of_ble_eq_true rfl) rfl rfl ⟨by omega, by omega⟩ (by decide) ?_
      rw [c.1 6 _ (by decide)]
      refine r_istore_n dX9_set_34 (Nat.le_of_ble_eq_true rfl) ?_
      refine r_aload_n dX9_set_35 rfl ?_
      refine r_get (k := 0) lfX9_25 dX9_set_36 (Nat.le_of_ble_eq_true rfl) rfl rfl ?_
      refine r_iload_n dX9_set_39 rfl ?_
      refine r_iload_n dX9_set_40 rfl ?_
      refine i_ast (k := 6) dX9_set_41 (Nat.le_of_ble_eq_true rfl) rfl rfl ⟨by omega, by omega⟩ (by decide) ?_
      refine r_iload_n dX9_set_42 rfl ?_
      refine r_iret rfl dX9_set_43 ?_
      first
        | (exfalso; omega)
        | (have e : s_set M t v = (M 6 t.toNat, sup M 6 t.toNat v) := by unfold s_set; rw [if_pos (by unfold alw; exact decide_eq_true (by omega))]
           exact ⟨_, rfl, by rw [e], by rw [e]; exact im_sup c _ _ _⟩)
        | (have e : s_set M t v = (-2, M) := by unfold s_set; rw [if_neg (by unfold alw; intro q; have := of_decide_eq_true q; omega)]
           exact ⟨_, rfl, by rw [e], by rw [e]; exact c⟩)
    · have e22 := ob_df q22
      refine i_bipush dX9_set_25 (by decide) ?_
      refine r_iret rfl dX9_set_27 ?_
      first
        | (exfalso; omega)
        | (have e : s_set M t v = (M 6 t.toNat, sup M 6 t.toNat v) := by unfold s_set; rw [if_pos (by unfold alw; exact decide_eq_true (by omega))]
           exact ⟨_, rfl, by rw [e], by rw [e]; exact im_sup c _ _ _⟩)
        | (have e : s_set M t v = (-2, M) := by unfold s_set; rw [if_neg (by unfold alw; intro q; have := of_decide_eq_true q; omega)]
           exact ⟨_, rfl, by rw [e], by rw [e]; exact c⟩)

set_option maxRecDepth 20000 in
theorem m_seen (M σ : rl_S) (c : IM M σ) (hw : WF M) (t v : Int) (ht : -2147483648 ≤ t ∧ t < 2147483648) (hv : -2147483648 ≤ v ∧ v < 2147483648) : Ct mW mX9_seen [.ref 0, .int (iI t), .int (iI v)] σ (qI (fun z σ' => z = (s_seen M t v).1 ∧ IM (s_seen M t v).2 σ')) := by
  refine Ct.of plX9 (Nat.le_of_ble_eq_true rfl) ?_
  have ob1 := ob_bd (decide (0 ≤ t ∧ t ≤ 399))
  have ob2 := ob_bd (decide (0 ≤ v ∧ v ≤ 3000))
  have sn := (wf_seen9 hw).1
  have e12 := c.2.2.2.1
  refine r_iload_n dX9_seen_0 rfl ?_
  refine i_csP (m_isTenth _ t ht) lmX9_90 dX9_seen_1 (by decide) (by decide) rfl rfl (Nat.le_of_ble_eq_true rfl) ?_
  refine i_if_eq 18 dX9_seen_4 rfl (ob_i32 _) (fun q4 => ?_) (fun q4 => ?_)
  · have e4 := ob_df q4
    refine i_bipush dX9_seen_18 (by decide) ?_
    refine r_iret rfl dX9_seen_20 ?_
    first
      | (exfalso; omega)
      | (have e : s_seen M t v = (-4, M) := by unfold s_seen; rw [if_pos (by omega), if_pos (by omega)]
         exact ⟨_, rfl, by rw [e], by rw [e]; exact c⟩)
      | (have e : s_seen M t v = (M 0 12 + 1, sup (sup (sup M 8 (M 0 12).toNat t) 9 (M 0 12).toNat v) 0 12 (M 0 12 + 1)) := by unfold s_seen; rw [if_pos (by omega), if_neg (by omega)]
         exact ⟨_, rfl, by rw [e], by rw [e]; exact im_sup (im_sup (im_sup c _ _ _) _ _ _) _ _ _⟩)
      | (have e : s_seen M t v = (-2, M) := by unfold s_seen; rw [if_neg (by omega)]
         exact ⟨_, rfl, by rw [e], by rw [e]; exact c⟩)
  · have e4 := ob_dt q4
    refine r_iload_n dX9_seen_7 rfl ?_
    refine i_const dX9_seen_8 ?_
    refine i_sipush dX9_seen_9 (by decide) ?_
    refine i_csP (m_in σ v 0 3000 hv (by decide) (by decide)) lmX9_55 dX9_seen_12 (by decide) (by decide) rfl rfl (Nat.le_of_ble_eq_true rfl) ?_
    refine i_if_ne 21 dX9_seen_15 rfl (ob_i32 _) (fun q15 => ?_) (fun q15 => ?_)
    · have e15 := ob_dt q15
      refine r_aload_n dX9_seen_21 rfl ?_
      refine r_get (k := 0) lfX9_206 dX9_seen_22 (Nat.le_of_ble_eq_true rfl) rfl rfl ?_
      rw [e12]
      refine i_bipush dX9_seen_25 (by decide) ?_
      refine i_icmp_ne 33 dX9_seen_27 rfl ⟨by omega, by omega⟩ ⟨by omega, by omega⟩ (fun q27 => ?_) (fun q27 => ?_)
      · skip
        refine r_aload_n dX9_seen_33 rfl ?_
        refine r_get (k := 0) lfX9_31 dX9_seen_34 (Nat.le_of_ble_eq_true rfl) rfl rfl ?_
        refine r_aload_n dX9_seen_37 rfl ?_
        refine r_get (k := 0) lfX9_206 dX9_seen_38 (Nat.le_of_ble_eq_true rfl) rfl rfl ?_
        rw [e12]
        refine r_iload_n dX9_seen_41 rfl ?_
        refine i_ast (k := 8) dX9_seen_42 (Nat.le_of_ble_eq_true rfl) rfl rfl ⟨by omega, by omega⟩ (by decide) ?_
        refine r_aload_n dX9_seen_43 rfl ?_
        refine r_get (k := 0) lfX9_34 dX9_seen_44 (Nat.le_of_ble_eq_true rfl) rfl rfl ?_
        refine r_aload_n dX9_seen_47 rfl ?_
        refine r_get (k := 0) lfX9_206 dX9_seen_48 (Nat.le_of_ble_eq_true rfl) rfl rfl ?_
        rw [sup_k _ _ _ _ _ (show (0 : Nat) ≠ 8 by decide), e12]
        refine r_iload_n dX9_seen_51 rfl ?_
        refine i_ast (k := 9) dX9_seen_52 (Nat.le_of_ble_eq_true rfl) rfl rfl ⟨by omega, by omega⟩ (by decide) ?_
        refine r_aload_n dX9_seen_53 rfl ?_
        refine r_dup dX9_seen_54 rfl ?_
        refine r_get (k := 0) lfX9_206 dX9_seen_55 (Nat.le_of_ble_eq_true rfl) rfl rfl ?_
        rw [sup_k _ _ _ _ _ (show (0 : Nat) ≠ 9 by decide), sup_k _ _ _ _ _ (show (0 : Nat) ≠ 8 by decide), e12]
        refine i_const dX9_seen_58 ?_
        refine i_iadd dX9_seen_59 ?_
        refine i_put (k := 0) lpX9_206 dX9_seen_60 (Nat.le_of_ble_eq_true rfl) rfl rfl ?_
        refine r_aload_n dX9_seen_63 rfl ?_
        refine r_get (k := 0) lfX9_206 dX9_seen_64 (Nat.le_of_ble_eq_true rfl) rfl rfl ?_
        rw [sup_h]
        refine r_iret rfl dX9_seen_67 ?_
        first
          | (exfalso; omega)
          | (have e : s_seen M t v = (-4, M) := by unfold s_seen; rw [if_pos (by omega), if_pos (by omega)]
             exact ⟨_, rfl, by rw [e], by rw [e]; exact c⟩)
          | (have e : s_seen M t v = (M 0 12 + 1, sup (sup (sup M 8 (M 0 12).toNat t) 9 (M 0 12).toNat v) 0 12 (M 0 12 + 1)) := by unfold s_seen; rw [if_pos (by omega), if_neg (by omega)]
             exact ⟨_, rfl, by rw [e], by rw [e]; exact im_sup (im_sup (im_sup c _ _ _) _ _ _) _ _ _⟩)
          | (have e : s_seen M t v = (-2, M) := by unfold s_seen; rw [if_neg (by omega)]
             exact ⟨_, rfl, by rw [e], by rw [e]; exact c⟩)
      · skip
        refine i_bipush dX9_seen_30 (by decide) ?_
        refine r_iret rfl dX9_seen_32 ?_
        first
          | (exfalso; omega)
          | (have e : s_seen M t v = (-4, M) := by unfold s_seen; rw [if_pos (by omega), if_pos (by omega)]
             exact ⟨_, rfl, by rw [e], by rw [e]; exact c⟩)
          | (have e : s_seen M t v = (M 0 12 + 1, sup (sup (sup M 8 (M 0 12).toNat t) 9 (M 0 12).toNat v) 0 12 (M 0 12 + 1)) := by unfold s_seen; rw [if_pos (by omega), if_neg (by omega)]
             exact ⟨_, rfl, by rw [e], by rw [e]; exact im_sup (im_sup (im_sup c _ _ _) _ _ _) _ _ _⟩)
          | (have e : s_seen M t v = (-2, M) := by unfold s_seen; rw [if_neg (by omega)]
             exact ⟨_, rfl, by rw [e], by rw [e]; exact c⟩)
    · have e15 := ob_df q15
      refine i_bipush dX9_seen_18 (by decide) ?_
      refine r_iret rfl dX9_seen_20 ?_
      first
        | (exfalso; omega)
        | (have e : s_seen M t v = (-4, M) := by unfold s_seen; rw [if_pos (by omega), if_pos (by omega)]
           exact ⟨_, rfl, by rw [e], by rw [e]; exact c⟩)
        | (have e : s_seen M t v = (M 0 12 + 1, sup (sup (sup M 8 (M 0 12).toNat t) 9 (M 0 12).toNat v) 0 12 (M 0 12 + 1)) := by unfold s_seen; rw [if_pos (by omega), if_neg (by omega)]
           exact ⟨_, rfl, by rw [e], by rw [e]; exact im_sup (im_sup (im_sup c _ _ _) _ _ _) _ _ _⟩)
        | (have e : s_seen M t v = (-2, M) := by unfold s_seen; rw [if_neg (by omega)]
           exact ⟨_, rfl, by rw [e], by rw [e]; exact c⟩)

set_option maxRecDepth 20000 in
theorem m_forget (M σ : rl_S) (c : IM M σ) (hw : WF M)  : Ct mW mX9_forget [.ref 0] σ (qI (fun z σ' => z = (s_forget M).1 ∧ IM (s_forget M).2 σ')) := by
  refine Ct.of plX9 (Nat.le_of_ble_eq_true rfl) ?_
  refine r_aload_n dX9_forget_0 rfl ?_
  refine r_get (k := 0) lfX9_206 dX9_forget_1 (Nat.le_of_ble_eq_true rfl) rfl rfl ?_
  refine r_istore_n dX9_forget_4 (Nat.le_of_ble_eq_true rfl) ?_
  refine r_aload_n dX9_forget_5 rfl ?_
  refine i_const dX9_forget_6 ?_
  refine i_put (k := 0) lpX9_206 dX9_forget_7 (Nat.le_of_ble_eq_true rfl) rfl rfl ?_
  refine r_iload_n dX9_forget_10 rfl ?_
  refine r_iret rfl dX9_forget_11 ?_
  exact ⟨_, rfl, c.2.2.2.1, im_sup c _ _ _⟩
