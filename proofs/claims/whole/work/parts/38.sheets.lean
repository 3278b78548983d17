/-! sheets -/
set_option maxRecDepth 20000 in
theorem m_isSheet (σ : rl_S) (s : Int) (hs : -2147483648 ≤ s ∧ s < 2147483648) : Ct mW mX9_isSheet [.int (iI s)] σ (pR (.int (iI (ob (decide (0 ≤ s ∧ s ≤ 3))))) σ) := by
  refine Ct.of plX9 (Nat.le_of_ble_eq_true rfl) ?_
  refine r_iload_n dX9_isSheet_0 rfl ?_
  refine i_const dX9_isSheet_1 ?_
  refine i_const dX9_isSheet_2 ?_
  refine i_csP (m_in σ s 0 3 hs (by decide) (by decide)) lmX9_55 dX9_isSheet_3 (by decide) (by decide) rfl rfl (Nat.le_of_ble_eq_true rfl) ?_
  refine r_zret rfl dX9_isSheet_6 (by first | rfl | exact ob_nar _) ?_
  exact ⟨rfl, rfl⟩

set_option maxRecDepth 20000 in
theorem m_meets (σ : rl_S) (n : Int) : Ct mW mX9_meets [.ref 0, .int (iI n)] σ (qI (fun z σ' => z = -10 - n ∧ σ' = sup σ 0 21 n)) := by
  refine Ct.of plX9 (Nat.le_of_ble_eq_true rfl) ?_
  refine r_aload_n dX9_meets_0 rfl ?_
  refine r_iload_n dX9_meets_1 rfl ?_
  refine i_put (k := 0) lpX9_231 dX9_meets_2 (Nat.le_of_ble_eq_true rfl) rfl rfl ?_
  refine i_bipush dX9_meets_5 (by decide) ?_
  refine r_iload_n dX9_meets_7 rfl ?_
  refine i_isub dX9_meets_8 ?_
  refine r_iret rfl dX9_meets_9 ?_
  exact ⟨_, rfl, rfl, rfl⟩

theorem rng_at (M : rl_S) (a n : Nat) (f : Nat → Int) (i : Nat) : rngM M a n f 13 i = if a ≤ i ∧ i < a + n then f (i - a) else M 13 i := by
  unfold rngM; rw [if_pos rfl]
theorem rng_k (M : rl_S) (a n : Nat) (f : Nat → Int) {k : Nat} (h : k ≠ 13) (i : Nat) : rngM M a n f k i = M k i := by
  unfold rngM; rw [if_neg h]
theorem rng_up (M : rl_S) (a n : Nat) (f : Nat → Int) : sup (rngM M a n f) 13 (a + n) (f n) = rngM M a (n + 1) f := by
  funext k i
  by_cases hk : k = 13
  · subst hk
    by_cases hi : i = a + n
    · subst hi
      rw [sup_h, rng_at, if_pos (show a ≤ a + n ∧ a + n < a + (n + 1) by omega), show a + n - a = n by omega]
    · rw [sup_i _ _ _ _ hi, rng_at, rng_at]
      by_cases q : a ≤ i ∧ i < a + n
      · rw [if_pos q, if_pos (show a ≤ i ∧ i < a + (n + 1) by omega)]
      · rw [if_neg q, if_neg (show ¬ (a ≤ i ∧ i < a + (n + 1)) by omega)]
  · rw [sup_k _ _ _ _ _ hk, rng_k _ _ _ _ hk, rng_k _ _ _ _ hk]
theorem rng_0 (M : rl_S) (a : Nat) (f : Nat → Int) : rngM M a 0 f = M := by
  funext k i
  unfold rngM
  split
  · rw [if_neg (by omega)]
  · rfl
theorem sh_rng (M : rl_S) (s : Nat) (f n : Int) : rngM (sup (sup (sup M 10 s 1) 11 s f) 12 s n) (48 * s) 48 (fun _ => 0) = shM M s f n := by
  funext k i
  unfold rngM shM
  simp only [sup_at]
  by_cases h10 : k = 10
  · subst h10; simp
  · by_cases h11 : k = 11
    · subst h11; simp
    · by_cases h12 : k = 12
      · subst h12; simp
      · by_cases h13 : k = 13
        · subst h13; simp
        · simp [h10, h11, h12, h13]
theorem m_sheet_l (s n : Int) (s0 : 0 ≤ s ∧ s ≤ 3) (f : Int) (M1 : rl_S) (l4 : Value) (hn : -2147483648 ≤ n ∧ n < 2147483648) : ∀ (m : Nat) (k : Nat) (σ : rl_S), k + m = 48 → IM (rngM M1 (48 * s.toNat) k (fun _ => 0)) σ → Rn mW mX9_sheet 59 [.ref 0, .int (iI s), .int (iI f), .int (iI n), .int (iI (k : Int))] [] σ (qI (fun z σ' => z = n ∧ IM (rngM M1 (48 * s.toNat) 48 (fun _ => 0)) σ')) := by
  intro m
  induction m with
  | zero =>
    intro k σ hk c
    have ek : k = 48 := by omega
    subst ek
    refine r_iload dX9_sheet_59 rfl ?_
    refine i_bipush dX9_sheet_61 (by decide) ?_
    refine i_icmp_ge 85 dX9_sheet_63 rfl ⟨by omega, by omega⟩ ⟨by omega, by omega⟩ (fun q63 => ?_) (fun q63 => ?_)
    · skip
      refine r_iload_n dX9_sheet_85 rfl ?_
      refine r_iret rfl dX9_sheet_86 ?_
      exact ⟨_, rfl, rfl, c⟩
    · exfalso
      omega
  | succ m ih =>
    intro k σ hk c
    refine r_iload dX9_sheet_59 rfl ?_
    refine i_bipush dX9_sheet_61 (by decide) ?_
    refine i_icmp_ge 85 dX9_sheet_63 rfl ⟨by omega, by omega⟩ ⟨by omega, by omega⟩ (fun q63 => ?_) (fun q63 => ?_)
    · exfalso
      omega
    · skip
      refine r_aload_n dX9_sheet_66 rfl ?_
      refine r_get (k := 0) lfX9_47 dX9_sheet_67 (Nat.le_of_ble_eq_true rfl) rfl rfl ?_
      refine i_bipush dX9_sheet_70 (by decide) ?_
      refine r_iload_n dX9_sheet_72 rfl ?_
      refine i_imul dX9_sheet_73 ?_
      refine r_iload dX9_sheet_74 rfl ?_
      refine i_iadd dX9_sheet_76 ?_
      refine i_const dX9_sheet_77 ?_
      refine i_ast (k := 13) dX9_sheet_78 (Nat.le_of_ble_eq_true rfl) rfl rfl ⟨by omega, by omega⟩ (by decide) ?_
      refine i_iinc dX9_sheet_79 rfl (Nat.le_of_ble_eq_true rfl) ?_
      refine r_goto 59 dX9_sheet_82 rfl ?_
      rw [show (48 * s + (k : Int)).toNat = 48 * s.toNat + k by omega, show (k : Int) + 1 = ((k + 1 : Nat) : Int) by omega]
      refine ih (k + 1) _ (by omega) ?_
      rw [← rng_up]
      exact im_sup c _ _ _

set_option maxRecDepth 20000 in
theorem m_sheet (M σ : rl_S) (c : IM M σ) (hw : WF M) (s f n : Int) (hs : -2147483648 ≤ s ∧ s < 2147483648) (hn : -2147483648 ≤ n ∧ n < 2147483648) (hf0 : -2147483648 ≤ f ∧ f < 2147483648) : Ct mW mX9_sheet [.ref 0, .int (iI s), .int (iI f), .int (iI n)] σ (qI (fun z σ' => z = (s_sheet M s f n).1 ∧ IM (s_sheet M s f n).2 σ')) := by
  refine Ct.of plX9 (Nat.le_of_ble_eq_true rfl) ?_
  have ob1 := ob_bd (decide (0 ≤ s ∧ s ≤ 3))
  have ob2 := ob_bd (decide (0 ≤ f ∧ f ≤ 2))
  refine r_iload_n dX9_sheet_0 rfl ?_
  refine i_csP (m_isSheet _ s hs) lmX9_209 dX9_sheet_1 (by decide) (by decide) rfl rfl (Nat.le_of_ble_eq_true rfl) ?_
  refine i_if_eq 22 dX9_sheet_4 rfl (ob_i32 _) (fun q4 => ?_) (fun q4 => ?_)
  · have e4 := ob_df q4
    refine i_bipush dX9_sheet_22 (by decide) ?_
    refine r_iret rfl dX9_sheet_24 ?_
    first
      | (exfalso; omega)
      | (have e : s_sheet M s f n = (-15, sup M 0 21 5) := by unfold s_sheet; rw [if_pos (by omega), if_pos (by omega)]
         exact ⟨_, rfl, by rw [hm.1, e]; rfl, by rw [hm.2, e]; exact im_sup c _ _ _⟩)
      | (have e : s_sheet M s f n = (-2, M) := by unfold s_sheet; rw [if_neg (by omega)]
         exact ⟨_, rfl, by rw [e], by rw [e]; exact c⟩)
  · have e4 := ob_dt q4
    refine r_iload_n dX9_sheet_7 rfl ?_
    refine i_const dX9_sheet_8 ?_
    refine i_const dX9_sheet_9 ?_
    refine i_csP (m_in σ f 0 2 hf0 (by decide) (by decide)) lmX9_55 dX9_sheet_10 (by decide) (by decide) rfl rfl (Nat.le_of_ble_eq_true rfl) ?_
    refine i_if_eq 22 dX9_sheet_13 rfl (ob_i32 _) (fun q13 => ?_) (fun q13 => ?_)
    · have e13 := ob_df q13
      refine i_bipush dX9_sheet_22 (by decide) ?_
      refine r_iret rfl dX9_sheet_24 ?_
      first
        | (exfalso; omega)
        | (have e : s_sheet M s f n = (-15, sup M 0 21 5) := by unfold s_sheet; rw [if_pos (by omega), if_pos (by omega)]
           exact ⟨_, rfl, by rw [hm.1, e]; rfl, by rw [hm.2, e]; exact im_sup c _ _ _⟩)
        | (have e : s_sheet M s f n = (-2, M) := by unfold s_sheet; rw [if_neg (by omega)]
           exact ⟨_, rfl, by rw [e], by rw [e]; exact c⟩)
    · have e13 := ob_dt q13
      refine r_iload_n dX9_sheet_16 rfl ?_
      refine i_bipush dX9_sheet_17 (by decide) ?_
      refine i_icmp_le 25 dX9_sheet_19 rfl ⟨by omega, by omega⟩ ⟨by omega, by omega⟩ (fun q19 => ?_) (fun q19 => ?_)
      · skip
        refine r_iload_n dX9_sheet_25 rfl ?_
        refine i_if_ge 35 dX9_sheet_26 rfl ⟨by omega, by omega⟩ (fun q26 => ?_) (fun q26 => ?_)
        · skip
          refine r_aload_n dX9_sheet_35 rfl ?_
          refine r_get (k := 0) lfX9_37 dX9_sheet_36 (Nat.le_of_ble_eq_true rfl) rfl rfl ?_
          refine r_iload_n dX9_sheet_39 rfl ?_
          refine i_const dX9_sheet_40 ?_
          refine i_zst (k := 10) dX9_sheet_41 (Nat.le_of_ble_eq_true rfl) rfl rfl ⟨by omega, by omega⟩ (by decide) rfl ?_
          refine r_aload_n dX9_sheet_42 rfl ?_
          refine r_get (k := 0) lfX9_41 dX9_sheet_43 (Nat.le_of_ble_eq_true rfl) rfl rfl ?_
          refine r_iload_n dX9_sheet_46 rfl ?_
          refine r_iload_n dX9_sheet_47 rfl ?_
          refine i_ast (k := 11) dX9_sheet_48 (Nat.le_of_ble_eq_true rfl) rfl rfl ⟨by omega, by omega⟩ (by decide) ?_
          refine r_aload_n dX9_sheet_49 rfl ?_
          refine r_get (k := 0) lfX9_44 dX9_sheet_50 (Nat.le_of_ble_eq_true rfl) rfl rfl ?_
          refine r_iload_n dX9_sheet_53 rfl ?_
          refine r_iload_n dX9_sheet_54 rfl ?_
          refine i_ast (k := 12) dX9_sheet_55 (Nat.le_of_ble_eq_true rfl) rfl rfl ⟨by omega, by omega⟩ (by decide) ?_
          refine i_const dX9_sheet_56 ?_
          refine r_istore dX9_sheet_57 (Nat.le_of_ble_eq_true rfl) ?_
          have e : s_sheet M s f n = (n, shM M s.toNat f n) := by unfold s_sheet; rw [if_pos (by omega), if_neg (by omega)]
          rw [e]
          dsimp only
          rw [← sh_rng]
          exact m_sheet_l s n (by omega) f _ (.float 0) hn 48 0 _ (by omega) (by rw [rng_0]; exact im_sup (im_sup (im_sup c _ _ _) _ _ _) _ _ _)
        · skip
          refine r_aload_n dX9_sheet_29 rfl ?_
          refine i_const dX9_sheet_30 ?_
          refine i_cvI (m_meets σ 5) lmX9_212 dX9_sheet_31 (Nat.le_of_ble_eq_true rfl) rfl ⟨_, _, rfl⟩ (by decide) (by decide) rfl rfl (Nat.le_of_ble_eq_true rfl) (fun z1 σ1 hm => ?_)
          refine r_iret rfl dX9_sheet_34 ?_
          first
            | (exfalso; omega)
            | (have e : s_sheet M s f n = (-15, sup M 0 21 5) := by unfold s_sheet; rw [if_pos (by omega), if_pos (by omega)]
               exact ⟨_, rfl, by rw [hm.1, e]; rfl, by rw [hm.2, e]; exact im_sup c _ _ _⟩)
            | (have e : s_sheet M s f n = (-2, M) := by unfold s_sheet; rw [if_neg (by omega)]
               exact ⟨_, rfl, by rw [e], by rw [e]; exact c⟩)
      · skip
        refine i_bipush dX9_sheet_22 (by decide) ?_
        refine r_iret rfl dX9_sheet_24 ?_
        first
          | (exfalso; omega)
          | (have e : s_sheet M s f n = (-15, sup M 0 21 5) := by unfold s_sheet; rw [if_pos (by omega), if_pos (by omega)]
             exact ⟨_, rfl, by rw [hm.1, e]; rfl, by rw [hm.2, e]; exact im_sup c _ _ _⟩)
          | (have e : s_sheet M s f n = (-2, M) := by unfold s_sheet; rw [if_neg (by omega)]
             exact ⟨_, rfl, by rw [e], by rw [e]; exact c⟩)

set_option maxRecDepth 20000 in
theorem m_lose (M σ : rl_S) (c : IM M σ) (hw : WF M) (s : Int) (hs : -2147483648 ≤ s ∧ s < 2147483648) : Ct mW mX9_lose [.ref 0, .int (iI s)] σ (qI (fun z σ' => z = (s_lose M s).1 ∧ IM (s_lose M s).2 σ')) := by
  refine Ct.of plX9 (Nat.le_of_ble_eq_true rfl) ?_
  have ob1 := ob_bd (decide (0 ≤ s ∧ s ≤ 3))
  refine r_iload_n dX9_lose_0 rfl ?_
  refine i_csP (m_isSheet _ s hs) lmX9_209 dX9_lose_1 (by decide) (by decide) rfl rfl (Nat.le_of_ble_eq_true rfl) ?_
  refine i_if_ne 10 dX9_lose_4 rfl (ob_i32 _) (fun q4 => ?_) (fun q4 => ?_)
  · have e4 := ob_dt q4
    have sh := wf_sh hw s.toNat (by omega)
    refine r_aload_n dX9_lose_10 rfl ?_
    refine r_get (k := 0) lfX9_37 dX9_lose_11 (Nat.le_of_ble_eq_true rfl) rfl rfl ?_
    refine r_iload_n dX9_lose_14 rfl ?_
    refine i_zld (k := 10) dX9_lose_15 (Nat.le_of_ble_eq_true rfl) rfl rfl ⟨by omega, by omega⟩ (by decide) ?_
    rw [c.1 10 _ (by decide)]
    refine i_if_ne 25 dX9_lose_16 rfl ⟨by omega, by omega⟩ (fun q16 => ?_) (fun q16 => ?_)
    · skip
      refine r_aload_n dX9_lose_25 rfl ?_
      refine r_get (k := 0) lfX9_37 dX9_lose_26 (Nat.le_of_ble_eq_true rfl) rfl rfl ?_
      refine r_iload_n dX9_lose_29 rfl ?_
      refine i_const dX9_lose_30 ?_
      refine i_zst (k := 10) dX9_lose_31 (Nat.le_of_ble_eq_true rfl) rfl rfl ⟨by omega, by omega⟩ (by decide) rfl ?_
      refine r_aload_n dX9_lose_32 rfl ?_
      refine r_get (k := 0) lfX9_44 dX9_lose_33 (Nat.le_of_ble_eq_true rfl) rfl rfl ?_
      refine r_iload_n dX9_lose_36 rfl ?_
      refine i_ald (k := 12) dX9_lose_37 (Nat.le_of_ble_eq_true rfl) rfl rfl ⟨by omega, by omega⟩ (by decide) ?_
      rw [sup_k _ _ _ _ _ (show (12 : Nat) ≠ 10 by decide), c.1 12 _ (by decide)]
      refine r_iret rfl dX9_lose_38 ?_
      first
        | (exfalso; omega)
        | (have e : s_lose M s = (-11, sup M 0 21 1) := by unfold s_lose; rw [if_pos (by omega), if_pos (by omega)]
           exact ⟨_, rfl, by rw [hm.1, e]; rfl, by rw [hm.2, e]; exact im_sup c _ _ _⟩)
        | (have e : s_lose M s = (M 12 s.toNat, sup M 10 s.toNat 0) := by unfold s_lose; rw [if_pos (by omega), if_neg (by omega)]
           exact ⟨_, rfl, by rw [e], by rw [e]; exact im_sup c _ _ _⟩)
        | (have e : s_lose M s = (-2, M) := by unfold s_lose; rw [if_neg (by omega)]
           exact ⟨_, rfl, by rw [e], by rw [e]; exact c⟩)
    · skip
      refine r_aload_n dX9_lose_19 rfl ?_
      refine i_const dX9_lose_20 ?_
      refine i_cvI (m_meets σ 1) lmX9_212 dX9_lose_21 (Nat.le_of_ble_eq_true rfl) rfl ⟨_, _, rfl⟩ (by decide) (by decide) rfl rfl (Nat.le_of_ble_eq_true rfl) (fun z1 σ1 hm => ?_)
      refine r_iret rfl dX9_lose_24 ?_
      first
        | (exfalso; omega)
        | (have e : s_lose M s = (-11, sup M 0 21 1) := by unfold s_lose; rw [if_pos (by omega), if_pos (by omega)]
           exact ⟨_, rfl, by rw [hm.1, e]; rfl, by rw [hm.2, e]; exact im_sup c _ _ _⟩)
        | (have e : s_lose M s = (M 12 s.toNat, sup M 10 s.toNat 0) := by unfold s_lose; rw [if_pos (by omega), if_neg (by omega)]
           exact ⟨_, rfl, by rw [e], by rw [e]; exact im_sup c _ _ _⟩)
        | (have e : s_lose M s = (-2, M) := by unfold s_lose; rw [if_neg (by omega)]
           exact ⟨_, rfl, by rw [e], by rw [e]; exact c⟩)
  · have e4 := ob_df q4
    refine i_bipush dX9_lose_7 (by decide) ?_
    refine r_iret rfl dX9_lose_9 ?_
    first
      | (exfalso; omega)
      | (have e : s_lose M s = (-11, sup M 0 21 1) := by unfold s_lose; rw [if_pos (by omega), if_pos (by omega)]
         exact ⟨_, rfl, by rw [hm.1, e]; rfl, by rw [hm.2, e]; exact im_sup c _ _ _⟩)
      | (have e : s_lose M s = (M 12 s.toNat, sup M 10 s.toNat 0) := by unfold s_lose; rw [if_pos (by omega), if_neg (by omega)]
         exact ⟨_, rfl, by rw [e], by rw [e]; exact im_sup c _ _ _⟩)
      | (have e : s_lose M s = (-2, M) := by unfold s_lose; rw [if_neg (by omega)]
         exact ⟨_, rfl, by rw [e], by rw [e]; exact c⟩)

set_option maxRecDepth 20000 in
theorem m_lacks (M σ : rl_S) (c : IM M σ) (hw : WF M) (s f i : Int) (s0 : 0 ≤ s ∧ s ≤ 3) (f0 : 0 ≤ f ∧ f ≤ 2) (hi : -2147483648 ≤ i ∧ i < 2147483648) : Ct mW mX9_lacks [.ref 0, .int (iI s), .int (iI f), .int (iI i)] σ (pR (.int (iI (trM M s f i))) σ) := by
  refine Ct.of plX9 (Nat.le_of_ble_eq_true rfl) ?_
  have sh := wf_sh hw s.toNat (by omega)
  have ob1 := ob_bd (decide (0 ≤ i ∧ i ≤ M 12 s.toNat - 1))
  refine r_aload_n dX9_lacks_0 rfl ?_
  refine r_get (k := 0) lfX9_37 dX9_lacks_1 (Nat.le_of_ble_eq_true rfl) rfl rfl ?_
  refine r_iload_n dX9_lacks_4 rfl ?_
  refine i_zld (k := 10) dX9_lacks_5 (Nat.le_of_ble_eq_true rfl) rfl rfl ⟨by omega, by omega⟩ (by decide) ?_
  rw [c.1 10 _ (by decide)]
  refine i_if_ne 13 dX9_lacks_6 rfl ⟨by omega, by omega⟩ (fun q6 => ?_) (fun q6 => ?_)
  · skip
    refine r_aload_n dX9_lacks_13 rfl ?_
    refine r_get (k := 0) lfX9_41 dX9_lacks_14 (Nat.le_of_ble_eq_true rfl) rfl rfl ?_
    refine r_iload_n dX9_lacks_17 rfl ?_
    refine i_ald (k := 11) dX9_lacks_18 (Nat.le_of_ble_eq_true rfl) rfl rfl ⟨by omega, by omega⟩ (by decide) ?_
    rw [c.1 11 _ (by decide)]
    refine r_iload_n dX9_lacks_19 rfl ?_
    refine i_icmp_eq 27 dX9_lacks_20 rfl ⟨by omega, by omega⟩ ⟨by omega, by omega⟩ (fun q20 => ?_) (fun q20 => ?_)
    · skip
      refine r_iload_n dX9_lacks_27 rfl ?_
      refine i_const dX9_lacks_28 ?_
      refine r_aload_n dX9_lacks_29 rfl ?_
      refine r_get (k := 0) lfX9_44 dX9_lacks_30 (Nat.le_of_ble_eq_true rfl) rfl rfl ?_
      refine r_iload_n dX9_lacks_33 rfl ?_
      refine i_ald (k := 12) dX9_lacks_34 (Nat.le_of_ble_eq_true rfl) rfl rfl ⟨by omega, by omega⟩ (by decide) ?_
      rw [c.1 12 _ (by decide)]
      refine i_const dX9_lacks_35 ?_
      refine i_isub dX9_lacks_36 ?_
      refine i_csP (m_in σ i 0 (M 12 s.toNat - 1) hi (by decide) (by omega)) lmX9_55 dX9_lacks_37 (by decide) (by decide) rfl rfl (Nat.le_of_ble_eq_true rfl) ?_
      refine i_if_eq 47 dX9_lacks_40 rfl (ob_i32 _) (fun q40 => ?_) (fun q40 => ?_)
      · have e40 := ob_df q40
        refine i_const dX9_lacks_47 ?_
        refine r_iret rfl dX9_lacks_48 ?_
        refine ⟨?_, rfl⟩
        unfold trM trb
        first
          | (rw [if_pos (by omega)])
          | (rw [if_neg (by omega), if_pos (by omega)])
          | (rw [if_neg (by omega), if_neg (by omega), if_pos (by omega)])
          | (rw [if_neg (by omega), if_neg (by omega), if_neg (by omega)])
      · have e40 := ob_dt q40
        refine i_const dX9_lacks_43 ?_
        refine r_goto 48 dX9_lacks_44 rfl ?_
        refine r_iret rfl dX9_lacks_48 ?_
        refine ⟨?_, rfl⟩
        unfold trM trb
        first
          | (rw [if_pos (by omega)])
          | (rw [if_neg (by omega), if_pos (by omega)])
          | (rw [if_neg (by omega), if_neg (by omega), if_pos (by omega)])
          | (rw [if_neg (by omega), if_neg (by omega), if_neg (by omega)])
    · skip
      refine i_const dX9_lacks_23 ?_
      refine r_goto 48 dX9_lacks_24 rfl ?_
      refine r_iret rfl dX9_lacks_48 ?_
      refine ⟨?_, rfl⟩
      unfold trM trb
      first
        | (rw [if_pos (by omega)])
        | (rw [if_neg (by omega), if_pos (by omega)])
        | (rw [if_neg (by omega), if_neg (by omega), if_pos (by omega)])
        | (rw [if_neg (by omega), if_neg (by omega), if_neg (by omega)])
  · skip
    refine i_const dX9_lacks_9 ?_
    refine r_goto 48 dX9_lacks_10 rfl ?_
    refine r_iret rfl dX9_lacks_48 ?_
    refine ⟨?_, rfl⟩
    unfold trM trb
    first
      | (rw [if_pos (by omega)])
      | (rw [if_neg (by omega), if_pos (by omega)])
      | (rw [if_neg (by omega), if_neg (by omega), if_pos (by omega)])
      | (rw [if_neg (by omega), if_neg (by omega), if_neg (by omega)])

set_option maxRecDepth 20000 in
theorem m_keep (σ : rl_S) (s i v : Int) (s0 : 0 ≤ s ∧ s ≤ 3) (i0 : 0 ≤ i ∧ i < 48) (f0 : 0 ≤ σ 11 s.toNat ∧ σ 11 s.toNat ≤ 2) : Ct mW mX9_keep [.ref 0, .int (iI s), .int (iI i), .int (iI v)] σ (qV (fun σ' => σ' = sup σ 13 (48 * s.toNat + i.toNat) (nar (σ 11 s.toNat) v))) := by
  refine Ct.of plX9 (Nat.le_of_ble_eq_true rfl) ?_
  refine r_aload_n dX9_keep_0 rfl ?_
  refine r_get (k := 0) lfX9_47 dX9_keep_1 (Nat.le_of_ble_eq_true rfl) rfl rfl ?_
  refine i_bipush dX9_keep_4 (by decide) ?_
  refine r_iload_n dX9_keep_6 rfl ?_
  refine i_imul dX9_keep_7 ?_
  refine r_iload_n dX9_keep_8 rfl ?_
  refine i_iadd dX9_keep_9 ?_
  refine r_aload_n dX9_keep_10 rfl ?_
  refine r_get (k := 0) lfX9_41 dX9_keep_11 (Nat.le_of_ble_eq_true rfl) rfl rfl ?_
  refine r_iload_n dX9_keep_14 rfl ?_
  refine i_ald (k := 11) dX9_keep_15 (Nat.le_of_ble_eq_true rfl) rfl rfl ⟨by omega, by omega⟩ (by decide) ?_
  refine i_if_ne 24 dX9_keep_16 rfl ⟨by omega, by omega⟩ (fun q16 => ?_) (fun q16 => ?_)
  · skip
    refine r_aload_n dX9_keep_24 rfl ?_
    refine r_get (k := 0) lfX9_41 dX9_keep_25 (Nat.le_of_ble_eq_true rfl) rfl rfl ?_
    refine r_iload_n dX9_keep_28 rfl ?_
    refine i_ald (k := 11) dX9_keep_29 (Nat.le_of_ble_eq_true rfl) rfl rfl ⟨by omega, by omega⟩ (by decide) ?_
    refine i_const dX9_keep_30 ?_
    refine i_icmp_ne 39 dX9_keep_31 rfl ⟨by omega, by omega⟩ ⟨by omega, by omega⟩ (fun q31 => ?_) (fun q31 => ?_)
    · skip
      refine r_iload_n dX9_keep_39 rfl ?_
      refine i_ast (k := 13) dX9_keep_40 (Nat.le_of_ble_eq_true rfl) rfl rfl ⟨by omega, by omega⟩ (by decide) ?_
      refine r_vret rfl dX9_keep_41 ?_
      refine ⟨rfl, ?_⟩
      rw [show (48 * s + i).toNat = 48 * s.toNat + i.toNat by omega]
      unfold nar
      first
        | (rw [if_pos (by omega)])
        | (rw [if_neg (by omega), if_pos (by omega)])
        | (rw [if_neg (by omega), if_neg (by omega)])
    · skip
      refine r_iload_n dX9_keep_34 rfl ?_
      refine i_i2s dX9_keep_35 ?_
      refine r_goto 40 dX9_keep_36 rfl ?_
      refine i_ast (k := 13) dX9_keep_40 (Nat.le_of_ble_eq_true rfl) rfl rfl ⟨by omega, by omega⟩ (by decide) ?_
      refine r_vret rfl dX9_keep_41 ?_
      refine ⟨rfl, ?_⟩
      rw [show (48 * s + i).toNat = 48 * s.toNat + i.toNat by omega]
      unfold nar
      first
        | (rw [if_pos (by omega)])
        | (rw [if_neg (by omega), if_pos (by omega)])
        | (rw [if_neg (by omega), if_neg (by omega)])
  · skip
    refine r_iload_n dX9_keep_19 rfl ?_
    refine i_i2b dX9_keep_20 ?_
    refine r_goto 40 dX9_keep_21 rfl ?_
    refine i_ast (k := 13) dX9_keep_40 (Nat.le_of_ble_eq_true rfl) rfl rfl ⟨by omega, by omega⟩ (by decide) ?_
    refine r_vret rfl dX9_keep_41 ?_
    refine ⟨rfl, ?_⟩
    rw [show (48 * s + i).toNat = 48 * s.toNat + i.toNat by omega]
    unfold nar
    first
      | (rw [if_pos (by omega)])
      | (rw [if_neg (by omega), if_pos (by omega)])
      | (rw [if_neg (by omega), if_neg (by omega)])

set_option maxRecDepth 20000 in
theorem m_put (M σ : rl_S) (c : IM M σ) (hw : WF M) (s f i v : Int) (hs : -2147483648 ≤ s ∧ s < 2147483648) (hi : -2147483648 ≤ i ∧ i < 2147483648) (hv : -2147483648 ≤ v ∧ v < 2147483648) (hf0 : -2147483648 ≤ f ∧ f < 2147483648) : Ct mW mX9_put [.ref 0, .int (iI s), .int (iI f), .int (iI i), .int (iI v)] σ (qI (fun z σ' => z = (s_put M s f i v).1 ∧ IM (s_put M s f i v).2 σ')) := by
  refine Ct.of plX9 (Nat.le_of_ble_eq_true rfl) ?_
  have ob1 := ob_bd (decide (0 ≤ s ∧ s ≤ 3))
  have ob2 := ob_bd (decide (0 ≤ f ∧ f ≤ 2))
  have tb := trb_bd (1 - M 10 s.toNat) (M 11 s.toNat) (M 12 s.toNat) f i
  change 0 ≤ trM M s f i ∧ trM M s f i ≤ 3 at tb
  refine r_iload_n dX9_put_0 rfl ?_
  refine i_csP (m_isSheet _ s hs) lmX9_209 dX9_put_1 (by decide) (by decide) rfl rfl (Nat.le_of_ble_eq_true rfl) ?_
  refine i_if_eq 16 dX9_put_4 rfl (ob_i32 _) (fun q4 => ?_) (fun q4 => ?_)
  · have e4 := ob_df q4
    refine i_bipush dX9_put_16 (by decide) ?_
    refine r_iret rfl dX9_put_18 ?_
    first
      | (exfalso; omega)
      | (have e : s_put M s f i v = (-10 - trM M s f i, sup M 0 21 (trM M s f i)) := by unfold s_put; rw [if_pos (by omega), if_pos (by omega)]
         exact ⟨_, rfl, by rw [hm.1, e], by rw [hm.2, e]; exact im_sup c _ _ _⟩)
      | (have e : s_put M s f i v = (1, sup M 13 (48 * s.toNat + i.toNat) (nar (M 11 s.toNat) v)) := by unfold s_put; rw [if_pos (by omega), if_neg (by omega)]
         exact ⟨_, rfl, by rw [e], by rw [hk, e, c.1 11 _ (by decide)]; exact im_sup c _ _ _⟩)
      | (have e : s_put M s f i v = (-2, M) := by unfold s_put; rw [if_neg (by omega)]
         exact ⟨_, rfl, by rw [e], by rw [e]; exact c⟩)
  · have e4 := ob_dt q4
    refine r_iload_n dX9_put_7 rfl ?_
    refine i_const dX9_put_8 ?_
    refine i_const dX9_put_9 ?_
    refine i_csP (m_in σ f 0 2 hf0 (by decide) (by decide)) lmX9_55 dX9_put_10 (by decide) (by decide) rfl rfl (Nat.le_of_ble_eq_true rfl) ?_
    refine i_if_ne 19 dX9_put_13 rfl (ob_i32 _) (fun q13 => ?_) (fun q13 => ?_)
    · have e13 := ob_dt q13
      refine r_aload_n dX9_put_19 rfl ?_
      refine r_iload_n dX9_put_20 rfl ?_
      refine r_iload_n dX9_put_21 rfl ?_
      refine r_iload_n dX9_put_22 rfl ?_
      refine i_cvP (m_lacks M σ c hw s f i (by omega) (by omega) hi) lmX9_234 dX9_put_23 (Nat.le_of_ble_eq_true rfl) rfl ⟨_, _, rfl⟩ (by decide) (by decide) rfl rfl (Nat.le_of_ble_eq_true rfl) ?_
      refine r_istore dX9_put_26 (Nat.le_of_ble_eq_true rfl) ?_
      refine r_iload dX9_put_28 rfl ?_
      refine i_if_le 40 dX9_put_30 rfl ⟨by omega, by omega⟩ (fun q30 => ?_) (fun q30 => ?_)
      · skip
        have sh := wf_sh hw s.toNat (by omega)
        have ti : trM M s f i = 0 := by omega
        have ti2 : 0 ≤ i ∧ i < M 12 s.toNat := by
          unfold trM trb at ti
          split at ti
          · omega
          · split at ti
            · omega
            · split at ti
              · omega
              · omega
        refine r_aload_n dX9_put_40 rfl ?_
        refine r_iload_n dX9_put_41 rfl ?_
        refine r_iload_n dX9_put_42 rfl ?_
        refine r_iload dX9_put_43 rfl ?_
        refine i_cvV (m_keep σ s i v (by omega) (by omega) (by rw [c.1 11 _ (by decide)]; exact sh.2.1)) lmX9_237 dX9_put_45 (Nat.le_of_ble_eq_true rfl) rfl ⟨_, _, rfl⟩ (by decide) (by decide) rfl rfl (Nat.le_of_ble_eq_true rfl) (fun σ1 hk => ?_)
        refine i_const dX9_put_48 ?_
        refine r_iret rfl dX9_put_49 ?_
        first
          | (exfalso; omega)
          | (have e : s_put M s f i v = (-10 - trM M s f i, sup M 0 21 (trM M s f i)) := by unfold s_put; rw [if_pos (by omega), if_pos (by omega)]
             exact ⟨_, rfl, by rw [hm.1, e], by rw [hm.2, e]; exact im_sup c _ _ _⟩)
          | (have e : s_put M s f i v = (1, sup M 13 (48 * s.toNat + i.toNat) (nar (M 11 s.toNat) v)) := by unfold s_put; rw [if_pos (by omega), if_neg (by omega)]
             exact ⟨_, rfl, by rw [e], by rw [hk, e, c.1 11 _ (by decide)]; exact im_sup c _ _ _⟩)
          | (have e : s_put M s f i v = (-2, M) := by unfold s_put; rw [if_neg (by omega)]
             exact ⟨_, rfl, by rw [e], by rw [e]; exact c⟩)
      · skip
        refine r_aload_n dX9_put_33 rfl ?_
        refine r_iload dX9_put_34 rfl ?_
        refine i_cvI (m_meets σ (trM M s f i)) lmX9_212 dX9_put_36 (Nat.le_of_ble_eq_true rfl) rfl ⟨_, _, rfl⟩ (by decide) (by decide) rfl rfl (Nat.le_of_ble_eq_true rfl) (fun z1 σ1 hm => ?_)
        refine r_iret rfl dX9_put_39 ?_
        first
          | (exfalso; omega)
          | (have e : s_put M s f i v = (-10 - trM M s f i, sup M 0 21 (trM M s f i)) := by unfold s_put; rw [if_pos (by omega), if_pos (by omega)]
             exact ⟨_, rfl, by rw [hm.1, e], by rw [hm.2, e]; exact im_sup c _ _ _⟩)
          | (have e : s_put M s f i v = (1, sup M 13 (48 * s.toNat + i.toNat) (nar (M 11 s.toNat) v)) := by unfold s_put; rw [if_pos (by omega), if_neg (by omega)]
             exact ⟨_, rfl, by rw [e], by rw [hk, e, c.1 11 _ (by decide)]; exact im_sup c _ _ _⟩)
          | (have e : s_put M s f i v = (-2, M) := by unfold s_put; rw [if_neg (by omega)]
             exact ⟨_, rfl, by rw [e], by rw [e]; exact c⟩)
    · have e13 := ob_df q13
      refine i_bipush dX9_put_16 (by decide) ?_
      refine r_iret rfl dX9_put_18 ?_
      first
        | (exfalso; omega)
        | (have e : s_put M s f i v = (-10 - trM M s f i, sup M 0 21 (trM M s f i)) := by unfold s_put; rw [if_pos (by omega), if_pos (by omega)]
           exact ⟨_, rfl, by rw [hm.1, e], by rw [hm.2, e]; exact im_sup c _ _ _⟩)
        | (have e : s_put M s f i v = (1, sup M 13 (48 * s.toNat + i.toNat) (nar (M 11 s.toNat) v)) := by unfold s_put; rw [if_pos (by omega), if_neg (by omega)]
           exact ⟨_, rfl, by rw [e], by rw [hk, e, c.1 11 _ (by decide)]; exact im_sup c _ _ _⟩)
        | (have e : s_put M s f i v = (-2, M) := by unfold s_put; rw [if_neg (by omega)]
           exact ⟨_, rfl, by rw [e], by rw [e]; exact c⟩)

set_option maxRecDepth 20000 in
theorem m_get (M σ : rl_S) (c : IM M σ) (hw : WF M) (s f i : Int) (hs : -2147483648 ≤ s ∧ s < 2147483648) (hi : -2147483648 ≤ i ∧ i < 2147483648) (hf0 : -2147483648 ≤ f ∧ f < 2147483648) : Ct mW mX9_get [.ref 0, .int (iI s), .int (iI f), .int (iI i)] σ (qI (fun z σ' => z = (s_get M s f i).1 ∧ IM (s_get M s f i).2 σ')) := by
  refine Ct.of plX9 (Nat.le_of_ble_eq_true rfl) ?_
  have ob1 := ob_bd (decide (0 ≤ s ∧ s ≤ 3))
  have ob2 := ob_bd (decide (0 ≤ f ∧ f ≤ 2))
  have tb := trb_bd (1 - M 10 s.toNat) (M 11 s.toNat) (M 12 s.toNat) f i
  change 0 ≤ trM M s f i ∧ trM M s f i ≤ 3 at tb
  refine r_iload_n dX9_get_0 rfl ?_
  refine i_csP (m_isSheet _ s hs) lmX9_209 dX9_get_1 (by decide) (by decide) rfl rfl (Nat.le_of_ble_eq_true rfl) ?_
  refine i_if_eq 16 dX9_get_4 rfl (ob_i32 _) (fun q4 => ?_) (fun q4 => ?_)
  · have e4 := ob_df q4
    refine i_ldc lcX9_241 dX9_get_16 ?_
    refine r_iret rfl dX9_get_18 ?_
    first
      | (exfalso; omega)
      | (have e : s_get M s f i = (-2147483648, M) := by unfold s_get; rw [if_neg (by omega)]
         exact ⟨_, rfl, by rw [e]; exact (show (-2147483648 : Int32).toInt = -2147483648 from by decide), by rw [e]; exact c⟩)
      | (have e : s_get M s f i = (-2147483648, sup M 0 21 (trM M s f i)) := by unfold s_get; rw [if_pos (by omega), if_pos (by omega)]
         exact ⟨_, rfl, by rw [e]; exact (show (-2147483648 : Int32).toInt = -2147483648 from by decide), by rw [e]; exact im_sup c _ _ _⟩)
      | (have e : s_get M s f i = (M 13 (48 * s.toNat + i.toNat), M) := by unfold s_get; rw [if_pos (by omega), if_neg (by omega)]
         exact ⟨_, rfl, by rw [e], by rw [e]; exact c⟩)
  · have e4 := ob_dt q4
    refine r_iload_n dX9_get_7 rfl ?_
    refine i_const dX9_get_8 ?_
    refine i_const dX9_get_9 ?_
    refine i_csP (m_in σ f 0 2 hf0 (by decide) (by decide)) lmX9_55 dX9_get_10 (by decide) (by decide) rfl rfl (Nat.le_of_ble_eq_true rfl) ?_
    refine i_if_ne 19 dX9_get_13 rfl (ob_i32 _) (fun q13 => ?_) (fun q13 => ?_)
    · have e13 := ob_dt q13
      refine r_aload_n dX9_get_19 rfl ?_
      refine r_iload_n dX9_get_20 rfl ?_
      refine r_iload_n dX9_get_21 rfl ?_
      refine r_iload_n dX9_get_22 rfl ?_
      refine i_cvP (m_lacks M σ c hw s f i (by omega) (by omega) hi) lmX9_234 dX9_get_23 (Nat.le_of_ble_eq_true rfl) rfl ⟨_, _, rfl⟩ (by decide) (by decide) rfl rfl (Nat.le_of_ble_eq_true rfl) ?_
      refine r_istore dX9_get_26 (Nat.le_of_ble_eq_true rfl) ?_
      refine r_iload dX9_get_28 rfl ?_
      refine i_if_le 42 dX9_get_30 rfl ⟨by omega, by omega⟩ (fun q30 => ?_) (fun q30 => ?_)
      · skip
        have sh := wf_sh hw s.toNat (by omega)
        have ti : trM M s f i = 0 := by omega
        have ti2 : 0 ≤ i ∧ i < M 12 s.toNat := by
          unfold trM trb at ti
          split at ti
          · omega
          · split at ti
            · omega
            · split at ti
              · omega
              · omega
        refine r_aload_n dX9_get_42 rfl ?_
        refine r_get (k := 0) lfX9_47 dX9_get_43 (Nat.le_of_ble_eq_true rfl) rfl rfl ?_
        refine i_bipush dX9_get_46 (by decide) ?_
        refine r_iload_n dX9_get_48 rfl ?_
        refine i_imul dX9_get_49 ?_
        refine r_iload_n dX9_get_50 rfl ?_
        refine i_iadd dX9_get_51 ?_
        refine i_ald (k := 13) dX9_get_52 (Nat.le_of_ble_eq_true rfl) rfl rfl ⟨by omega, by omega⟩ (by decide) ?_
        rw [c.1 13 _ (by decide), show (48 * s + i).toNat = 48 * s.toNat + i.toNat by omega]
        refine r_iret rfl dX9_get_53 ?_
        first
          | (exfalso; omega)
          | (have e : s_get M s f i = (-2147483648, M) := by unfold s_get; rw [if_neg (by omega)]
             exact ⟨_, rfl, by rw [e]; exact (show (-2147483648 : Int32).toInt = -2147483648 from by decide), by rw [e]; exact c⟩)
          | (have e : s_get M s f i = (-2147483648, sup M 0 21 (trM M s f i)) := by unfold s_get; rw [if_pos (by omega), if_pos (by omega)]
             exact ⟨_, rfl, by rw [e]; exact (show (-2147483648 : Int32).toInt = -2147483648 from by decide), by rw [e]; exact im_sup c _ _ _⟩)
          | (have e : s_get M s f i = (M 13 (48 * s.toNat + i.toNat), M) := by unfold s_get; rw [if_pos (by omega), if_neg (by omega)]
             exact ⟨_, rfl, by rw [e], by rw [e]; exact c⟩)
      · skip
        refine r_aload_n dX9_get_33 rfl ?_
        refine r_iload dX9_get_34 rfl ?_
        refine i_put (k := 0) lpX9_231 dX9_get_36 (Nat.le_of_ble_eq_true rfl) rfl rfl ?_
        refine i_ldc lcX9_241 dX9_get_39 ?_
        refine r_iret rfl dX9_get_41 ?_
        first
          | (exfalso; omega)
          | (have e : s_get M s f i = (-2147483648, M) := by unfold s_get; rw [if_neg (by omega)]
             exact ⟨_, rfl, by rw [e]; exact (show (-2147483648 : Int32).toInt = -2147483648 from by decide), by rw [e]; exact c⟩)
          | (have e : s_get M s f i = (-2147483648, sup M 0 21 (trM M s f i)) := by unfold s_get; rw [if_pos (by omega), if_pos (by omega)]
             exact ⟨_, rfl, by rw [e]; exact (show (-2147483648 : Int32).toInt = -2147483648 from by decide), by rw [e]; exact im_sup c _ _ _⟩)
          | (have e : s_get M s f i = (M 13 (48 * s.toNat + i.toNat), M) := by unfold s_get; rw [if_pos (by omega), if_neg (by omega)]
             exact ⟨_, rfl, by rw [e], by rw [e]; exact c⟩)
    · have e13 := ob_df q13
      refine i_ldc lcX9_241 dX9_get_16 ?_
      refine r_iret rfl dX9_get_18 ?_
      first
        | (exfalso; omega)
        | (have e : s_get M s f i = (-2147483648, M) := by unfold s_get; rw [if_neg (by omega)]
           exact ⟨_, rfl, by rw [e]; exact (show (-2147483648 : Int32).toInt = -2147483648 from by decide), by rw [e]; exact c⟩)
        | (have e : s_get M s f i = (-2147483648, sup M 0 21 (trM M s f i)) := by unfold s_get; rw [if_pos (by omega), if_pos (by omega)]
           exact ⟨_, rfl, by rw [e]; exact (show (-2147483648 : Int32).toInt = -2147483648 from by decide), by rw [e]; exact im_sup c _ _ _⟩)
        | (have e : s_get M s f i = (M 13 (48 * s.toNat + i.toNat), M) := by unfold s_get; rw [if_pos (by omega), if_neg (by omega)]
           exact ⟨_, rfl, by rw [e], by rw [e]; exact c⟩)
