theorem c_read_l_0 (M : rl_S) (hw0 : WF M) : ∀ (n : Nat) (i took : Int) (M1 σ2 : rl_S), IC M1 σ2 → WF M1 → (∀ k, 10 ≤ k → M1 k = M k) → i = 2 * took → 0 ≤ took → 2 * took + 2 * n = 50 → Rn cW mX8_read 31 [.ref 0, .int (iI 0), .ref 22, .int (iI took), .int (iI i)] [] σ2 (qI (fun z σ' => z = (rd M 0 n i took M1).1 ∧ IC (rd M 0 n i took M1).2 σ')) := by
  intro n
  induction n with
  | zero =>
    intro i took M1 σ2 c hw hM hi t0 hn
    obtain ⟨gt, gs, gp, gg, gn, gh1, gf⟩ := id c
    obtain ⟨k1, k2, k3, k4⟩ := gh1.1
    obtain ⟨w1, w2, w3, w4⟩ := wf_sh hw 0 (by decide)
    refine r_iload dX8_read_31 rfl ?_
    refine i_const dX8_read_33 ?_
    refine i_iadd dX8_read_34 ?_
    refine r_aload_n dX8_read_35 rfl ?_
    refine r_get (k := 22) lfX8_234 dX8_read_36 (Nat.le_of_ble_eq_true rfl) rfl rfl ?_
    refine i_icmp_ge 74 dX8_read_39 rfl ⟨by omega, by omega⟩ ⟨by omega, by omega⟩ (fun q39 => ?_) (fun q39 => ?_)
    · skip
      refine r_iload_n dX8_read_74 rfl ?_
      refine r_iret rfl dX8_read_75 ?_
      exact ⟨_, rfl, rfl, c⟩
    · exfalso
      omega
  | succ n ih =>
    intro i took M1 σ2 c hw hM hi t0 hn
    obtain ⟨gt, gs, gp, gg, gn, gh1, gf⟩ := id c
    obtain ⟨k1, k2, k3, k4⟩ := gh1.1
    obtain ⟨w1, w2, w3, w4⟩ := wf_sh hw 0 (by decide)
    have e12 : M1 12 = M 12 := hM 12 (by decide)
    have e13 : M1 13 = M 13 := hM 13 (by decide)
    rw [e12] at w3
    have er : rd M 0 (n + 1) i took M1 = if i + 1 < M 12 0 then (if (s_seen M1 (M 13 (48 * 0 + i.toNat)) (M 13 (48 * 0 + i.toNat + 1))).1 < 0 then (took, M1) else rd M 0 n (i + 2) (took + 1) (s_seen M1 (M 13 (48 * 0 + i.toNat)) (M 13 (48 * 0 + i.toNat + 1))).2) else (took, M1) := rfl
    rw [er]
    have sb : -4 ≤ (s_seen M1 (M 13 (48 * 0 + i.toNat)) (M 13 (48 * 0 + i.toNat + 1))).1 ∧ (s_seen M1 (M 13 (48 * 0 + i.toNat)) (M 13 (48 * 0 + i.toNat + 1))).1 ≤ 9 := by
      have w9 := (wf_seen9 hw).1
      unfold s_seen
      split
      · split
        · show (-4 : Int) ≤ -4 ∧ (-4 : Int) ≤ 9; decide
        · show -4 ≤ M1 0 12 + 1 ∧ M1 0 12 + 1 ≤ 9; omega
      · show (-4 : Int) ≤ -2 ∧ (-2 : Int) ≤ 9; decide
    refine r_iload dX8_read_31 rfl ?_
    refine i_const dX8_read_33 ?_
    refine i_iadd dX8_read_34 ?_
    refine r_aload_n dX8_read_35 rfl ?_
    refine r_get (k := 22) lfX8_234 dX8_read_36 (Nat.le_of_ble_eq_true rfl) rfl rfl ?_
    rw [k3, e12]
    refine i_icmp_ge 74 dX8_read_39 rfl ⟨by omega, by omega⟩ ⟨by omega, by omega⟩ (fun q39 => ?_) (fun q39 => ?_)
    · skip
      refine r_iload_n dX8_read_74 rfl ?_
      refine r_iret rfl dX8_read_75 ?_
      rw [if_neg (by omega)]
      exact ⟨_, rfl, rfl, c⟩
    · skip
      refine r_aload_n dX8_read_42 rfl ?_
      refine r_aload_n dX8_read_43 rfl ?_
      refine r_iload dX8_read_44 rfl ?_
      refine i_cvP (c_itemAt_22 σ2 i (by omega) (by omega)) lmX8_235 dX8_read_46 (Nat.le_of_ble_eq_true rfl) rfl ⟨_, _, rfl⟩ (by decide) (by decide) rfl rfl (Nat.le_of_ble_eq_true rfl) ?_
      rw [k4 i.toNat (by omega), e13]
      refine r_aload_n dX8_read_49 rfl ?_
      refine r_iload dX8_read_50 rfl ?_
      refine i_const dX8_read_52 ?_
      refine i_iadd dX8_read_53 ?_
      refine i_cvP (c_itemAt_22 σ2 (i + 1) (by omega) (by omega)) lmX8_235 dX8_read_54 (Nat.le_of_ble_eq_true rfl) rfl ⟨_, _, rfl⟩ (by decide) (by decide) rfl rfl (Nat.le_of_ble_eq_true rfl) ?_
      rw [show (i + 1).toNat = i.toNat + 1 by omega, k4 (i.toNat + 1) (by omega), e13]
      rw [show 48 * 0 + (i.toNat + 1) = 48 * 0 + i.toNat + 1 by omega]
      refine i_cvI (c_seen M1 σ2 c hw (M 13 (48 * 0 + i.toNat)) (M 13 (48 * 0 + i.toNat + 1)) (by rw [← e13]; exact (w4 i.toNat (by omega)).2) (by rw [← e13]; exact (w4 (i.toNat + 1) (by omega)).2)) lmX8_238 dX8_read_57 (Nat.le_of_ble_eq_true rfl) rfl ⟨_, _, rfl⟩ (by decide) (by decide) rfl rfl (Nat.le_of_ble_eq_true rfl) (fun z1 σ1 hz => ?_)
      obtain ⟨rfl, cs⟩ := hz
      refine i_if_ge 65 dX8_read_60 rfl ⟨by omega, by omega⟩ (fun q60 => ?_) (fun q60 => ?_)
      · skip
        refine i_iinc dX8_read_65 rfl (Nat.le_of_ble_eq_true rfl) ?_
        refine i_iinc dX8_read_68 rfl (Nat.le_of_ble_eq_true rfl) ?_
        refine r_goto 31 dX8_read_71 rfl ?_
        rw [if_pos (by omega), if_neg (by omega)]
        refine ih (i + 2) (took + 1) _ _ cs (wf_sseen hw _ _) (fun k hk => ?_) (by omega) (by omega) (by omega)
        unfold s_seen
        split
        · split
          · exact hM k hk
          · dsimp only; rw [sup_ne _ _ _ (show k ≠ 0 by omega), sup_ne _ _ _ (show k ≠ 9 by omega), sup_ne _ _ _ (show k ≠ 8 by omega)]; exact hM k hk
        · exact hM k hk
      · skip
        refine r_iload_n dX8_read_63 rfl ?_
        refine r_iret rfl dX8_read_64 ?_
        rw [if_pos (by omega), if_pos (by omega)]
        rw [seen_neg hw _ _ (by omega)] at cs
        exact ⟨_, rfl, rfl, cs⟩

theorem c_read_l_1 (M : rl_S) (hw0 : WF M) : ∀ (n : Nat) (i took : Int) (M1 σ2 : rl_S), IC M1 σ2 → WF M1 → (∀ k, 10 ≤ k → M1 k = M k) → i = 2 * took → 0 ≤ took → 2 * took + 2 * n = 50 → Rn cW mX8_read 31 [.ref 0, .int (iI 1), .ref 24, .int (iI took), .int (iI i)] [] σ2 (qI (fun z σ' => z = (rd M 1 n i took M1).1 ∧ IC (rd M 1 n i took M1).2 σ')) := by
  intro n
  induction n with
  | zero =>
    intro i took M1 σ2 c hw hM hi t0 hn
    obtain ⟨gt, gs, gp, gg, gn, gh1, gf⟩ := id c
    obtain ⟨k1, k2, k3, k4⟩ := gh1.2.1
    obtain ⟨w1, w2, w3, w4⟩ := wf_sh hw 1 (by decide)
    refine r_iload dX8_read_31 rfl ?_
    refine i_const dX8_read_33 ?_
    refine i_iadd dX8_read_34 ?_
    refine r_aload_n dX8_read_35 rfl ?_
    refine r_get (k := 24) lfX8_234 dX8_read_36 (Nat.le_of_ble_eq_true rfl) rfl rfl ?_
    refine i_icmp_ge 74 dX8_read_39 rfl ⟨by omega, by omega⟩ ⟨by omega, by omega⟩ (fun q39 => ?_) (fun q39 => ?_)
    · skip
      refine r_iload_n dX8_read_74 rfl ?_
      refine r_iret rfl dX8_read_75 ?_
      exact ⟨_, rfl, rfl, c⟩
    · exfalso
      omega
  | succ n ih =>
    intro i took M1 σ2 c hw hM hi t0 hn
    obtain ⟨gt, gs, gp, gg, gn, gh1, gf⟩ := id c
    obtain ⟨k1, k2, k3, k4⟩ := gh1.2.1
    obtain ⟨w1, w2, w3, w4⟩ := wf_sh hw 1 (by decide)
    have e12 : M1 12 = M 12 := hM 12 (by decide)
    have e13 : M1 13 = M 13 := hM 13 (by decide)
    rw [e12] at w3
    have er : rd M 1 (n + 1) i took M1 = if i + 1 < M 12 1 then (if (s_seen M1 (M 13 (48 * 1 + i.toNat)) (M 13 (48 * 1 + i.toNat + 1))).1 < 0 then (took, M1) else rd M 1 n (i + 2) (took + 1) (s_seen M1 (M 13 (48 * 1 + i.toNat)) (M 13 (48 * 1 + i.toNat + 1))).2) else (took, M1) := rfl
    rw [er]
    have sb : -4 ≤ (s_seen M1 (M 13 (48 * 1 + i.toNat)) (M 13 (48 * 1 + i.toNat + 1))).1 ∧ (s_seen M1 (M 13 (48 * 1 + i.toNat)) (M 13 (48 * 1 + i.toNat + 1))).1 ≤ 9 := by
      have w9 := (wf_seen9 hw).1
      unfold s_seen
      split
      · split
        · show (-4 : Int) ≤ -4 ∧ (-4 : Int) ≤ 9; decide
        · show -4 ≤ M1 0 12 + 1 ∧ M1 0 12 + 1 ≤ 9; omega
      · show (-4 : Int) ≤ -2 ∧ (-2 : Int) ≤ 9; decide
    refine r_iload dX8_read_31 rfl ?_
    refine i_const dX8_read_33 ?_
    refine i_iadd dX8_read_34 ?_
    refine r_aload_n dX8_read_35 rfl ?_
    refine r_get (k := 24) lfX8_234 dX8_read_36 (Nat.le_of_ble_eq_true rfl) rfl rfl ?_
    rw [k3, e12]
    refine i_icmp_ge 74 dX8_read_39 rfl ⟨by omega, by omega⟩ ⟨by omega, by omega⟩ (fun q39 => ?_) (fun q39 => ?_)
    · skip
      refine r_iload_n dX8_read_74 rfl ?_
      refine r_iret rfl dX8_read_75 ?_
      rw [if_neg (by omega)]
      exact ⟨_, rfl, rfl, c⟩
    · skip
      refine r_aload_n dX8_read_42 rfl ?_
      refine r_aload_n dX8_read_43 rfl ?_
      refine r_iload dX8_read_44 rfl ?_
      refine i_cvP (c_itemAt_24 σ2 i (by omega) (by omega)) lmX8_235 dX8_read_46 (Nat.le_of_ble_eq_true rfl) rfl ⟨_, _, rfl⟩ (by decide) (by decide) rfl rfl (Nat.le_of_ble_eq_true rfl) ?_
      rw [k4 i.toNat (by omega), e13]
      refine r_aload_n dX8_read_49 rfl ?_
      refine r_iload dX8_read_50 rfl ?_
      refine i_const dX8_read_52 ?_
      refine i_iadd dX8_read_53 ?_
      refine i_cvP (c_itemAt_24 σ2 (i + 1) (by omega) (by omega)) lmX8_235 dX8_read_54 (Nat.le_of_ble_eq_true rfl) rfl ⟨_, _, rfl⟩ (by decide) (by decide) rfl rfl (Nat.le_of_ble_eq_true rfl) ?_
      rw [show (i + 1).toNat = i.toNat + 1 by omega, k4 (i.toNat + 1) (by omega), e13]
      rw [show 48 * 1 + (i.toNat + 1) = 48 * 1 + i.toNat + 1 by omega]
      refine i_cvI (c_seen M1 σ2 c hw (M 13 (48 * 1 + i.toNat)) (M 13 (48 * 1 + i.toNat + 1)) (by rw [← e13]; exact (w4 i.toNat (by omega)).2) (by rw [← e13]; exact (w4 (i.toNat + 1) (by omega)).2)) lmX8_238 dX8_read_57 (Nat.le_of_ble_eq_true rfl) rfl ⟨_, _, rfl⟩ (by decide) (by decide) rfl rfl (Nat.le_of_ble_eq_true rfl) (fun z1 σ1 hz => ?_)
      obtain ⟨rfl, cs⟩ := hz
      refine i_if_ge 65 dX8_read_60 rfl ⟨by omega, by omega⟩ (fun q60 => ?_) (fun q60 => ?_)
      · skip
        refine i_iinc dX8_read_65 rfl (Nat.le_of_ble_eq_true rfl) ?_
        refine i_iinc dX8_read_68 rfl (Nat.le_of_ble_eq_true rfl) ?_
        refine r_goto 31 dX8_read_71 rfl ?_
        rw [if_pos (by omega), if_neg (by omega)]
        refine ih (i + 2) (took + 1) _ _ cs (wf_sseen hw _ _) (fun k hk => ?_) (by omega) (by omega) (by omega)
        unfold s_seen
        split
        · split
          · exact hM k hk
          · dsimp only; rw [sup_ne _ _ _ (show k ≠ 0 by omega), sup_ne _ _ _ (show k ≠ 9 by omega), sup_ne _ _ _ (show k ≠ 8 by omega)]; exact hM k hk
        · exact hM k hk
      · skip
        refine r_iload_n dX8_read_63 rfl ?_
        refine r_iret rfl dX8_read_64 ?_
        rw [if_pos (by omega), if_pos (by omega)]
        rw [seen_neg hw _ _ (by omega)] at cs
        exact ⟨_, rfl, rfl, cs⟩

theorem c_read_l_2 (M : rl_S) (hw0 : WF M) : ∀ (n : Nat) (i took : Int) (M1 σ2 : rl_S), IC M1 σ2 → WF M1 → (∀ k, 10 ≤ k → M1 k = M k) → i = 2 * took → 0 ≤ took → 2 * took + 2 * n = 50 → Rn cW mX8_read 31 [.ref 0, .int (iI 2), .ref 26, .int (iI took), .int (iI i)] [] σ2 (qI (fun z σ' => z = (rd M 2 n i took M1).1 ∧ IC (rd M 2 n i took M1).2 σ')) := by
  intro n
  induction n with
  | zero =>
    intro i took M1 σ2 c hw hM hi t0 hn
    obtain ⟨gt, gs, gp, gg, gn, gh1, gf⟩ := id c
    obtain ⟨k1, k2, k3, k4⟩ := gh1.2.2.1
    obtain ⟨w1, w2, w3, w4⟩ := wf_sh hw 2 (by decide)
    refine r_iload dX8_read_31 rfl ?_
    refine i_const dX8_read_33 ?_
    refine i_iadd dX8_read_34 ?_
    refine r_aload_n dX8_read_35 rfl ?_
    refine r_get (k := 26) lfX8_234 dX8_read_36 (Nat.le_of_ble_eq_true rfl) rfl rfl ?_
    refine i_icmp_ge 74 dX8_read_39 rfl ⟨by omega, by omega⟩ ⟨by omega, by omega⟩ (fun q39 => ?_) (fun q39 => ?_)
    · skip
      refine r_iload_n dX8_read_74 rfl ?_
      refine r_iret rfl dX8_read_75 ?_
      exact ⟨_, rfl, rfl, c⟩
    · exfalso
      omega
  | succ n ih =>
    intro i took M1 σ2 c hw hM hi t0 hn
    obtain ⟨gt, gs, gp, gg, gn, gh1, gf⟩ := id c
    obtain ⟨k1, k2, k3, k4⟩ := gh1.2.2.1
    obtain ⟨w1, w2, w3, w4⟩ := wf_sh hw 2 (by decide)
    have e12 : M1 12 = M 12 := hM 12 (by decide)
    have e13 : M1 13 = M 13 := hM 13 (by decide)
    rw [e12] at w3
    have er : rd M 2 (n + 1) i took M1 = if i + 1 < M 12 2 then (if (s_seen M1 (M 13 (48 * 2 + i.toNat)) (M 13 (48 * 2 + i.toNat + 1))).1 < 0 then (took, M1) else rd M 2 n (i + 2) (took + 1) (s_seen M1 (M 13 (48 * 2 + i.toNat)) (M 13 (48 * 2 + i.toNat + 1))).2) else (took, M1) := rfl
    rw [er]
    have sb : -4 ≤ (s_seen M1 (M 13 (48 * 2 + i.toNat)) (M 13 (48 * 2 + i.toNat + 1))).1 ∧ (s_seen M1 (M 13 (48 * 2 + i.toNat)) (M 13 (48 * 2 + i.toNat + 1))).1 ≤ 9 := by
      have w9 := (wf_seen9 hw).1
      unfold s_seen
      split
      · split
        · show (-4 : Int) ≤ -4 ∧ (-4 : Int) ≤ 9; decide
        · show -4 ≤ M1 0 12 + 1 ∧ M1 0 12 + 1 ≤ 9; omega
      · show (-4 : Int) ≤ -2 ∧ (-2 : Int) ≤ 9; decide
    refine r_iload dX8_read_31 rfl ?_
    refine i_const dX8_read_33 ?_
    refine i_iadd dX8_read_34 ?_
    refine r_aload_n dX8_read_35 rfl ?_
    refine r_get (k := 26) lfX8_234 dX8_read_36 (Nat.le_of_ble_eq_true rfl) rfl rfl ?_
    rw [k3, e12]
    refine i_icmp_ge 74 dX8_read_39 rfl ⟨by omega, by omega⟩ ⟨by omega, by omega⟩ (fun q39 => ?_) (fun q39 => ?_)
    · skip
      refine r_iload_n dX8_read_74 rfl ?_
      refine r_iret rfl dX8_read_75 ?_
      rw [if_neg (by omega)]
      exact ⟨_, rfl, rfl, c⟩
    · skip
      refine r_aload_n dX8_read_42 rfl ?_
      refine r_aload_n dX8_read_43 rfl ?_
      refine r_iload dX8_read_44 rfl ?_
      refine i_cvP (c_itemAt_26 σ2 i (by omega) (by omega)) lmX8_235 dX8_read_46 (Nat.le_of_ble_eq_true rfl) rfl ⟨_, _, rfl⟩ (by decide) (by decide) rfl rfl (Nat.le_of_ble_eq_true rfl) ?_
      rw [k4 i.toNat (by omega), e13]
      refine r_aload_n dX8_read_49 rfl ?_
      refine r_iload dX8_read_50 rfl ?_
      refine i_const dX8_read_52 ?_
      refine i_iadd dX8_read_53 ?_
      refine i_cvP (c_itemAt_26 σ2 (i + 1) (by omega) (by omega)) lmX8_235 dX8_read_54 (Nat.le_of_ble_eq_true rfl) rfl ⟨_, _, rfl⟩ (by decide) (by decide) rfl rfl (Nat.le_of_ble_eq_true rfl) ?_
      rw [show (i + 1).toNat = i.toNat + 1 by omega, k4 (i.toNat + 1) (by omega), e13]
      rw [show 48 * 2 + (i.toNat + 1) = 48 * 2 + i.toNat + 1 by omega]
      refine i_cvI (c_seen M1 σ2 c hw (M 13 (48 * 2 + i.toNat)) (M 13 (48 * 2 + i.toNat + 1)) (by rw [← e13]; exact (w4 i.toNat (by omega)).2) (by rw [← e13]; exact (w4 (i.toNat + 1) (by omega)).2)) lmX8_238 dX8_read_57 (Nat.le_of_ble_eq_true rfl) rfl ⟨_, _, rfl⟩ (by decide) (by decide) rfl rfl (Nat.le_of_ble_eq_true rfl) (fun z1 σ1 hz => ?_)
      obtain ⟨rfl, cs⟩ := hz
      refine i_if_ge 65 dX8_read_60 rfl ⟨by omega, by omega⟩ (fun q60 => ?_) (fun q60 => ?_)
      · skip
        refine i_iinc dX8_read_65 rfl (Nat.le_of_ble_eq_true rfl) ?_
        refine i_iinc dX8_read_68 rfl (Nat.le_of_ble_eq_true rfl) ?_
        refine r_goto 31 dX8_read_71 rfl ?_
        rw [if_pos (by omega), if_neg (by omega)]
        refine ih (i + 2) (took + 1) _ _ cs (wf_sseen hw _ _) (fun k hk => ?_) (by omega) (by omega) (by omega)
        unfold s_seen
        split
        · split
          · exact hM k hk
          · dsimp only; rw [sup_ne _ _ _ (show k ≠ 0 by omega), sup_ne _ _ _ (show k ≠ 9 by omega), sup_ne _ _ _ (show k ≠ 8 by omega)]; exact hM k hk
        · exact hM k hk
      · skip
        refine r_iload_n dX8_read_63 rfl ?_
        refine r_iret rfl dX8_read_64 ?_
        rw [if_pos (by omega), if_pos (by omega)]
        rw [seen_neg hw _ _ (by omega)] at cs
        exact ⟨_, rfl, rfl, cs⟩

theorem c_read_l_3 (M : rl_S) (hw0 : WF M) : ∀ (n : Nat) (i took : Int) (M1 σ2 : rl_S), IC M1 σ2 → WF M1 → (∀ k, 10 ≤ k → M1 k = M k) → i = 2 * took → 0 ≤ took → 2 * took + 2 * n = 50 → Rn cW mX8_read 31 [.ref 0, .int (iI 3), .ref 28, .int (iI took), .int (iI i)] [] σ2 (qI (fun z σ' => z = (rd M 3 n i took M1).1 ∧ IC (rd M 3 n i took M1).2 σ')) := by
  intro n
  induction n with
  | zero =>
    intro i took M1 σ2 c hw hM hi t0 hn
    obtain ⟨gt, gs, gp, gg, gn, gh1, gf⟩ := id c
    obtain ⟨k1, k2, k3, k4⟩ := gh1.2.2.2
    obtain ⟨w1, w2, w3, w4⟩ := wf_sh hw 3 (by decide)
    refine r_iload dX8_read_31 rfl ?_
    refine i_const dX8_read_33 ?_
    refine i_iadd dX8_read_34 ?_
    refine r_aload_n dX8_read_35 rfl ?_
    refine r_get (k := 28) lfX8_234 dX8_read_36 (Nat.le_of_ble_eq_true rfl) rfl rfl ?_
    refine i_icmp_ge 74 dX8_read_39 rfl ⟨by omega, by omega⟩ ⟨by omega, by omega⟩ (fun q39 => ?_) (fun q39 => ?_)
    · skip
      refine r_iload_n dX8_read_74 rfl ?_
      refine r_iret rfl dX8_read_75 ?_
      exact ⟨_, rfl, rfl, c⟩
    · exfalso
      omega
  | succ n ih =>
    intro i took M1 σ2 c hw hM hi t0 hn
    obtain ⟨gt, gs, gp, gg, gn, gh1, gf⟩ := id c
    obtain ⟨k1, k2, k3, k4⟩ := gh1.2.2.2
    obtain ⟨w1, w2, w3, w4⟩ := wf_sh hw 3 (by decide)
    have e12 : M1 12 = M 12 := hM 12 (by decide)
    have e13 : M1 13 = M 13 := hM 13 (by decide)
    rw [e12] at w3
    have er : rd M 3 (n + 1) i took M1 = if i + 1 < M 12 3 then (if (s_seen M1 (M 13 (48 * 3 + i.toNat)) (M 13 (48 * 3 + i.toNat + 1))).1 < 0 then (took, M1) else rd M 3 n (i + 2) (took + 1) (s_seen M1 (M 13 (48 * 3 + i.toNat)) (M 13 (48 * 3 + i.toNat + 1))).2) else (took, M1) := rfl
    rw [er]
    have sb : -4 ≤ (s_seen M1 (M 13 (48 * 3 + i.toNat)) (M 13 (48 * 3 + i.toNat + 1))).1 ∧ (s_seen M1 (M 13 (48 * 3 + i.toNat)) (M 13 (48 * 3 + i.toNat + 1))).1 ≤ 9 := by
      have w9 := (wf_seen9 hw).1
      unfold s_seen
      split
      · split
        · show (-4 : Int) ≤ -4 ∧ (-4 : Int) ≤ 9; decide
        · show -4 ≤ M1 0 12 + 1 ∧ M1 0 12 + 1 ≤ 9; omega
      · show (-4 : Int) ≤ -2 ∧ (-2 : Int) ≤ 9; decide
    refine r_iload dX8_read_31 rfl ?_
    refine i_const dX8_read_33 ?_
    refine i_iadd dX8_read_34 ?_
    refine r_aload_n dX8_read_35 rfl ?_
    refine r_get (k := 28) lfX8_234 dX8_read_36 (Nat.le_of_ble_eq_true rfl) rfl rfl ?_
    rw [k3, e12]
    refine i_icmp_ge 74 dX8_read_39 rfl ⟨by omega, by omega⟩ ⟨by omega, by omega⟩ (fun q39 => ?_) (fun q39 => ?_)
    · skip
      refine r_iload_n dX8_read_74 rfl ?_
      refine r_iret rfl dX8_read_75 ?_
      rw [if_neg (by omega)]
      exact ⟨_, rfl, rfl, c⟩
    · skip
      refine r_aload_n dX8_read_42 rfl ?_
      refine r_aload_n dX8_read_43 rfl ?_
      refine r_iload dX8_read_44 rfl ?_
      refine i_cvP (c_itemAt_28 σ2 i (by omega) (by omega)) lmX8_235 dX8_read_46 (Nat.le_of_ble_eq_true rfl) rfl ⟨_, _, rfl⟩ (by decide) (by decide) rfl rfl (Nat.le_of_ble_eq_true rfl) ?_
      rw [k4 i.toNat (by omega), e13]
      refine r_aload_n dX8_read_49 rfl ?_
      refine r_iload dX8_read_50 rfl ?_
      refine i_const dX8_read_52 ?_
      refine i_iadd dX8_read_53 ?_
      refine i_cvP (c_itemAt_28 σ2 (i + 1) (by omega) (by omega)) lmX8_235 dX8_read_54 (Nat.le_of_ble_eq_true rfl) rfl ⟨_, _, rfl⟩ (by decide) (by decide) rfl rfl (Nat.le_of_ble_eq_true rfl) ?_
      rw [show (i + 1).toNat = i.toNat + 1 by omega, k4 (i.toNat + 1) (by omega), e13]
      rw [show 48 * 3 + (i.toNat + 1) = 48 * 3 + i.toNat + 1 by omega]
      refine i_cvI (c_seen M1 σ2 c hw (M 13 (48 * 3 + i.toNat)) (M 13 (48 * 3 + i.toNat + 1)) (by rw [← e13]; exact (w4 i.toNat (by omega)).2) (by rw [← e13]; exact (w4 (i.toNat + 1) (by omega)).2)) lmX8_238 dX8_read_57 (Nat.le_of_ble_eq_true rfl) rfl ⟨_, _, rfl⟩ (by decide) (by decide) rfl rfl (Nat.le_of_ble_eq_true rfl) (fun z1 σ1 hz => ?_)
      obtain ⟨rfl, cs⟩ := hz
      refine i_if_ge 65 dX8_read_60 rfl ⟨by omega, by omega⟩ (fun q60 => ?_) (fun q60 => ?_)
      · skip
        refine i_iinc dX8_read_65 rfl (Nat.le_of_ble_eq_true rfl) ?_
        refine i_iinc dX8_read_68 rfl (Nat.le_of_ble_eq_true rfl) ?_
        refine r_goto 31 dX8_read_71 rfl ?_
        rw [if_pos (by omega), if_neg (by omega)]
        refine ih (i + 2) (took + 1) _ _ cs (wf_sseen hw _ _) (fun k hk => ?_) (by omega) (by omega) (by omega)
        unfold s_seen
        split
        · split
          · exact hM k hk
          · dsimp only; rw [sup_ne _ _ _ (show k ≠ 0 by omega), sup_ne _ _ _ (show k ≠ 9 by omega), sup_ne _ _ _ (show k ≠ 8 by omega)]; exact hM k hk
        · exact hM k hk
      · skip
        refine r_iload_n dX8_read_63 rfl ?_
        refine r_iret rfl dX8_read_64 ?_
        rw [if_pos (by omega), if_pos (by omega)]
        rw [seen_neg hw _ _ (by omega)] at cs
        exact ⟨_, rfl, rfl, cs⟩

set_option maxRecDepth 20000 in
theorem c_read (M σ : rl_S) (c : IC M σ) (hw : WF M) (s : Int) (hs : -2147483648 ≤ s ∧ s < 2147483648) : Ct cW mX8_read [.ref 0, .int (iI s)] σ (qI (fun z σ' => z = (s_read M s).1 ∧ IC (s_read M s).2 σ')) := by
  refine Ct.of plX8 (Nat.le_of_ble_eq_true rfl) ?_
  obtain ⟨gt, gs, gp, gg, gn, gh1, gf⟩ := id c
  have hb := wf_hb hw
  have hh := gs.2.2.2.2
  rcases (show s = 0 ∨ s = 1 ∨ s = 2 ∨ s = 3 ∨ (s < 0 ∨ 3 < s) by omega) with rfl | rfl | rfl | rfl | n0
  · skip
    obtain ⟨k1, k2, k3, k4⟩ := gh1.1
    obtain ⟨w1, w2, w3, w4⟩ := wf_sh hw 0 (by decide)
    refine r_aload_n dX8_read_0 rfl ?_
    refine r_iload_n dX8_read_1 rfl ?_
    refine i_cvP (c_sheetOf_0 σ) lmX8_223 dX8_read_2 (Nat.le_of_ble_eq_true rfl) rfl ⟨_, _, rfl⟩ (by decide) (by decide) rfl rfl (Nat.le_of_ble_eq_true rfl) ?_
    refine r_astore_n dX8_read_5 (Nat.le_of_ble_eq_true rfl) ?_
    refine r_aload_n dX8_read_6 rfl ?_
    refine r_ifnonnull 13 dX8_read_7 rfl ?_
    refine r_aload_n dX8_read_13 rfl ?_
    refine r_get (k := 22) lfX8_227 dX8_read_14 (Nat.le_of_ble_eq_true rfl) rfl rfl ?_
    refine i_if_eq 26 dX8_read_17 rfl ⟨by omega, by omega⟩ (fun q17 => ?_) (fun q17 => ?_)
    · skip
      refine i_const dX8_read_26 ?_
      refine r_istore_n dX8_read_27 (Nat.le_of_ble_eq_true rfl) ?_
      refine i_const dX8_read_28 ?_
      refine r_istore dX8_read_29 (Nat.le_of_ble_eq_true rfl) ?_
      have e1 : s_read M 0 = rd M 0 25 0 0 M := by unfold s_read; rw [if_pos (by decide), if_neg (show ¬ M 10 (0 : Int).toNat = 0 from (show ¬ M 10 0 = 0 by omega))]
      rw [e1]
      exact c_read_l_0 M hw 25 0 0 M σ c hw (fun _ _ => rfl) (by omega) (by omega) (by omega)
    · skip
      refine r_aload_n dX8_read_20 rfl ?_
      refine i_const dX8_read_21 ?_
      refine i_cvI (c_find σ 1) lmX8_231 dX8_read_22 (Nat.le_of_ble_eq_true rfl) rfl ⟨_, _, rfl⟩ (by decide) (by decide) rfl rfl (Nat.le_of_ble_eq_true rfl) (fun z1 σ1 hf => ?_)
      refine r_iret rfl dX8_read_25 ?_
      obtain ⟨rfl, rfl⟩ := hf
      have e1 : s_read M 0 = (-11, sup M 0 21 1) := by unfold s_read; rw [if_pos (by decide), if_pos (show M 10 (0 : Int).toNat = 0 from (show M 10 0 = 0 by omega))]
      exact ⟨_, rfl, by rw [e1]; rfl, by rw [e1]; exact ic_find c 1⟩
  · skip
    obtain ⟨k1, k2, k3, k4⟩ := gh1.2.1
    obtain ⟨w1, w2, w3, w4⟩ := wf_sh hw 1 (by decide)
    refine r_aload_n dX8_read_0 rfl ?_
    refine r_iload_n dX8_read_1 rfl ?_
    refine i_cvP (c_sheetOf_1 σ) lmX8_223 dX8_read_2 (Nat.le_of_ble_eq_true rfl) rfl ⟨_, _, rfl⟩ (by decide) (by decide) rfl rfl (Nat.le_of_ble_eq_true rfl) ?_
    refine r_astore_n dX8_read_5 (Nat.le_of_ble_eq_true rfl) ?_
    refine r_aload_n dX8_read_6 rfl ?_
    refine r_ifnonnull 13 dX8_read_7 rfl ?_
    refine r_aload_n dX8_read_13 rfl ?_
    refine r_get (k := 24) lfX8_227 dX8_read_14 (Nat.le_of_ble_eq_true rfl) rfl rfl ?_
    refine i_if_eq 26 dX8_read_17 rfl ⟨by omega, by omega⟩ (fun q17 => ?_) (fun q17 => ?_)
    · skip
      refine i_const dX8_read_26 ?_
      refine r_istore_n dX8_read_27 (Nat.le_of_ble_eq_true rfl) ?_
      refine i_const dX8_read_28 ?_
      refine r_istore dX8_read_29 (Nat.le_of_ble_eq_true rfl) ?_
      have e1 : s_read M 1 = rd M 1 25 0 0 M := by unfold s_read; rw [if_pos (by decide), if_neg (show ¬ M 10 (1 : Int).toNat = 0 from (show ¬ M 10 1 = 0 by omega))]
      rw [e1]
      exact c_read_l_1 M hw 25 0 0 M σ c hw (fun _ _ => rfl) (by omega) (by omega) (by omega)
    · skip
      refine r_aload_n dX8_read_20 rfl ?_
      refine i_const dX8_read_21 ?_
      refine i_cvI (c_find σ 1) lmX8_231 dX8_read_22 (Nat.le_of_ble_eq_true rfl) rfl ⟨_, _, rfl⟩ (by decide) (by decide) rfl rfl (Nat.le_of_ble_eq_true rfl) (fun z1 σ1 hf => ?_)
      refine r_iret rfl dX8_read_25 ?_
      obtain ⟨rfl, rfl⟩ := hf
      have e1 : s_read M 1 = (-11, sup M 0 21 1) := by unfold s_read; rw [if_pos (by decide), if_pos (show M 10 (1 : Int).toNat = 0 from (show M 10 1 = 0 by omega))]
      exact ⟨_, rfl, by rw [e1]; rfl, by rw [e1]; exact ic_find c 1⟩
  · skip
    obtain ⟨k1, k2, k3, k4⟩ := gh1.2.2.1
    obtain ⟨w1, w2, w3, w4⟩ := wf_sh hw 2 (by decide)
    refine r_aload_n dX8_read_0 rfl ?_
    refine r_iload_n dX8_read_1 rfl ?_
    refine i_cvP (c_sheetOf_2 σ) lmX8_223 dX8_read_2 (Nat.le_of_ble_eq_true rfl) rfl ⟨_, _, rfl⟩ (by decide) (by decide) rfl rfl (Nat.le_of_ble_eq_true rfl) ?_
    refine r_astore_n dX8_read_5 (Nat.le_of_ble_eq_true rfl) ?_
    refine r_aload_n dX8_read_6 rfl ?_
    refine r_ifnonnull 13 dX8_read_7 rfl ?_
    refine r_aload_n dX8_read_13 rfl ?_
    refine r_get (k := 26) lfX8_227 dX8_read_14 (Nat.le_of_ble_eq_true rfl) rfl rfl ?_
    refine i_if_eq 26 dX8_read_17 rfl ⟨by omega, by omega⟩ (fun q17 => ?_) (fun q17 => ?_)
    · skip
      refine i_const dX8_read_26 ?_
      refine r_istore_n dX8_read_27 (Nat.le_of_ble_eq_true rfl) ?_
      refine i_const dX8_read_28 ?_
      refine r_istore dX8_read_29 (Nat.le_of_ble_eq_true rfl) ?_
      have e1 : s_read M 2 = rd M 2 25 0 0 M := by unfold s_read; rw [if_pos (by decide), if_neg (show ¬ M 10 (2 : Int).toNat = 0 from (show ¬ M 10 2 = 0 by omega))]
      rw [e1]
      exact c_read_l_2 M hw 25 0 0 M σ c hw (fun _ _ => rfl) (by omega) (by omega) (by omega)
    · skip
      refine r_aload_n dX8_read_20 rfl ?_
      refine i_const dX8_read_21 ?_
      refine i_cvI (c_find σ 1) lmX8_231 dX8_read_22 (Nat.le_of_ble_eq_true rfl) rfl ⟨_, _, rfl⟩ (by decide) (by decide) rfl rfl (Nat.le_of_ble_eq_true rfl) (fun z1 σ1 hf => ?_)
      refine r_iret rfl dX8_read_25 ?_
      obtain ⟨rfl, rfl⟩ := hf
      have e1 : s_read M 2 = (-11, sup M 0 21 1) := by unfold s_read; rw [if_pos (by decide), if_pos (show M 10 (2 : Int).toNat = 0 from (show M 10 2 = 0 by omega))]
      exact ⟨_, rfl, by rw [e1]; rfl, by rw [e1]; exact ic_find c 1⟩
  · skip
    obtain ⟨k1, k2, k3, k4⟩ := gh1.2.2.2
    obtain ⟨w1, w2, w3, w4⟩ := wf_sh hw 3 (by decide)
    refine r_aload_n dX8_read_0 rfl ?_
    refine r_iload_n dX8_read_1 rfl ?_
    refine i_cvP (c_sheetOf_3 σ) lmX8_223 dX8_read_2 (Nat.le_of_ble_eq_true rfl) rfl ⟨_, _, rfl⟩ (by decide) (by decide) rfl rfl (Nat.le_of_ble_eq_true rfl) ?_
    refine r_astore_n dX8_read_5 (Nat.le_of_ble_eq_true rfl) ?_
    refine r_aload_n dX8_read_6 rfl ?_
    refine r_ifnonnull 13 dX8_read_7 rfl ?_
    refine r_aload_n dX8_read_13 rfl ?_
    refine r_get (k := 28) lfX8_227 dX8_read_14 (Nat.le_of_ble_eq_true rfl) rfl rfl ?_
    refine i_if_eq 26 dX8_read_17 rfl ⟨by omega, by omega⟩ (fun q17 => ?_) (fun q17 => ?_)
    · skip
      refine i_const dX8_read_26 ?_
      refine r_istore_n dX8_read_27 (Nat.le_of_ble_eq_true rfl) ?_
      refine i_const dX8_read_28 ?_
      refine r_istore dX8_read_29 (Nat.le_of_ble_eq_true rfl) ?_
      have e1 : s_read M 3 = rd M 3 25 0 0 M := by unfold s_read; rw [if_pos (by decide), if_neg (show ¬ M 10 (3 : Int).toNat = 0 from (show ¬ M 10 3 = 0 by omega))]
      rw [e1]
      exact c_read_l_3 M hw 25 0 0 M σ c hw (fun _ _ => rfl) (by omega) (by omega) (by omega)
    · skip
      refine r_aload_n dX8_read_20 rfl ?_
      refine i_const dX8_read_21 ?_
      refine i_cvI (c_find σ 1) lmX8_231 dX8_read_22 (Nat.le_of_ble_eq_true rfl) rfl ⟨_, _, rfl⟩ (by decide) (by decide) rfl rfl (Nat.le_of_ble_eq_true rfl) (fun z1 σ1 hf => ?_)
      refine r_iret rfl dX8_read_25 ?_
      obtain ⟨rfl, rfl⟩ := hf
      have e1 : s_read M 3 = (-11, sup M 0 21 1) := by unfold s_read; rw [if_pos (by decide), if_pos (show M 10 (3 : Int).toNat = 0 from (show M 10 3 = 0 by omega))]
      exact ⟨_, rfl, by rw [e1]; rfl, by rw [e1]; exact ic_find c 1⟩
  · skip
    skip
    refine r_aload_n dX8_read_0 rfl ?_
    refine r_iload_n dX8_read_1 rfl ?_
    refine i_cvP (c_sheetOf_n σ s hs n0) lmX8_223 dX8_read_2 (Nat.le_of_ble_eq_true rfl) rfl ⟨_, _, rfl⟩ (by decide) (by decide) rfl rfl (Nat.le_of_ble_eq_true rfl) ?_
    refine r_astore_nN dX8_read_5 (Nat.le_of_ble_eq_true rfl) ?_
    refine r_aload_nN dX8_read_6 rfl ?_
    refine r_ifnonnullN dX8_read_7 ?_
    refine i_bipush dX8_read_10 (by decide) ?_
    refine r_iret rfl dX8_read_12 ?_
    exact ⟨_, rfl, by unfold s_read; rw [if_neg (by omega)], by unfold s_read; rw [if_neg (by omega)]; exact c⟩
