set_option maxRecDepth 20000 in
set_option maxHeartbeats 2000000 in
theorem c_copy (M σ : rl_S) (c : IC M σ) (hw : WF M) (s i t j n : Int) (hs : -2147483648 ≤ s ∧ s < 2147483648) (hi : -2147483648 ≤ i ∧ i < 2147483648) (ht : -2147483648 ≤ t ∧ t < 2147483648) (hj : -2147483648 ≤ j ∧ j < 2147483648) (hn : -2147483648 ≤ n ∧ n < 2147483648) : Ct cW mX8_copy [.ref 0, .int (iI s), .int (iI i), .int (iI t), .int (iI j), .int (iI n)] σ (qI (fun z σ' => z = (s_copy M s i t j n).1 ∧ IC (s_copy M s i t j n).2 σ')) := by
  refine Ct.of plX8 (Nat.le_of_ble_eq_true rfl) ?_
  obtain ⟨gt, gs, gp, gg, gn, gh1, gf⟩ := id c
  have hb := wf_hb hw
  have hh := gs.2.2.2.2
  rcases (show s = 0 ∨ s = 1 ∨ s = 2 ∨ s = 3 ∨ (s < 0 ∨ 3 < s) by omega) with rfl | rfl | rfl | rfl | n0 <;> rcases (show t = 0 ∨ t = 1 ∨ t = 2 ∨ t = 3 ∨ (t < 0 ∨ 3 < t) by omega) with rfl | rfl | rfl | rfl | n1
  · skip
    obtain ⟨ka1, ka2, ka3, ka4⟩ := gh1.1
    obtain ⟨wa1, wa2, wa3, wa4⟩ := wf_sh hw 0 (by decide)
    obtain ⟨kb1, kb2, kb3, kb4⟩ := gh1.1
    obtain ⟨wb1, wb2, wb3, wb4⟩ := wf_sh hw 0 (by decide)
    refine r_aload_n dX8_copy_0 rfl ?_
    refine r_iload_n dX8_copy_1 rfl ?_
    refine i_cvP (c_sheetOf_0 σ) lmX8_223 dX8_copy_2 (Nat.le_of_ble_eq_true rfl) rfl ⟨_, _, rfl⟩ (by decide) (by decide) rfl rfl (Nat.le_of_ble_eq_true rfl) ?_
    refine r_astore dX8_copy_5 (Nat.le_of_ble_eq_true rfl) ?_
    refine r_aload_n dX8_copy_7 rfl ?_
    refine r_iload_n dX8_copy_8 rfl ?_
    refine i_cvP (c_sheetOf_0 σ) lmX8_223 dX8_copy_9 (Nat.le_of_ble_eq_true rfl) rfl ⟨_, _, rfl⟩ (by decide) (by decide) rfl rfl (Nat.le_of_ble_eq_true rfl) ?_
    refine r_astore dX8_copy_12 (Nat.le_of_ble_eq_true rfl) ?_
    refine r_aload dX8_copy_14 rfl ?_
    refine r_ifnull dX8_copy_16 ?_
    refine r_aload dX8_copy_19 rfl ?_
    refine r_ifnonnull 27 dX8_copy_21 rfl ?_
    refine r_aload dX8_copy_27 rfl ?_
    refine r_get (k := 22) lfX8_227 dX8_copy_29 (Nat.le_of_ble_eq_true rfl) rfl rfl ?_
    refine i_if_ne 43 dX8_copy_32 rfl ⟨by omega, by omega⟩ (fun q32 => ?_) (fun q32 => ?_)
    · skip
      refine r_aload_n dX8_copy_43 rfl ?_
      refine i_const dX8_copy_44 ?_
      refine i_cvI (c_find σ 1) lmX8_231 dX8_copy_45 (Nat.le_of_ble_eq_true rfl) rfl ⟨_, _, rfl⟩ (by decide) (by decide) rfl rfl (Nat.le_of_ble_eq_true rfl) (fun z1 σ1 hf => ?_)
      refine r_iret rfl dX8_copy_48 ?_
      obtain ⟨rfl, rfl⟩ := hf
      have e1 : s_copy M 0 i 0 j n = (-10 - 1, sup M 0 21 1) := by unfold s_copy; rw [if_pos ⟨by decide, by decide⟩, if_pos (show M 10 (0 : Int).toNat = 0 ∨ M 10 (0 : Int).toNat = 0 from (show M 10 0 = 0 ∨ M 10 0 = 0 by omega))]; rfl
      exact ⟨_, rfl, by rw [e1], by rw [e1]; exact ic_find c _⟩
    · skip
      refine r_aload dX8_copy_35 rfl ?_
      refine r_get (k := 22) lfX8_227 dX8_copy_37 (Nat.le_of_ble_eq_true rfl) rfl rfl ?_
      refine i_if_eq 49 dX8_copy_40 rfl ⟨by omega, by omega⟩ (fun q40 => ?_) (fun q40 => ?_)
      · skip
        refine r_aload dX8_copy_49 rfl ?_
        refine r_get (k := 22) lfX8_266 dX8_copy_51 (Nat.le_of_ble_eq_true rfl) rfl rfl ?_
        refine r_aload dX8_copy_54 rfl ?_
        refine r_get (k := 22) lfX8_266 dX8_copy_56 (Nat.le_of_ble_eq_true rfl) rfl rfl ?_
        refine i_icmp_eq 68 dX8_copy_59 rfl ⟨by omega, by omega⟩ ⟨by omega, by omega⟩ (fun q59 => ?_) (fun q59 => ?_)
        · skip
          refine r_aload dX8_copy_68 rfl ?_
          refine r_iload_n dX8_copy_70 rfl ?_
          refine r_iload dX8_copy_71 rfl ?_
          refine i_cvP (c_holds_22 σ (by omega) (by omega) (by omega) i n hi hn) lmX8_269 dX8_copy_73 (Nat.le_of_ble_eq_true rfl) rfl ⟨_, _, rfl⟩ (by decide) (by decide) rfl rfl (Nat.le_of_ble_eq_true rfl) ?_
          have ob1 := ob_bd (decide (0 ≤ i ∧ 0 ≤ n ∧ i + n ≤ σ 22 3))
          refine i_if_eq 91 dX8_copy_76 rfl ⟨by omega, by omega⟩ (fun q76 => ?_) (fun q76 => ?_)
          · have e76 := ob_df q76
            refine r_aload_n dX8_copy_91 rfl ?_
            refine i_const dX8_copy_92 ?_
            refine i_cvI (c_find σ 2) lmX8_231 dX8_copy_93 (Nat.le_of_ble_eq_true rfl) rfl ⟨_, _, rfl⟩ (by decide) (by decide) rfl rfl (Nat.le_of_ble_eq_true rfl) (fun z1 σ1 hf => ?_)
            refine r_iret rfl dX8_copy_96 ?_
            obtain ⟨rfl, rfl⟩ := hf
            have e1 : s_copy M 0 i 0 j n = (-10 - 2, sup M 0 21 2) := by unfold s_copy; rw [if_pos ⟨by decide, by decide⟩, if_neg (show ¬ (M 10 (0 : Int).toNat = 0 ∨ M 10 (0 : Int).toNat = 0) from (show ¬ (M 10 0 = 0 ∨ M 10 0 = 0) by omega)), if_neg (show ¬ (M 11 (0 : Int).toNat ≠ M 11 (0 : Int).toNat) from (show ¬ (M 11 0 ≠ M 11 0) by omega)), if_neg (show ¬ (0 ≤ i ∧ 0 ≤ j ∧ 0 ≤ n ∧ i + n ≤ M 12 (0 : Int).toNat ∧ j + n ≤ M 12 (0 : Int).toNat) from (show ¬ (0 ≤ i ∧ 0 ≤ j ∧ 0 ≤ n ∧ i + n ≤ M 12 0 ∧ j + n ≤ M 12 0) by omega))]; rfl
            exact ⟨_, rfl, by rw [e1], by rw [e1]; exact ic_find c _⟩
          · have e76 := ob_dt q76
            refine r_aload dX8_copy_79 rfl ?_
            refine r_iload dX8_copy_81 rfl ?_
            refine r_iload dX8_copy_83 rfl ?_
            refine i_cvP (c_holds_22 σ (by omega) (by omega) (by omega) j n hj hn) lmX8_269 dX8_copy_85 (Nat.le_of_ble_eq_true rfl) rfl ⟨_, _, rfl⟩ (by decide) (by decide) rfl rfl (Nat.le_of_ble_eq_true rfl) ?_
            have ob2 := ob_bd (decide (0 ≤ j ∧ 0 ≤ n ∧ j + n ≤ σ 22 3))
            refine i_if_ne 97 dX8_copy_88 rfl ⟨by omega, by omega⟩ (fun q88 => ?_) (fun q88 => ?_)
            · have e88 := ob_dt q88
              refine r_aload dX8_copy_97 rfl ?_
              refine r_aload dX8_copy_99 rfl ?_
              refine r_iload_n dX8_copy_101 rfl ?_
              refine r_iload dX8_copy_102 rfl ?_
              refine r_iload dX8_copy_104 rfl ?_
              refine i_cvV (c_take_22_22 σ (by omega) i j n (by omega) (by omega) (by omega) (by omega) (by omega)) lmX8_272 dX8_copy_106 (Nat.le_of_ble_eq_true rfl) rfl ⟨_, _, rfl⟩ (by decide) (by decide) rfl rfl (Nat.le_of_ble_eq_true rfl) (fun σ1 hr => ?_)
              refine i_const dX8_copy_109 ?_
              refine r_iret rfl dX8_copy_110 ?_
              obtain ⟨r1, r2⟩ := hr
              have hf : M 11 0 = M 11 0 := by omega
              have e1 : s_copy M 0 i 0 j n = (1, (rngM M (48 * 0 + j.toNat) n.toNat (fun k => M 13 (48 * 0 + i.toNat + k)))) := by unfold s_copy; rw [if_pos ⟨by decide, by decide⟩, if_neg (show ¬ (M 10 (0 : Int).toNat = 0 ∨ M 10 (0 : Int).toNat = 0) from (show ¬ (M 10 0 = 0 ∨ M 10 0 = 0) by omega)), if_neg (show ¬ (M 11 (0 : Int).toNat ≠ M 11 (0 : Int).toNat) from (show ¬ (M 11 0 ≠ M 11 0) by omega)), if_pos (show 0 ≤ i ∧ 0 ≤ j ∧ 0 ≤ n ∧ i + n ≤ M 12 (0 : Int).toNat ∧ j + n ≤ M 12 (0 : Int).toNat from (show 0 ≤ i ∧ 0 ≤ j ∧ 0 ≤ n ∧ i + n ≤ M 12 0 ∧ j + n ≤ M 12 0 by omega))]; rfl
              refine ⟨_, rfl, by rw [e1], ?_⟩
              rw [e1]
              dsimp only
              have F : ∀ k x, k ≠ 22 → k ≠ 23 → σ1 k x = σ k x := fun k x _ h => r2 k x h
              have E10 : ∀ v, v ≠ 0 → (rngM M (48 * 0 + j.toNat) n.toNat (fun k => M 13 (48 * 0 + i.toNat + k))) 10 v = M 10 v := fun _ _ => rfl
              have E11 : ∀ v, v ≠ 0 → (rngM M (48 * 0 + j.toNat) n.toNat (fun k => M 13 (48 * 0 + i.toNat + k))) 11 v = M 11 v := fun _ _ => rfl
              have E12 : ∀ v, v ≠ 0 → (rngM M (48 * 0 + j.toNat) n.toNat (fun k => M 13 (48 * 0 + i.toNat + k))) 12 v = M 12 v := fun _ _ => rfl
              have E13 : ∀ v x, v ≠ 0 → x < 48 → (rngM M (48 * 0 + j.toNat) n.toNat (fun k => M 13 (48 * 0 + i.toNat + k))) 13 (48 * v + x) = M 13 (48 * v + x) := fun v x hv hx => rngM_out _ _ _ _ (by omega)
              exact ic_sheet c ⟨⟨(r2 _ _ (by decide)).trans kb1, (r2 _ _ (by decide)).trans kb2, (r2 _ _ (by decide)).trans kb3, fun x hx => by
                  have q := r1 x (by omega) (by omega)
                  rw [show ((x : Nat) : Int).toNat = x from rfl] at q
                  rw [q]
                  by_cases hz : j ≤ x ∧ (x : Int) < j + n
                  · rw [if_pos hz, rngM_in _ _ _ _ (by omega), ka4 (i + (x - j)).toNat (by omega), kb2, ← hf, (wa4 (i + (x - j)).toNat (by omega)).1, show 48 * 0 + i.toNat + (48 * 0 + x - (48 * 0 + j.toNat)) = 48 * 0 + (i + (x - j)).toNat by omega]
                  · rw [if_neg hz, rngM_out _ _ _ _ (by omega)]; exact kb4 x hx⟩, gs1_o gh1.2.1 (fun i => F 24 i (by decide) (by decide)) (fun i => F 25 i (by decide) (by decide)) (E10 1 (by decide)) (E11 1 (by decide)) (E12 1 (by decide)) (fun i hi => E13 1 i (by decide) hi), gs1_o gh1.2.2.1 (fun i => F 26 i (by decide) (by decide)) (fun i => F 27 i (by decide) (by decide)) (E10 2 (by decide)) (E11 2 (by decide)) (E12 2 (by decide)) (fun i hi => E13 2 i (by decide) hi), gs1_o gh1.2.2.2 (fun i => F 28 i (by decide) (by decide)) (fun i => F 29 i (by decide) (by decide)) (E10 3 (by decide)) (E11 3 (by decide)) (E12 3 (by decide)) (fun i hi => E13 3 i (by decide) hi)⟩ (fun k x h => r2 k x (by omega)) (fun k h => rngM_k _ _ _ _ (by omega))
            · have e88 := ob_df q88
              refine r_aload_n dX8_copy_91 rfl ?_
              refine i_const dX8_copy_92 ?_
              refine i_cvI (c_find σ 2) lmX8_231 dX8_copy_93 (Nat.le_of_ble_eq_true rfl) rfl ⟨_, _, rfl⟩ (by decide) (by decide) rfl rfl (Nat.le_of_ble_eq_true rfl) (fun z1 σ1 hf => ?_)
              refine r_iret rfl dX8_copy_96 ?_
              obtain ⟨rfl, rfl⟩ := hf
              have e1 : s_copy M 0 i 0 j n = (-10 - 2, sup M 0 21 2) := by unfold s_copy; rw [if_pos ⟨by decide, by decide⟩, if_neg (show ¬ (M 10 (0 : Int).toNat = 0 ∨ M 10 (0 : Int).toNat = 0) from (show ¬ (M 10 0 = 0 ∨ M 10 0 = 0) by omega)), if_neg (show ¬ (M 11 (0 : Int).toNat ≠ M 11 (0 : Int).toNat) from (show ¬ (M 11 0 ≠ M 11 0) by omega)), if_neg (show ¬ (0 ≤ i ∧ 0 ≤ j ∧ 0 ≤ n ∧ i + n ≤ M 12 (0 : Int).toNat ∧ j + n ≤ M 12 (0 : Int).toNat) from (show ¬ (0 ≤ i ∧ 0 ≤ j ∧ 0 ≤ n ∧ i + n ≤ M 12 0 ∧ j + n ≤ M 12 0) by omega))]; rfl
              exact ⟨_, rfl, by rw [e1], by rw [e1]; exact ic_find c _⟩
        · skip
          refine r_aload_n dX8_copy_62 rfl ?_
          refine i_const dX8_copy_63 ?_
          refine i_cvI (c_find σ 4) lmX8_231 dX8_copy_64 (Nat.le_of_ble_eq_true rfl) rfl ⟨_, _, rfl⟩ (by decide) (by decide) rfl rfl (Nat.le_of_ble_eq_true rfl) (fun z1 σ1 hf => ?_)
          refine r_iret rfl dX8_copy_67 ?_
          obtain ⟨rfl, rfl⟩ := hf
          have e1 : s_copy M 0 i 0 j n = (-10 - 4, sup M 0 21 4) := by unfold s_copy; rw [if_pos ⟨by decide, by decide⟩, if_neg (show ¬ (M 10 (0 : Int).toNat = 0 ∨ M 10 (0 : Int).toNat = 0) from (show ¬ (M 10 0 = 0 ∨ M 10 0 = 0) by omega)), if_pos (show M 11 (0 : Int).toNat ≠ M 11 (0 : Int).toNat from (show M 11 0 ≠ M 11 0 by omega))]; rfl
          exact ⟨_, rfl, by rw [e1], by rw [e1]; exact ic_find c _⟩
      · skip
        refine r_aload_n dX8_copy_43 rfl ?_
        refine i_const dX8_copy_44 ?_
        refine i_cvI (c_find σ 1) lmX8_231 dX8_copy_45 (Nat.le_of_ble_eq_true rfl) rfl ⟨_, _, rfl⟩ (by decide) (by decide) rfl rfl (Nat.le_of_ble_eq_true rfl) (fun z1 σ1 hf => ?_)
        refine r_iret rfl dX8_copy_48 ?_
        obtain ⟨rfl, rfl⟩ := hf
        have e1 : s_copy M 0 i 0 j n = (-10 - 1, sup M 0 21 1) := by unfold s_copy; rw [if_pos ⟨by decide, by decide⟩, if_pos (show M 10 (0 : Int).toNat = 0 ∨ M 10 (0 : Int).toNat = 0 from (show M 10 0 = 0 ∨ M 10 0 = 0 by omega))]; rfl
        exact ⟨_, rfl, by rw [e1], by rw [e1]; exact ic_find c _⟩
  · skip
    obtain ⟨ka1, ka2, ka3, ka4⟩ := gh1.1
    obtain ⟨wa1, wa2, wa3, wa4⟩ := wf_sh hw 0 (by decide)
    obtain ⟨kb1, kb2, kb3, kb4⟩ := gh1.2.1
    obtain ⟨wb1, wb2, wb3, wb4⟩ := wf_sh hw 1 (by decide)
    refine r_aload_n dX8_copy_0 rfl ?_
    refine r_iload_n dX8_copy_1 rfl ?_
    refine i_cvP (c_sheetOf_0 σ) lmX8_223 dX8_copy_2 (Nat.le_of_ble_eq_true rfl) rfl ⟨_, _, rfl⟩ (by decide) (by decide) rfl rfl (Nat.le_of_ble_eq_true rfl) ?_
    refine r_astore dX8_copy_5 (Nat.le_of_ble_eq_true rfl) ?_
    refine r_aload_n dX8_copy_7 rfl ?_
    refine r_iload_n dX8_copy_8 rfl ?_
    refine i_cvP (c_sheetOf_1 σ) lmX8_223 dX8_copy_9 (Nat.le_of_ble_eq_true rfl) rfl ⟨_, _, rfl⟩ (by decide) (by decide) rfl rfl (Nat.le_of_ble_eq_true rfl) ?_
    refine r_astore dX8_copy_12 (Nat.le_of_ble_eq_true rfl) ?_
    refine r_aload dX8_copy_14 rfl ?_
    refine r_ifnull dX8_copy_16 ?_
    refine r_aload dX8_copy_19 rfl ?_
    refine r_ifnonnull 27 dX8_copy_21 rfl ?_
    refine r_aload dX8_copy_27 rfl ?_
    refine r_get (k := 22) lfX8_227 dX8_copy_29 (Nat.le_of_ble_eq_true rfl) rfl rfl ?_
    refine i_if_ne 43 dX8_copy_32 rfl ⟨by omega, by omega⟩ (fun q32 => ?_) (fun q32 => ?_)
    · skip
      refine r_aload_n dX8_copy_43 rfl ?_
      refine i_const dX8_copy_44 ?_
      refine i_cvI (c_find σ 1) lmX8_231 dX8_copy_45 (Nat.le_of_ble_eq_true rfl) rfl ⟨_, _, rfl⟩ (by decide) (by decide) rfl rfl (Nat.le_of_ble_eq_true rfl) (fun z1 σ1 hf => ?_)
      refine r_iret rfl dX8_copy_48 ?_
      obtain ⟨rfl, rfl⟩ := hf
      have e1 : s_copy M 0 i 1 j n = (-10 - 1, sup M 0 21 1) := by unfold s_copy; rw [if_pos ⟨by decide, by decide⟩, if_pos (show M 10 (0 : Int).toNat = 0 ∨ M 10 (1 : Int).toNat = 0 from (show M 10 0 = 0 ∨ M 10 1 = 0 by omega))]; rfl
      exact ⟨_, rfl, by rw [e1], by rw [e1]; exact ic_find c _⟩
    · skip
      refine r_aload dX8_copy_35 rfl ?_
      refine r_get (k := 24) lfX8_227 dX8_copy_37 (Nat.le_of_ble_eq_true rfl) rfl rfl ?_
      refine i_if_eq 49 dX8_copy_40 rfl ⟨by omega, by omega⟩ (fun q40 => ?_) (fun q40 => ?_)
      · skip
        refine r_aload dX8_copy_49 rfl ?_
        refine r_get (k := 22) lfX8_266 dX8_copy_51 (Nat.le_of_ble_eq_true rfl) rfl rfl ?_
        refine r_aload dX8_copy_54 rfl ?_
        refine r_get (k := 24) lfX8_266 dX8_copy_56 (Nat.le_of_ble_eq_true rfl) rfl rfl ?_
        refine i_icmp_eq 68 dX8_copy_59 rfl ⟨by omega, by omega⟩ ⟨by omega, by omega⟩ (fun q59 => ?_) (fun q59 => ?_)
        · skip
          refine r_aload dX8_copy_68 rfl ?_
          refine r_iload_n dX8_copy_70 rfl ?_
          refine r_iload dX8_copy_71 rfl ?_
          refine i_cvP (c_holds_22 σ (by omega) (by omega) (by omega) i n hi hn) lmX8_269 dX8_copy_73 (Nat.le_of_ble_eq_true rfl) rfl ⟨_, _, rfl⟩ (by decide) (by decide) rfl rfl (Nat.le_of_ble_eq_true rfl) ?_
          have ob1 := ob_bd (decide (0 ≤ i ∧ 0 ≤ n ∧ i + n ≤ σ 22 3))
          refine i_if_eq 91 dX8_copy_76 rfl ⟨by omega, by omega⟩ (fun q76 => ?_) (fun q76 => ?_)
          · have e76 := ob_df q76
            refine r_aload_n dX8_copy_91 rfl ?_
            refine i_const dX8_copy_92 ?_
            refine i_cvI (c_find σ 2) lmX8_231 dX8_copy_93 (Nat.le_of_ble_eq_true rfl) rfl ⟨_, _, rfl⟩ (by decide) (by decide) rfl rfl (Nat.le_of_ble_eq_true rfl) (fun z1 σ1 hf => ?_)
            refine r_iret rfl dX8_copy_96 ?_
            obtain ⟨rfl, rfl⟩ := hf
            have e1 : s_copy M 0 i 1 j n = (-10 - 2, sup M 0 21 2) := by unfold s_copy; rw [if_pos ⟨by decide, by decide⟩, if_neg (show ¬ (M 10 (0 : Int).toNat = 0 ∨ M 10 (1 : Int).toNat = 0) from (show ¬ (M 10 0 = 0 ∨ M 10 1 = 0) by omega)), if_neg (show ¬ (M 11 (0 : Int).toNat ≠ M 11 (1 : Int).toNat) from (show ¬ (M 11 0 ≠ M 11 1) by omega)), if_neg (show ¬ (0 ≤ i ∧ 0 ≤ j ∧ 0 ≤ n ∧ i + n ≤ M 12 (0 : Int).toNat ∧ j + n ≤ M 12 (1 : Int).toNat) from (show ¬ (0 ≤ i ∧ 0 ≤ j ∧ 0 ≤ n ∧ i + n ≤ M 12 0 ∧ j + n ≤ M 12 1) by omega))]; rfl
            exact ⟨_, rfl, by rw [e1], by rw [e1]; exact ic_find c _⟩
          · have e76 := ob_dt q76
            refine r_aload dX8_copy_79 rfl ?_
            refine r_iload dX8_copy_81 rfl ?_
            refine r_iload dX8_copy_83 rfl ?_
            refine i_cvP (c_holds_24 σ (by omega) (by omega) (by omega) j n hj hn) lmX8_269 dX8_copy_85 (Nat.le_of_ble_eq_true rfl) rfl ⟨_, _, rfl⟩ (by decide) (by decide) rfl rfl (Nat.le_of_ble_eq_true rfl) ?_
            have ob2 := ob_bd (decide (0 ≤ j ∧ 0 ≤ n ∧ j + n ≤ σ 24 3))
            refine i_if_ne 97 dX8_copy_88 rfl ⟨by omega, by omega⟩ (fun q88 => ?_) (fun q88 => ?_)
            · have e88 := ob_dt q88
              refine r_aload dX8_copy_97 rfl ?_
              refine r_aload dX8_copy_99 rfl ?_
              refine r_iload_n dX8_copy_101 rfl ?_
              refine r_iload dX8_copy_102 rfl ?_
              refine r_iload dX8_copy_104 rfl ?_
              refine i_cvV (c_take_24_22 σ (by omega) i j n (by omega) (by omega) (by omega) (by omega) (by omega)) lmX8_272 dX8_copy_106 (Nat.le_of_ble_eq_true rfl) rfl ⟨_, _, rfl⟩ (by decide) (by decide) rfl rfl (Nat.le_of_ble_eq_true rfl) (fun σ1 hr => ?_)
              refine i_const dX8_copy_109 ?_
              refine r_iret rfl dX8_copy_110 ?_
              obtain ⟨r1, r2⟩ := hr
              have hf : M 11 0 = M 11 1 := by omega
              have e1 : s_copy M 0 i 1 j n = (1, (rngM M (48 * 1 + j.toNat) n.toNat (fun k => M 13 (48 * 0 + i.toNat + k)))) := by unfold s_copy; rw [if_pos ⟨by decide, by decide⟩, if_neg (show ¬ (M 10 (0 : Int).toNat = 0 ∨ M 10 (1 : Int).toNat = 0) from (show ¬ (M 10 0 = 0 ∨ M 10 1 = 0) by omega)), if_neg (show ¬ (M 11 (0 : Int).toNat ≠ M 11 (1 : Int).toNat) from (show ¬ (M 11 0 ≠ M 11 1) by omega)), if_pos (show 0 ≤ i ∧ 0 ≤ j ∧ 0 ≤ n ∧ i + n ≤ M 12 (0 : Int).toNat ∧ j + n ≤ M 12 (1 : Int).toNat from (show 0 ≤ i ∧ 0 ≤ j ∧ 0 ≤ n ∧ i + n ≤ M 12 0 ∧ j + n ≤ M 12 1 by omega))]; rfl
              refine ⟨_, rfl, by rw [e1], ?_⟩
              rw [e1]
              dsimp only
              have F : ∀ k x, k ≠ 24 → k ≠ 25 → σ1 k x = σ k x := fun k x _ h => r2 k x h
              have E10 : ∀ v, v ≠ 1 → (rngM M (48 * 1 + j.toNat) n.toNat (fun k => M 13 (48 * 0 + i.toNat + k))) 10 v = M 10 v := fun _ _ => rfl
              have E11 : ∀ v, v ≠ 1 → (rngM M (48 * 1 + j.toNat) n.toNat (fun k => M 13 (48 * 0 + i.toNat + k))) 11 v = M 11 v := fun _ _ => rfl
              have E12 : ∀ v, v ≠ 1 → (rngM M (48 * 1 + j.toNat) n.toNat (fun k => M 13 (48 * 0 + i.toNat + k))) 12 v = M 12 v := fun _ _ => rfl
              have E13 : ∀ v x, v ≠ 1 → x < 48 → (rngM M (48 * 1 + j.toNat) n.toNat (fun k => M 13 (48 * 0 + i.toNat + k))) 13 (48 * v + x) = M 13 (48 * v + x) := fun v x hv hx => rngM_out _ _ _ _ (by omega)
              exact ic_sheet c ⟨gs1_o gh1.1 (fun i => F 22 i (by decide) (by decide)) (fun i => F 23 i (by decide) (by decide)) (E10 0 (by decide)) (E11 0 (by decide)) (E12 0 (by decide)) (fun i hi => E13 0 i (by decide) hi), ⟨(r2 _ _ (by decide)).trans kb1, (r2 _ _ (by decide)).trans kb2, (r2 _ _ (by decide)).trans kb3, fun x hx => by
                  have q := r1 x (by omega) (by omega)
                  rw [show ((x : Nat) : Int).toNat = x from rfl] at q
                  rw [q]
                  by_cases hz : j ≤ x ∧ (x : Int) < j + n
                  · rw [if_pos hz, rngM_in _ _ _ _ (by omega), ka4 (i + (x - j)).toNat (by omega), kb2, ← hf, (wa4 (i + (x - j)).toNat (by omega)).1, show 48 * 0 + i.toNat + (48 * 1 + x - (48 * 1 + j.toNat)) = 48 * 0 + (i + (x - j)).toNat by omega]
                  · rw [if_neg hz, rngM_out _ _ _ _ (by omega)]; exact kb4 x hx⟩, gs1_o gh1.2.2.1 (fun i => F 26 i (by decide) (by decide)) (fun i => F 27 i (by decide) (by decide)) (E10 2 (by decide)) (E11 2 (by decide)) (E12 2 (by decide)) (fun i hi => E13 2 i (by decide) hi), gs1_o gh1.2.2.2 (fun i => F 28 i (by decide) (by decide)) (fun i => F 29 i (by decide) (by decide)) (E10 3 (by decide)) (E11 3 (by decide)) (E12 3 (by decide)) (fun i hi => E13 3 i (by decide) hi)⟩ (fun k x h => r2 k x (by omega)) (fun k h => rngM_k _ _ _ _ (by omega))
            · have e88 := ob_df q88
              refine r_aload_n dX8_copy_91 rfl ?_
              refine i_const dX8_copy_92 ?_
              refine i_cvI (c_find σ 2) lmX8_231 dX8_copy_93 (Nat.le_of_ble_eq_true rfl) rfl ⟨_, _, rfl⟩ (by decide) (by decide) rfl rfl (Nat.le_of_ble_eq_true rfl) (fun z1 σ1 hf => ?_)
              refine r_iret rfl dX8_copy_96 ?_
              obtain ⟨rfl, rfl⟩ := hf
              have e1 : s_copy M 0 i 1 j n = (-10 - 2, sup M 0 21 2) := by unfold s_copy; rw [if_pos ⟨by decide, by decide⟩, if_neg (show ¬ (M 10 (0 : Int).toNat = 0 ∨ M 10 (1 : Int).toNat = 0) from (show ¬ (M 10 0 = 0 ∨ M 10 1 = 0) by omega)), if_neg (show ¬ (M 11 (0 : Int).toNat ≠ M 11 (1 : Int).toNat) from (show ¬ (M 11 0 ≠ M 11 1) by omega)), if_neg (show ¬ (0 ≤ i ∧ 0 ≤ j ∧ 0 ≤ n ∧ i + n ≤ M 12 (0 : Int).toNat ∧ j + n ≤ M 12 (1 : Int).toNat) from (show ¬ (0 ≤ i ∧ 0 ≤ j ∧ 0 ≤ n ∧ i + n ≤ M 12 0 ∧ j + n ≤ M 12 1) by omega))]; rfl
              exact ⟨_, rfl, by rw [e1], by rw [e1]; exact ic_find c _⟩
        · skip
          refine r_aload_n dX8_copy_62 rfl ?_
          refine i_const dX8_copy_63 ?_
          refine i_cvI (c_find σ 4) lmX8_231 dX8_copy_64 (Nat.le_of_ble_eq_true rfl) rfl ⟨_, _, rfl⟩ (by decide) (by decide) rfl rfl (Nat.le_of_ble_eq_true rfl) (fun z1 σ1 hf => ?_)
          refine r_iret rfl dX8_copy_67 ?_
          obtain ⟨rfl, rfl⟩ := hf
          have e1 : s_copy M 0 i 1 j n = (-10 - 4, sup M 0 21 4) := by unfold s_copy; rw [if_pos ⟨by decide, by decide⟩, if_neg (show ¬ (M 10 (0 : Int).toNat = 0 ∨ M 10 (1 : Int).toNat = 0) from (show ¬ (M 10 0 = 0 ∨ M 10 1 = 0) by omega)), if_pos (show M 11 (0 : Int).toNat ≠ M 11 (1 : Int).toNat from (show M 11 0 ≠ M 11 1 by omega))]; rfl
          exact ⟨_, rfl, by rw [e1], by rw [e1]; exact ic_find c _⟩
      · skip
        refine r_aload_n dX8_copy_43 rfl ?_
        refine i_const dX8_copy_44 ?_
        refine i_cvI (c_find σ 1) lmX8_231 dX8_copy_45 (Nat.le_of_ble_eq_true rfl) rfl ⟨_, _, rfl⟩ (by decide) (by decide) rfl rfl (Nat.le_of_ble_eq_true rfl) (fun z1 σ1 hf => ?_)
        refine r_iret rfl dX8_copy_48 ?_
        obtain ⟨rfl, rfl⟩ := hf
        have e1 : s_copy M 0 i 1 j n = (-10 - 1, sup M 0 21 1) := by unfold s_copy; rw [if_pos ⟨by decide, by decide⟩, if_pos (show M 10 (0 : Int).toNat = 0 ∨ M 10 (1 : Int).toNat = 0 from (show M 10 0 = 0 ∨ M 10 1 = 0 by omega))]; rfl
        exact ⟨_, rfl, by rw [e1], by rw [e1]; exact ic_find c _⟩
  · skip
    obtain ⟨ka1, ka2, ka3, ka4⟩ := gh1.1
    obtain ⟨wa1, wa2, wa3, wa4⟩ := wf_sh hw 0 (by decide)
    obtain ⟨kb1, kb2, kb3, kb4⟩ := gh1.2.2.1
    obtain ⟨wb1, wb2, wb3, wb4⟩ := wf_sh hw 2 (by decide)
    refine r_aload_n dX8_copy_0 rfl ?_
    refine r_iload_n dX8_copy_1 rfl ?_
    refine i_cvP (c_sheetOf_0 σ) lmX8_223 dX8_copy_2 (Nat.le_of_ble_eq_true rfl) rfl ⟨_, _, rfl⟩ (by decide) (by decide) rfl rfl (Nat.le_of_ble_eq_true rfl) ?_
    refine r_astore dX8_copy_5 (Nat.le_of_ble_eq_true rfl) ?_
    refine r_aload_n dX8_copy_7 rfl ?_
    refine r_iload_n dX8_copy_8 rfl ?_
    refine i_cvP (c_sheetOf_2 σ) lmX8_223 dX8_copy_9 (Nat.le_of_ble_eq_true rfl) rfl ⟨_, _, rfl⟩ (by decide) (by decide) rfl rfl (Nat.le_of_ble_eq_true rfl) ?_
    refine r_astore dX8_copy_12 (Nat.le_of_ble_eq_true rfl) ?_
    refine r_aload dX8_copy_14 rfl ?_
    refine r_ifnull dX8_copy_16 ?_
    refine r_aload dX8_copy_19 rfl ?_
    refine r_ifnonnull 27 dX8_copy_21 rfl ?_
    refine r_aload dX8_copy_27 rfl ?_
    refine r_get (k := 22) lfX8_227 dX8_copy_29 (Nat.le_of_ble_eq_true rfl) rfl rfl ?_
    refine i_if_ne 43 dX8_copy_32 rfl ⟨by omega, by omega⟩ (fun q32 => ?_) (fun q32 => ?_)
    · skip
      refine r_aload_n dX8_copy_43 rfl ?_
      refine i_const dX8_copy_44 ?_
      refine i_cvI (c_find σ 1) lmX8_231 dX8_copy_45 (Nat.le_of_ble_eq_true rfl) rfl ⟨_, _, rfl⟩ (by decide) (by decide) rfl rfl (Nat.le_of_ble_eq_true rfl) (fun z1 σ1 hf => ?_)
      refine r_iret rfl dX8_copy_48 ?_
      obtain ⟨rfl, rfl⟩ := hf
      have e1 : s_copy M 0 i 2 j n = (-10 - 1, sup M 0 21 1) := by unfold s_copy; rw [if_pos ⟨by decide, by decide⟩, if_pos (show M 10 (0 : Int).toNat = 0 ∨ M 10 (2 : Int).toNat = 0 from (show M 10 0 = 0 ∨ M 10 2 = 0 by omega))]; rfl
      exact ⟨_, rfl, by rw [e1], by rw [e1]; exact ic_find c _⟩
    · skip
      refine r_aload dX8_copy_35 rfl ?_
      refine r_get (k := 26) lfX8_227 dX8_copy_37 (Nat.le_of_ble_eq_true rfl) rfl rfl ?_
      refine i_if_eq 49 dX8_copy_40 rfl ⟨by omega, by omega⟩ (fun q40 => ?_) (fun q40 => ?_)
      · skip
        refine r_aload dX8_copy_49 rfl ?_
        refine r_get (k := 22) lfX8_266 dX8_copy_51 (Nat.le_of_ble_eq_true rfl) rfl rfl ?_
        refine r_aload dX8_copy_54 rfl ?_
        refine r_get (k := 26) lfX8_266 dX8_copy_56 (Nat.le_of_ble_eq_true rfl) rfl rfl ?_
        refine i_icmp_eq 68 dX8_copy_59 rfl ⟨by omega, by omega⟩ ⟨by omega, by omega⟩ (fun q59 => ?_) (fun q59 => ?_)
        · skip
          refine r_aload dX8_copy_68 rfl ?_
          refine r_iload_n dX8_copy_70 rfl ?_
          refine r_iload dX8_copy_71 rfl ?_
          refine i_cvP (c_holds_22 σ (by omega) (by omega) (by omega) i n hi hn) lmX8_269 dX8_copy_73 (Nat.le_of_ble_eq_true rfl) rfl ⟨_, _, rfl⟩ (by decide) (by decide) rfl rfl (Nat.le_of_ble_eq_true rfl) ?_
          have ob1 := ob_bd (decide (0 ≤ i ∧ 0 ≤ n ∧ i + n ≤ σ 22 3))
          refine i_if_eq 91 dX8_copy_76 rfl ⟨by omega, by omega⟩ (fun q76 => ?_) (fun q76 => ?_)
          · have e76 := ob_df q76
            refine r_aload_n dX8_copy_91 rfl ?_
            refine i_const dX8_copy_92 ?_
            refine i_cvI (c_find σ 2) lmX8_231 dX8_copy_93 (Nat.le_of_ble_eq_true rfl) rfl ⟨_, _, rfl⟩ (by decide) (by decide) rfl rfl (Nat.le_of_ble_eq_true rfl) (fun z1 σ1 hf => ?_)
            refine r_iret rfl dX8_copy_96 ?_
            obtain ⟨rfl, rfl⟩ := hf
            have e1 : s_copy M 0 i 2 j n = (-10 - 2, sup M 0 21 2) := by unfold s_copy; rw [if_pos ⟨by decide, by decide⟩, if_neg (show ¬ (M 10 (0 : Int).toNat = 0 ∨ M 10 (2 : Int).toNat = 0) from (show ¬ (M 10 0 = 0 ∨ M 10 2 = 0) by omega)), if_neg (show ¬ (M 11 (0 : Int).toNat ≠ M 11 (2 : Int).toNat) from (show ¬ (M 11 0 ≠ M 11 2) by omega)), if_neg (show ¬ (0 ≤ i ∧ 0 ≤ j ∧ 0 ≤ n ∧ i + n ≤ M 12 (0 : Int).toNat ∧ j + n ≤ M 12 (2 : Int).toNat) from (show ¬ (0 ≤ i ∧ 0 ≤ j ∧ 0 ≤ n ∧ i + n ≤ M 12 0 ∧ j + n ≤ M 12 2) by omega))]; rfl
            exact ⟨_, rfl, by rw [e1], by rw [e1]; exact ic_find c _⟩
          · have e76 := ob_dt q76
            refine r_aload dX8_copy_79 rfl ?_
            refine r_iload dX8_copy_81 rfl ?_
            refine r_iload dX8_copy_83 rfl ?_
            refine i_cvP (c_holds_26 σ (by omega) (by omega) (by omega) j n hj hn) lmX8_269 dX8_copy_85 (Nat.le_of_ble_eq_true rfl) rfl ⟨_, _, rfl⟩ (by decide) (by decide) rfl rfl (Nat.le_of_ble_eq_true rfl) ?_
            have ob2 := ob_bd (decide (0 ≤ j ∧ 0 ≤ n ∧ j + n ≤ σ 26 3))
            refine i_if_ne 97 dX8_copy_88 rfl ⟨by omega, by omega⟩ (fun q88 => ?_) (fun q88 => ?_)
            · have e88 := ob_dt q88
              refine r_aload dX8_copy_97 rfl ?_
              refine r_aload dX8_copy_99 rfl ?_
              refine r_iload_n dX8_copy_101 rfl ?_
              refine r_iload dX8_copy_102 rfl ?_
              refine r_iload dX8_copy_104 rfl ?_
              refine i_cvV (c_take_26_22 σ (by omega) i j n (by omega) (by omega) (by omega) (by omega) (by omega)) lmX8_272 dX8_copy_106 (Nat.le_of_ble_eq_true rfl) rfl ⟨_, _, rfl⟩ (by decide) (by decide) rfl rfl (Nat.le_of_ble_eq_true rfl) (fun σ1 hr => ?_)
              refine i_const dX8_copy_109 ?_
              refine r_iret rfl dX8_copy_110 ?_
              obtain ⟨r1, r2⟩ := hr
              have hf : M 11 0 = M 11 2 := by omega
              have e1 : s_copy M 0 i 2 j n = (1, (rngM M (48 * 2 + j.toNat) n.toNat (fun k => M 13 (48 * 0 + i.toNat + k)))) := by unfold s_copy; rw [if_pos ⟨by decide, by decide⟩, if_neg (show ¬ (M 10 (0 : Int).toNat = 0 ∨ M 10 (2 : Int).toNat = 0) from (show ¬ (M 10 0 = 0 ∨ M 10 2 = 0) by omega)), if_neg (show ¬ (M 11 (0 : Int).toNat ≠ M 11 (2 : Int).toNat) from (show ¬ (M 11 0 ≠ M 11 2) by omega)), if_pos (show 0 ≤ i ∧ 0 ≤ j ∧ 0 ≤ n ∧ i + n ≤ M 12 (0 : Int).toNat ∧ j + n ≤ M 12 (2 : Int).toNat from (show 0 ≤ i ∧ 0 ≤ j ∧ 0 ≤ n ∧ i + n ≤ M 12 0 ∧ j + n ≤ M 12 2 by omega))]; rfl
              refine ⟨_, rfl, by rw [e1], ?_⟩
              rw [e1]
              dsimp only
              have F : ∀ k x, k ≠ 26 → k ≠ 27 → σ1 k x = σ k x := fun k x _ h => r2 k x h
              have E10 : ∀ v, v ≠ 2 → (rngM M (48 * 2 + j.toNat) n.toNat (fun k => M 13 (48 * 0 + i.toNat + k))) 10 v = M 10 v := fun _ _ => rfl
              have E11 : ∀ v, v ≠ 2 → (rngM M (48 * 2 + j.toNat) n.toNat (fun k => M 13 (48 * 0 + i.toNat + k))) 11 v = M 11 v := fun _ _ => rfl
              have E12 : ∀ v, v ≠ 2 → (rngM M (48 * 2 + j.toNat) n.toNat (fun k => M 13 (48 * 0 + i.toNat + k))) 12 v = M 12 v := fun _ _ => rfl
              have E13 : ∀ v x, v ≠ 2 → x < 48 → (rngM M (48 * 2 + j.toNat) n.toNat (fun k => M 13 (48 * 0 + i.toNat + k))) 13 (48 * v + x) = M 13 (48 * v + x) := fun v x hv hx => rngM_out _ _ _ _ (by omega)
              exact ic_sheet c ⟨gs1_o gh1.1 (fun i => F 22 i (by decide) (by decide)) (fun i => F 23 i (by decide) (by decide)) (E10 0 (by decide)) (E11 0 (by decide)) (E12 0 (by decide)) (fun i hi => E13 0 i (by decide) hi), gs1_o gh1.2.1 (fun i => F 24 i (by decide) (by decide)) (fun i => F 25 i (by decide) (by decide)) (E10 1 (by decide)) (E11 1 (by decide)) (E12 1 (by decide)) (fun i hi => E13 1 i (by decide) hi), ⟨(r2 _ _ (by decide)).trans kb1, (r2 _ _ (by decide)).trans kb2, (r2 _ _ (by decide)).trans kb3, fun x hx => by
                  have q := r1 x (by omega) (by omega)
                  rw [show ((x : Nat) : Int).toNat = x from rfl] at q
                  rw [q]
                  by_cases hz : j ≤ x ∧ (x : Int) < j + n
                  · rw [if_pos hz, rngM_in _ _ _ _ (by omega), ka4 (i + (x - j)).toNat (by omega), kb2, ← hf, (wa4 (i + (x - j)).toNat (by omega)).1, show 48 * 0 + i.toNat + (48 * 2 + x - (48 * 2 + j.toNat)) = 48 * 0 + (i + (x - j)).toNat by omega]
                  · rw [if_neg hz, rngM_out _ _ _ _ (by omega)]; exact kb4 x hx⟩, gs1_o gh1.2.2.2 (fun i => F 28 i (by decide) (by decide)) (fun i => F 29 i (by decide) (by decide)) (E10 3 (by decide)) (E11 3 (by decide)) (E12 3 (by decide)) (fun i hi => E13 3 i (by decide) hi)⟩ (fun k x h => r2 k x (by omega)) (fun k h => rngM_k _ _ _ _ (by omega))
            · have e88 := ob_df q88
              refine r_aload_n dX8_copy_91 rfl ?_
              refine i_const dX8_copy_92 ?_
              refine i_cvI (c_find σ 2) lmX8_231 dX8_copy_93 (Nat.le_of_ble_eq_true rfl) rfl ⟨_, _, rfl⟩ (by decide) (by decide) rfl rfl (Nat.le_of_ble_eq_true rfl) (fun z1 σ1 hf => ?_)
              refine r_iret rfl dX8_copy_96 ?_
              obtain ⟨rfl, rfl⟩ := hf
              have e1 : s_copy M 0 i 2 j n = (-10 - 2, sup M 0 21 2) := by unfold s_copy; rw [if_pos ⟨by decide, by decide⟩, if_neg (show ¬ (M 10 (0 : Int).toNat = 0 ∨ M 10 (2 : Int).toNat = 0) from (show ¬ (M 10 0 = 0 ∨ M 10 2 = 0) by omega)), if_neg (show ¬ (M 11 (0 : Int).toNat ≠ M 11 (2 : Int).toNat) from (show ¬ (M 11 0 ≠ M 11 2) by omega)), if_neg (show ¬ (0 ≤ i ∧ 0 ≤ j ∧ 0 ≤ n ∧ i + n ≤ M 12 (0 : Int).toNat ∧ j + n ≤ M 12 (2 : Int).toNat) from (show ¬ (0 ≤ i ∧ 0 ≤ j ∧ 0 ≤ n ∧ i + n ≤ M 12 0 ∧ j + n ≤ M 12 2) by omega))]; rfl
              exact ⟨_, rfl, by rw [e1], by rw [e1]; exact ic_find c _⟩
        · skip
          refine r_aload_n dX8_copy_62 rfl ?_
          refine i_const dX8_copy_63 ?_
          refine i_cvI (c_find σ 4) lmX8_231 dX8_copy_64 (Nat.le_of_ble_eq_true rfl) rfl ⟨_, _, rfl⟩ (by decide) (by decide) rfl rfl (Nat.le_of_ble_eq_true rfl) (fun z1 σ1 hf => ?_)
          refine r_iret rfl dX8_copy_67 ?_
          obtain ⟨rfl, rfl⟩ := hf
          have e1 : s_copy M 0 i 2 j n = (-10 - 4, sup M 0 21 4) := by unfold s_copy; rw [if_pos ⟨by decide, by decide⟩, if_neg (show ¬ (M 10 (0 : Int).toNat = 0 ∨ M 10 (2 : Int).toNat = 0) from (show ¬ (M 10 0 = 0 ∨ M 10 2 = 0) by omega)), if_pos (show M 11 (0 : Int).toNat ≠ M 11 (2 : Int).toNat from (show M 11 0 ≠ M 11 2 by omega))]; rfl
          exact ⟨_, rfl, by rw [e1], by rw [e1]; exact ic_find c _⟩
      · skip
        refine r_aload_n dX8_copy_43 rfl ?_
        refine i_const dX8_copy_44 ?_
        refine i_cvI (c_find σ 1) lmX8_231 dX8_copy_45 (Nat.le_of_ble_eq_true rfl) rfl ⟨_, _, rfl⟩ (by decide) (by decide) rfl rfl (Nat.le_of_ble_eq_true rfl) (fun z1 σ1 hf => ?_)
        refine r_iret rfl dX8_copy_48 ?_
        obtain ⟨rfl, rfl⟩ := hf
        have e1 : s_copy M 0 i 2 j n = (-10 - 1, sup M 0 21 1) := by unfold s_copy; rw [if_pos ⟨by decide, by decide⟩, if_pos (show M 10 (0 : Int).toNat = 0 ∨ M 10 (2 : Int).toNat = 0 from (show M 10 0 = 0 ∨ M 10 2 = 0 by omega))]; rfl
        exact ⟨_, rfl, by rw [e1], by rw [e1]; exact ic_find c _⟩
  · skip
    obtain ⟨ka1, ka2, ka3, ka4⟩ := gh1.1
    obtain ⟨wa1, wa2, wa3, wa4⟩ := wf_sh hw 0 (by decide)
    obtain ⟨kb1, kb2, kb3, kb4⟩ := gh1.2.2.2
    obtain ⟨wb1, wb2, wb3, wb4⟩ := wf_sh hw 3 (by decide)
    refine r_aload_n dX8_copy_0 rfl ?_
    refine r_iload_n dX8_copy_1 rfl ?_
    refine i_cvP (c_sheetOf_0 σ) lmX8_223 dX8_copy_2 (Nat.le_of_ble_eq_true rfl) rfl ⟨_, _, rfl⟩ (by decide) (by decide) rfl rfl (Nat.le_of_ble_eq_true rfl) ?_
    refine r_astore dX8_copy_5 (Nat.le_of_ble_eq_true rfl) ?_
    refine r_aload_n dX8_copy_7 rfl ?_
    refine r_iload_n dX8_copy_8 rfl ?_
    refine i_cvP (c_sheetOf_3 σ) lmX8_223 dX8_copy_9 (Nat.le_of_ble_eq_true rfl) rfl ⟨_, _, rfl⟩ (by decide) (by decide) rfl rfl (Nat.le_of_ble_eq_true rfl) ?_
    refine r_astore dX8_copy_12 (Nat.le_of_ble_eq_true rfl) ?_
    refine r_aload dX8_copy_14 rfl ?_
    refine r_ifnull dX8_copy_16 ?_
    refine r_aload dX8_copy_19 rfl ?_
    refine r_ifnonnull 27 dX8_copy_21 rfl ?_
    refine r_aload dX8_copy_27 rfl ?_
    refine r_get (k := 22) lfX8_227 dX8_copy_29 (Nat.le_of_ble_eq_true rfl) rfl rfl ?_
    refine i_if_ne 43 dX8_copy_32 rfl ⟨by omega, by omega⟩ (fun q32 => ?_) (fun q32 => ?_)
    · skip
      refine r_aload_n dX8_copy_43 rfl ?_
      refine i_const dX8_copy_44 ?_
      refine i_cvI (c_find σ 1) lmX8_231 dX8_copy_45 (Nat.le_of_ble_eq_true rfl) rfl ⟨_, _, rfl⟩ (by decide) (by decide) rfl rfl (Nat.le_of_ble_eq_true rfl) (fun z1 σ1 hf => ?_)
      refine r_iret rfl dX8_copy_48 ?_
      obtain ⟨rfl, rfl⟩ := hf
      have e1 : s_copy M 0 i 3 j n = (-10 - 1, sup M 0 21 1) := by unfold s_copy; rw [if_pos ⟨by decide, by decide⟩, if_pos (show M 10 (0 : Int).toNat = 0 ∨ M 10 (3 : Int).toNat = 0 from (show M 10 0 = 0 ∨ M 10 3 = 0 by omega))]; rfl
      exact ⟨_, rfl, by rw [e1], by rw [e1]; exact ic_find c _⟩
    · skip
      refine r_aload dX8_copy_35 rfl ?_
      refine r_get (k := 28) lfX8_227 dX8_copy_37 (Nat.le_of_ble_eq_true rfl) rfl rfl ?_
      refine i_if_eq 49 dX8_copy_40 rfl ⟨by omega, by omega⟩ (fun q40 => ?_) (fun q40 => ?_)
      · skip
        refine r_aload dX8_copy_49 rfl ?_
        refine r_get (k := 22) lfX8_266 dX8_copy_51 (Nat.le_of_ble_eq_true rfl) rfl rfl ?_
        refine r_aload dX8_copy_54 rfl ?_
        refine r_get (k := 28) lfX8_266 dX8_copy_56 (Nat.le_of_ble_eq_true rfl) rfl rfl ?_
        refine i_icmp_eq 68 dX8_copy_59 rfl ⟨by omega, by omega⟩ ⟨by omega, by omega⟩ (fun q59 => ?_) (fun q59 => ?_)
        · skip
          refine r_aload dX8_copy_68 rfl ?_
          refine r_iload_n dX8_copy_70 rfl ?_
          refine r_iload dX8_copy_71 rfl ?_
          refine i_cvP (c_holds_22 σ (by omega) (by omega) (by omega) i n hi hn) lmX8_269 dX8_copy_73 (Nat.le_of_ble_eq_true rfl) rfl ⟨_, _, rfl⟩ (by decide) (by decide) rfl rfl (Nat.le_of_ble_eq_true rfl) ?_
          have ob1 := ob_bd (decide (0 ≤ i ∧ 0 ≤ n ∧ i + n ≤ σ 22 3))
          refine i_if_eq 91 dX8_copy_76 rfl ⟨by omega, by omega⟩ (fun q76 => ?_) (fun q76 => ?_)
          · have e76 := ob_df q76
            refine r_aload_n dX8_copy_91 rfl ?_
            refine i_const dX8_copy_92 ?_
            refine i_cvI (c_find σ 2) lmX8_231 dX8_copy_93 (Nat.le_of_ble_eq_true rfl) rfl ⟨_, _, rfl⟩ (by decide) (by decide) rfl rfl (Nat.le_of_ble_eq_true rfl) (fun z1 σ1 hf => ?_)
            refine r_iret rfl dX8_copy_96 ?_
            obtain ⟨rfl, rfl⟩ := hf
            have e1 : s_copy M 0 i 3 j n = (-10 - 2, sup M 0 21 2) := by unfold s_copy; rw [if_pos ⟨by decide, by decide⟩, if_neg (show ¬ (M 10 (0 : Int).toNat = 0 ∨ M 10 (3 : Int).toNat = 0) from (show ¬ (M 10 0 = 0 ∨ M 10 3 = 0) by omega)), if_neg (show ¬ (M 11 (0 : Int).toNat ≠ M 11 (3 : Int).toNat) from (show ¬ (M 11 0 ≠ M 11 3) by omega)), if_neg (show ¬ (0 ≤ i ∧ 0 ≤ j ∧ 0 ≤ n ∧ i + n ≤ M 12 (0 : Int).toNat ∧ j + n ≤ M 12 (3 : Int).toNat) from (show ¬ (0 ≤ i ∧ 0 ≤ j ∧ 0 ≤ n ∧ i + n ≤ M 12 0 ∧ j + n ≤ M 12 3) by omega))]; rfl
            exact ⟨_, rfl, by rw [e1], by rw [e1]; exact ic_find c _⟩
          · have e76 := ob_dt q76
            refine r_aload dX8_copy_79 rfl ?_
            refine r_iload dX8_copy_81 rfl ?_
            refine r_iload dX8_copy_83 rfl ?_
            refine i_cvP (c_holds_28 σ (by omega) (by omega) (by omega) j n hj hn) lmX8_269 dX8_copy_85 (Nat.le_of_ble_eq_true rfl) rfl ⟨_, _, rfl⟩ (by decide) (by decide) rfl rfl (Nat.le_of_ble_eq_true rfl) ?_
            have ob2 := ob_bd (decide (0 ≤ j ∧ 0 ≤ n ∧ j + n ≤ σ 28 3))
            refine i_if_ne 97 dX8_copy_88 rfl ⟨by omega, by omega⟩ (fun q88 => ?_) (fun q88 => ?_)
            · have e88 := ob_dt q88
              refine r_aload dX8_copy_97 rfl ?_
              refine r_aload dX8_copy_99 rfl ?_
              refine r_iload_n dX8_copy_101 rfl ?_
              refine r_iload dX8_copy_102 rfl ?_
              refine r_iload dX8_copy_104 rfl ?_
              refine i_cvV (c_take_28_22 σ (by omega) i j n (by omega) (by omega) (by omega) (by omega) (by omega)) lmX8_272 dX8_copy_106 (Nat.le_of_ble_eq_true rfl) rfl ⟨_, _, rfl⟩ (by decide) (by decide) rfl rfl (Nat.le_of_ble_eq_true rfl) (fun σ1 hr => ?_)
              refine i_const dX8_copy_109 ?_
              refine r_iret rfl dX8_copy_110 ?_
              obtain ⟨r1, r2⟩ := hr
              have hf : M 11 0 = M 11 3 := by omega
              have e1 : s_copy M 0 i 3 j n = (1, (rngM M (48 * 3 + j.toNat) n.toNat (fun k => M 13 (48 * 0 + i.toNat + k)))) := by unfold s_copy; rw [if_pos ⟨by decide, by decide⟩, if_neg (show ¬ (M 10 (0 : Int).toNat = 0 ∨ M 10 (3 : Int).toNat = 0) from (show ¬ (M 10 0 = 0 ∨ M 10 3 = 0) by omega)), if_neg (show ¬ (M 11 (0 : Int).toNat ≠ M 11 (3 : Int).toNat) from (show ¬ (M 11 0 ≠ M 11 3) by omega)), if_pos (show 0 ≤ i ∧ 0 ≤ j ∧ 0 ≤ n ∧ i + n ≤ M 12 (0 : Int).toNat ∧ j + n ≤ M 12 (3 : Int).toNat from (show 0 ≤ i ∧ 0 ≤ j ∧ 0 ≤ n ∧ i + n ≤ M 12 0 ∧ j + n ≤ M 12 3 by omega))]; rfl
              refine ⟨_, rfl, by rw [e1], ?_⟩
              rw [e1]
              dsimp only
              have F : ∀ k x, k ≠ 28 → k ≠ 29 → σ1 k x = σ k x := fun k x _ h => r2 k x h
              have E10 : ∀ v, v ≠ 3 → (rngM M (48 * 3 + j.toNat) n.toNat (fun k => M 13 (48 * 0 + i.toNat + k))) 10 v = M 10 v := fun _ _ => rfl
              have E11 : ∀ v, v ≠ 3 → (rngM M (48 * 3 + j.toNat) n.toNat (fun k => M 13 (48 * 0 + i.toNat + k))) 11 v = M 11 v := fun _ _ => rfl
              have E12 : ∀ v, v ≠ 3 → (rngM M (48 * 3 + j.toNat) n.toNat (fun k => M 13 (48 * 0 + i.toNat + k))) 12 v = M 12 v := fun _ _ => rfl
              have E13 : ∀ v x, v ≠ 3 → x < 48 → (rngM M (48 * 3 + j.toNat) n.toNat (fun k => M 13 (48 * 0 + i.toNat + k))) 13 (48 * v + x) = M 13 (48 * v + x) := fun v x hv hx => rngM_out _ _ _ _ (by omega)
              exact ic_sheet c ⟨gs1_o gh1.1 (fun i => F 22 i (by decide) (by decide)) (fun i => F 23 i (by decide) (by decide)) (E10 0 (by decide)) (E11 0 (by decide)) (E12 0 (by decide)) (fun i hi => E13 0 i (by decide) hi), gs1_o gh1.2.1 (fun i => F 24 i (by decide) (by decide)) (fun i => F 25 i (by decide) (by decide)) (E10 1 (by decide)) (E11 1 (by decide)) (E12 1 (by decide)) (fun i hi => E13 1 i (by decide) hi), gs1_o gh1.2.2.1 (fun i => F 26 i (by decide) (by decide)) (fun i => F 27 i (by decide) (by decide)) (E10 2 (by decide)) (E11 2 (by decide)) (E12 2 (by decide)) (fun i hi => E13 2 i (by decide) hi), ⟨(r2 _ _ (by decide)).trans kb1, (r2 _ _ (by decide)).trans kb2, (r2 _ _ (by decide)).trans kb3, fun x hx => by
                  have q := r1 x (by omega) (by omega)
                  rw [show ((x : Nat) : Int).toNat = x from rfl] at q
                  rw [q]
                  by_cases hz : j ≤ x ∧ (x : Int) < j + n
                  · rw [if_pos hz, rngM_in _ _ _ _ (by omega), ka4 (i + (x - j)).toNat (by omega), kb2, ← hf, (wa4 (i + (x - j)).toNat (by omega)).1, show 48 * 0 + i.toNat + (48 * 3 + x - (48 * 3 + j.toNat)) = 48 * 0 + (i + (x - j)).toNat by omega]
                  · rw [if_neg hz, rngM_out _ _ _ _ (by omega)]; exact kb4 x hx⟩⟩ (fun k x h => r2 k x (by omega)) (fun k h => rngM_k _ _ _ _ (by omega))
            · have e88 := ob_df q88
              refine r_aload_n dX8_copy_91 rfl ?_
              refine i_const dX8_copy_92 ?_
              refine i_cvI (c_find σ 2) lmX8_231 dX8_copy_93 (Nat.le_of_ble_eq_true rfl) rfl ⟨_, _, rfl⟩ (by decide) (by decide) rfl rfl (Nat.le_of_ble_eq_true rfl) (fun z1 σ1 hf => ?_)
              refine r_iret rfl dX8_copy_96 ?_
              obtain ⟨rfl, rfl⟩ := hf
              have e1 : s_copy M 0 i 3 j n = (-10 - 2, sup M 0 21 2) := by unfold s_copy; rw [if_pos ⟨by decide, by decide⟩, if_neg (show ¬ (M 10 (0 : Int).toNat = 0 ∨ M 10 (3 : Int).toNat = 0) from (show ¬ (M 10 0 = 0 ∨ M 10 3 = 0) by omega)), if_neg (show ¬ (M 11 (0 : Int).toNat ≠ M 11 (3 : Int).toNat) from (show ¬ (M 11 0 ≠ M 11 3) by omega)), if_neg (show ¬ (0 ≤ i ∧ 0 ≤ j ∧ 0 ≤ n ∧ i + n ≤ M 12 (0 : Int).toNat ∧ j + n ≤ M 12 (3 : Int).toNat) from (show ¬ (0 ≤ i ∧ 0 ≤ j ∧ 0 ≤ n ∧ i + n ≤ M 12 0 ∧ j + n ≤ M 12 3) by omega))]; rfl
              exact ⟨_, rfl, by rw [e1], by rw [e1]; exact ic_find c _⟩
        · skip
          refine r_aload_n dX8_copy_62 rfl ?_
          refine i_const dX8_copy_63 ?_
          refine i_cvI (c_find σ 4) lmX8_231 dX8_copy_64 (Nat.le_of_ble_eq_true rfl) rfl ⟨_, _, rfl⟩ (by decide) (by decide) rfl rfl (Nat.le_of_ble_eq_true rfl) (fun z1 σ1 hf => ?_)
          refine r_iret rfl dX8_copy_67 ?_
          obtain ⟨rfl, rfl⟩ := hf
          have e1 : s_copy M 0 i 3 j n = (-10 - 4, sup M 0 21 4) := by unfold s_copy; rw [if_pos ⟨by decide, by decide⟩, if_neg (show ¬ (M 10 (0 : Int).toNat = 0 ∨ M 10 (3 : Int).toNat = 0) from (show ¬ (M 10 0 = 0 ∨ M 10 3 = 0) by omega)), if_pos (show M 11 (0 : Int).toNat ≠ M 11 (3 : Int).toNat from (show M 11 0 ≠ M 11 3 by omega))]; rfl
          exact ⟨_, rfl, by rw [e1], by rw [e1]; exact ic_find c _⟩
      · skip
        refine r_aload_n dX8_copy_43 rfl ?_
        refine i_const dX8_copy_44 ?_
        refine i_cvI (c_find σ 1) lmX8_231 dX8_copy_45 (Nat.le_of_ble_eq_true rfl) rfl ⟨_, _, rfl⟩ (by decide) (by decide) rfl rfl (Nat.le_of_ble_eq_true rfl) (fun z1 σ1 hf => ?_)
        refine r_iret rfl dX8_copy_48 ?_
        obtain ⟨rfl, rfl⟩ := hf
        have e1 : s_copy M 0 i 3 j n = (-10 - 1, sup M 0 21 1) := by unfold s_copy; rw [if_pos ⟨by decide, by decide⟩, if_pos (show M 10 (0 : Int).toNat = 0 ∨ M 10 (3 : Int).toNat = 0 from (show M 10 0 = 0 ∨ M 10 3 = 0 by omega))]; rfl
        exact ⟨_, rfl, by rw [e1], by rw [e1]; exact ic_find c _⟩
  · skip
    refine r_aload_n dX8_copy_0 rfl ?_
    refine r_iload_n dX8_copy_1 rfl ?_
    refine i_cvP (c_sheetOf_0 σ) lmX8_223 dX8_copy_2 (Nat.le_of_ble_eq_true rfl) rfl ⟨_, _, rfl⟩ (by decide) (by decide) rfl rfl (Nat.le_of_ble_eq_true rfl) ?_
    refine r_astore dX8_copy_5 (Nat.le_of_ble_eq_true rfl) ?_
    refine r_aload_n dX8_copy_7 rfl ?_
    refine r_iload_n dX8_copy_8 rfl ?_
    refine i_cvP (c_sheetOf_n σ t ht n1) lmX8_223 dX8_copy_9 (Nat.le_of_ble_eq_true rfl) rfl ⟨_, _, rfl⟩ (by decide) (by decide) rfl rfl (Nat.le_of_ble_eq_true rfl) ?_
    refine r_astoreN dX8_copy_12 (Nat.le_of_ble_eq_true rfl) ?_
    refine r_aload dX8_copy_14 rfl ?_
    refine r_ifnull dX8_copy_16 ?_
    refine r_aloadN dX8_copy_19 rfl ?_
    refine r_ifnonnullN dX8_copy_21 ?_
    refine i_bipush dX8_copy_24 (by decide) ?_
    refine r_iret rfl dX8_copy_26 ?_
    exact ⟨_, rfl, by unfold s_copy; rw [if_neg (by omega)], by unfold s_copy; rw [if_neg (by omega)]; exact c⟩
  · skip
    obtain ⟨ka1, ka2, ka3, ka4⟩ := gh1.2.1
    obtain ⟨wa1, wa2, wa3, wa4⟩ := wf_sh hw 1 (by decide)
    obtain ⟨kb1, kb2, kb3, kb4⟩ := gh1.1
    obtain ⟨wb1, wb2, wb3, wb4⟩ := wf_sh hw 0 (by decide)
    refine r_aload_n dX8_copy_0 rfl ?_
    refine r_iload_n dX8_copy_1 rfl ?_
    refine i_cvP (c_sheetOf_1 σ) lmX8_223 dX8_copy_2 (Nat.le_of_ble_eq_true rfl) rfl ⟨_, _, rfl⟩ (by decide) (by decide) rfl rfl (Nat.le_of_ble_eq_true rfl) ?_
    refine r_astore dX8_copy_5 (Nat.le_of_ble_eq_true rfl) ?_
    refine r_aload_n dX8_copy_7 rfl ?_
    refine r_iload_n dX8_copy_8 rfl ?_
    refine i_cvP (c_sheetOf_0 σ) lmX8_223 dX8_copy_9 (Nat.le_of_ble_eq_true rfl) rfl ⟨_, _, rfl⟩ (by decide) (by decide) rfl rfl (Nat.le_of_ble_eq_true rfl) ?_
    refine r_astore dX8_copy_12 (Nat.le_of_ble_eq_true rfl) ?_
    refine r_aload dX8_copy_14 rfl ?_
    refine r_ifnull dX8_copy_16 ?_
    refine r_aload dX8_copy_19 rfl ?_
    refine r_ifnonnull 27 dX8_copy_21 rfl ?_
    refine r_aload dX8_copy_27 rfl ?_
    refine r_get (k := 24) lfX8_227 dX8_copy_29 (Nat.le_of_ble_eq_true rfl) rfl rfl ?_
    refine i_if_ne 43 dX8_copy_32 rfl ⟨by omega, by omega⟩ (fun q32 => ?_) (fun q32 => ?_)
    · skip
      refine r_aload_n dX8_copy_43 rfl ?_
      refine i_const dX8_copy_44 ?_
      refine i_cvI (c_find σ 1) lmX8_231 dX8_copy_45 (Nat.le_of_ble_eq_true rfl) rfl ⟨_, _, rfl⟩ (by decide) (by decide) rfl rfl (Nat.le_of_ble_eq_true rfl) (fun z1 σ1 hf => ?_)
      refine r_iret rfl dX8_copy_48 ?_
      obtain ⟨rfl, rfl⟩ := hf
      have e1 : s_copy M 1 i 0 j n = (-10 - 1, sup M 0 21 1) := by unfold s_copy; rw [if_pos ⟨by decide, by decide⟩, if_pos (show M 10 (1 : Int).toNat = 0 ∨ M 10 (0 : Int).toNat = 0 from (show M 10 1 = 0 ∨ M 10 0 = 0 by omega))]; rfl
      exact ⟨_, rfl, by rw [e1], by rw [e1]; exact ic_find c _⟩
    · skip
      refine r_aload dX8_copy_35 rfl ?_
      refine r_get (k := 22) lfX8_227 dX8_copy_37 (Nat.le_of_ble_eq_true rfl) rfl rfl ?_
      refine i_if_eq 49 dX8_copy_40 rfl ⟨by omega, by omega⟩ (fun q40 => ?_) (fun q40 => ?_)
      · skip
        refine r_aload dX8_copy_49 rfl ?_
        refine r_get (k := 24) lfX8_266 dX8_copy_51 (Nat.le_of_ble_eq_true rfl) rfl rfl ?_
        refine r_aload dX8_copy_54 rfl ?_
        refine r_get (k := 22) lfX8_266 dX8_copy_56 (Nat.le_of_ble_eq_true rfl) rfl rfl ?_
        refine i_icmp_eq 68 dX8_copy_59 rfl ⟨by omega, by omega⟩ ⟨by omega, by omega⟩ (fun q59 => ?_) (fun q59 => ?_)
        · skip
          refine r_aload dX8_copy_68 rfl ?_
          refine r_iload_n dX8_copy_70 rfl ?_
          refine r_iload dX8_copy_71 rfl ?_
          refine i_cvP (c_holds_24 σ (by omega) (by omega) (by omega) i n hi hn) lmX8_269 dX8_copy_73 (Nat.le_of_ble_eq_true rfl) rfl ⟨_, _, rfl⟩ (by decide) (by decide) rfl rfl (Nat.le_of_ble_eq_true rfl) ?_
          have ob1 := ob_bd (decide (0 ≤ i ∧ 0 ≤ n ∧ i + n ≤ σ 24 3))
          refine i_if_eq 91 dX8_copy_76 rfl ⟨by omega, by omega⟩ (fun q76 => ?_) (fun q76 => ?_)
          · have e76 := ob_df q76
            refine r_aload_n dX8_copy_91 rfl ?_
            refine i_const dX8_copy_92 ?_
            refine i_cvI (c_find σ 2) lmX8_231 dX8_copy_93 (Nat.le_of_ble_eq_true rfl) rfl ⟨_, _, rfl⟩ (by decide) (by decide) rfl rfl (Nat.le_of_ble_eq_true rfl) (fun z1 σ1 hf => ?_)
            refine r_iret rfl dX8_copy_96 ?_
            obtain ⟨rfl, rfl⟩ := hf
            have e1 : s_copy M 1 i 0 j n = (-10 - 2, sup M 0 21 2) := by unfold s_copy; rw [if_pos ⟨by decide, by decide⟩, if_neg (show ¬ (M 10 (1 : Int).toNat = 0 ∨ M 10 (0 : Int).toNat = 0) from (show ¬ (M 10 1 = 0 ∨ M 10 0 = 0) by omega)), if_neg (show ¬ (M 11 (1 : Int).toNat ≠ M 11 (0 : Int).toNat) from (show ¬ (M 11 1 ≠ M 11 0) by omega)), if_neg (show ¬ (0 ≤ i ∧ 0 ≤ j ∧ 0 ≤ n ∧ i + n ≤ M 12 (1 : Int).toNat ∧ j + n ≤ M 12 (0 : Int).toNat) from (show ¬ (0 ≤ i ∧ 0 ≤ j ∧ 0 ≤ n ∧ i + n ≤ M 12 1 ∧ j + n ≤ M 12 0) by omega))]; rfl
            exact ⟨_, rfl, by rw [e1], by rw [e1]; exact ic_find c _⟩
          · have e76 := ob_dt q76
            refine r_aload dX8_copy_79 rfl ?_
            refine r_iload dX8_copy_81 rfl ?_
            refine r_iload dX8_copy_83 rfl ?_
            refine i_cvP (c_holds_22 σ (by omega) (by omega) (by omega) j n hj hn) lmX8_269 dX8_copy_85 (Nat.le_of_ble_eq_true rfl) rfl ⟨_, _, rfl⟩ (by decide) (by decide) rfl rfl (Nat.le_of_ble_eq_true rfl) ?_
            have ob2 := ob_bd (decide (0 ≤ j ∧ 0 ≤ n ∧ j + n ≤ σ 22 3))
            refine i_if_ne 97 dX8_copy_88 rfl ⟨by omega, by omega⟩ (fun q88 => ?_) (fun q88 => ?_)
            · have e88 := ob_dt q88
              refine r_aload dX8_copy_97 rfl ?_
              refine r_aload dX8_copy_99 rfl ?_
              refine r_iload_n dX8_copy_101 rfl ?_
              refine r_iload dX8_copy_102 rfl ?_
              refine r_iload dX8_copy_104 rfl ?_
              refine i_cvV (c_take_22_24 σ (by omega) i j n (by omega) (by omega) (by omega) (by omega) (by omega)) lmX8_272 dX8_copy_106 (Nat.le_of_ble_eq_true rfl) rfl ⟨_, _, rfl⟩ (by decide) (by decide) rfl rfl (Nat.le_of_ble_eq_true rfl) (fun σ1 hr => ?_)
              refine i_const dX8_copy_109 ?_
              refine r_iret rfl dX8_copy_110 ?_
              obtain ⟨r1, r2⟩ := hr
              have hf : M 11 1 = M 11 0 := by omega
              have e1 : s_copy M 1 i 0 j n = (1, (rngM M (48 * 0 + j.toNat) n.toNat (fun k => M 13 (48 * 1 + i.toNat + k)))) := by unfold s_copy; rw [if_pos ⟨by decide, by decide⟩, if_neg (show ¬ (M 10 (1 : Int).toNat = 0 ∨ M 10 (0 : Int).toNat = 0) from (show ¬ (M 10 1 = 0 ∨ M 10 0 = 0) by omega)), if_neg (show ¬ (M 11 (1 : Int).toNat ≠ M 11 (0 : Int).toNat) from (show ¬ (M 11 1 ≠ M 11 0) by omega)), if_pos (show 0 ≤ i ∧ 0 ≤ j ∧ 0 ≤ n ∧ i + n ≤ M 12 (1 : Int).toNat ∧ j + n ≤ M 12 (0 : Int).toNat from (show 0 ≤ i ∧ 0 ≤ j ∧ 0 ≤ n ∧ i + n ≤ M 12 1 ∧ j + n ≤ M 12 0 by omega))]; rfl
              refine ⟨_, rfl, by rw [e1], ?_⟩
              rw [e1]
              dsimp only
              have F : ∀ k x, k ≠ 22 → k ≠ 23 → σ1 k x = σ k x := fun k x _ h => r2 k x h
              have E10 : ∀ v, v ≠ 0 → (rngM M (48 * 0 + j.toNat) n.toNat (fun k => M 13 (48 * 1 + i.toNat + k))) 10 v = M 10 v := fun _ _ => rfl
              have E11 : ∀ v, v ≠ 0 → (rngM M (48 * 0 + j.toNat) n.toNat (fun k => M 13 (48 * 1 + i.toNat + k))) 11 v = M 11 v := fun _ _ => rfl
              have E12 : ∀ v, v ≠ 0 → (rngM M (48 * 0 + j.toNat) n.toNat (fun k => M 13 (48 * 1 + i.toNat + k))) 12 v = M 12 v := fun _ _ => rfl
              have E13 : ∀ v x, v ≠ 0 → x < 48 → (rngM M (48 * 0 + j.toNat) n.toNat (fun k => M 13 (48 * 1 + i.toNat + k))) 13 (48 * v + x) = M 13 (48 * v + x) := fun v x hv hx => rngM_out _ _ _ _ (by omega)
              exact ic_sheet c ⟨⟨(r2 _ _ (by decide)).trans kb1, (r2 _ _ (by decide)).trans kb2, (r2 _ _ (by decide)).trans kb3, fun x hx => by
                  have q := r1 x (by omega) (by omega)
                  rw [show ((x : Nat) : Int).toNat = x from rfl] at q
                  rw [q]
                  by_cases hz : j ≤ x ∧ (x : Int) < j + n
                  · rw [if_pos hz, rngM_in _ _ _ _ (by omega), ka4 (i + (x - j)).toNat (by omega), kb2, ← hf, (wa4 (i + (x - j)).toNat (by omega)).1, show 48 * 1 + i.toNat + (48 * 0 + x - (48 * 0 + j.toNat)) = 48 * 1 + (i + (x - j)).toNat by omega]
                  · rw [if_neg hz, rngM_out _ _ _ _ (by omega)]; exact kb4 x hx⟩, gs1_o gh1.2.1 (fun i => F 24 i (by decide) (by decide)) (fun i => F 25 i (by decide) (by decide)) (E10 1 (by decide)) (E11 1 (by decide)) (E12 1 (by decide)) (fun i hi => E13 1 i (by decide) hi), gs1_o gh1.2.2.1 (fun i => F 26 i (by decide) (by decide)) (fun i => F 27 i (by decide) (by decide)) (E10 2 (by decide)) (E11 2 (by decide)) (E12 2 (by decide)) (fun i hi => E13 2 i (by decide) hi), gs1_o gh1.2.2.2 (fun i => F 28 i (by decide) (by decide)) (fun i => F 29 i (by decide) (by decide)) (E10 3 (by decide)) (E11 3 (by decide)) (E12 3 (by decide)) (fun i hi => E13 3 i (by decide) hi)⟩ (fun k x h => r2 k x (by omega)) (fun k h => rngM_k _ _ _ _ (by omega))
            · have e88 := ob_df q88
              refine r_aload_n dX8_copy_91 rfl ?_
              refine i_const dX8_copy_92 ?_
              refine i_cvI (c_find σ 2) lmX8_231 dX8_copy_93 (Nat.le_of_ble_eq_true rfl) rfl ⟨_, _, rfl⟩ (by decide) (by decide) rfl rfl (Nat.le_of_ble_eq_true rfl) (fun z1 σ1 hf => ?_)
              refine r_iret rfl dX8_copy_96 ?_
              obtain ⟨rfl, rfl⟩ := hf
              have e1 : s_copy M 1 i 0 j n = (-10 - 2, sup M 0 21 2) := by unfold s_copy; rw [if_pos ⟨by decide, by decide⟩, if_neg (show ¬ (M 10 (1 : Int).toNat = 0 ∨ M 10 (0 : Int).toNat = 0) from (show ¬ (M 10 1 = 0 ∨ M 10 0 = 0) by omega)), if_neg (show ¬ (M 11 (1 : Int).toNat ≠ M 11 (0 : Int).toNat) from (show ¬ (M 11 1 ≠ M 11 0) by omega)), if_neg (show ¬ (0 ≤ i ∧ 0 ≤ j ∧ 0 ≤ n ∧ i + n ≤ M 12 (1 : Int).toNat ∧ j + n ≤ M 12 (0 : Int).toNat) from (show ¬ (0 ≤ i ∧ 0 ≤ j ∧ 0 ≤ n ∧ i + n ≤ M 12 1 ∧ j + n ≤ M 12 0) by omega))]; rfl
              exact ⟨_, rfl, by rw [e1], by rw [e1]; exact ic_find c _⟩
        · skip
          refine r_aload_n dX8_copy_62 rfl ?_
          refine i_const dX8_copy_63 ?_
          refine i_cvI (c_find σ 4) lmX8_231 dX8_copy_64 (Nat.le_of_ble_eq_true rfl) rfl ⟨_, _, rfl⟩ (by decide) (by decide) rfl rfl (Nat.le_of_ble_eq_true rfl) (fun z1 σ1 hf => ?_)
          refine r_iret rfl dX8_copy_67 ?_
          obtain ⟨rfl, rfl⟩ := hf
          have e1 : s_copy M 1 i 0 j n = (-10 - 4, sup M 0 21 4) := by unfold s_copy; rw [if_pos ⟨by decide, by decide⟩, if_neg (show ¬ (M 10 (1 : Int).toNat = 0 ∨ M 10 (0 : Int).toNat = 0) from (show ¬ (M 10 1 = 0 ∨ M 10 0 = 0) by omega)), if_pos (show M 11 (1 : Int).toNat ≠ M 11 (0 : Int).toNat from (show M 11 1 ≠ M 11 0 by omega))]; rfl
          exact ⟨_, rfl, by rw [e1], by rw [e1]; exact ic_find c _⟩
      · skip
        refine r_aload_n dX8_copy_43 rfl ?_
        refine i_const dX8_copy_44 ?_
        refine i_cvI (c_find σ 1) lmX8_231 dX8_copy_45 (Nat.le_of_ble_eq_true rfl) rfl ⟨_, _, rfl⟩ (by decide) (by decide) rfl rfl (Nat.le_of_ble_eq_true rfl) (fun z1 σ1 hf => ?_)
        refine r_iret rfl dX8_copy_48 ?_
        obtain ⟨rfl, rfl⟩ := hf
        have e1 : s_copy M 1 i 0 j n = (-10 - 1, sup M 0 21 1) := by unfold s_copy; rw [if_pos ⟨by decide, by decide⟩, if_pos (show M 10 (1 : Int).toNat = 0 ∨ M 10 (0 : Int).toNat = 0 from (show M 10 1 = 0 ∨ M 10 0 = 0 by omega))]; rfl
        exact ⟨_, rfl, by rw [e1], by rw [e1]; exact ic_find c _⟩
  · skip
    obtain ⟨ka1, ka2, ka3, ka4⟩ := gh1.2.1
    obtain ⟨wa1, wa2, wa3, wa4⟩ := wf_sh hw 1 (by decide)
    obtain ⟨kb1, kb2, kb3, kb4⟩ := gh1.2.1
    obtain ⟨wb1, wb2, wb3, wb4⟩ := wf_sh hw 1 (by decide)
    refine r_aload_n dX8_copy_0 rfl ?_
    refine r_iload_n dX8_copy_1 rfl ?_
    refine i_cvP (c_sheetOf_1 σ) lmX8_223 dX8_copy_2 (Nat.le_of_ble_eq_true rfl) rfl ⟨_, _, rfl⟩ (by decide) (by decide) rfl rfl (Nat.le_of_ble_eq_true rfl) ?_
    refine r_astore dX8_copy_5 (Nat.le_of_ble_eq_true rfl) ?_
    refine r_aload_n dX8_copy_7 rfl ?_
    refine r_iload_n dX8_copy_8 rfl ?_
    refine i_cvP (c_sheetOf_1 σ) lmX8_223 dX8_copy_9 (Nat.le_of_ble_eq_true rfl) rfl ⟨_, _, rfl⟩ (by decide) (by decide) rfl rfl (Nat.le_of_ble_eq_true rfl) ?_
    refine r_astore dX8_copy_12 (Nat.le_of_ble_eq_true rfl) ?_
    refine r_aload dX8_copy_14 rfl ?_
    refine r_ifnull dX8_copy_16 ?_
    refine r_aload dX8_copy_19 rfl ?_
    refine r_ifnonnull 27 dX8_copy_21 rfl ?_
    refine r_aload dX8_copy_27 rfl ?_
    refine r_get (k := 24) lfX8_227 dX8_copy_29 (Nat.le_of_ble_eq_true rfl) rfl rfl ?_
    refine i_if_ne 43 dX8_copy_32 rfl ⟨by omega, by omega⟩ (fun q32 => ?_) (fun q32 => ?_)
    · skip
      refine r_aload_n dX8_copy_43 rfl ?_
      refine i_const dX8_copy_44 ?_
      refine i_cvI (c_find σ 1) lmX8_231 dX8_copy_45 (Nat.le_of_ble_eq_true rfl) rfl ⟨_, _, rfl⟩ (by decide) (by decide) rfl rfl (Nat.le_of_ble_eq_true rfl) (fun z1 σ1 hf => ?_)
      refine r_iret rfl dX8_copy_48 ?_
      obtain ⟨rfl, rfl⟩ := hf
      have e1 : s_copy M 1 i 1 j n = (-10 - 1, sup M 0 21 1) := by unfold s_copy; rw [if_pos ⟨by decide, by decide⟩, if_pos (show M 10 (1 : Int).toNat = 0 ∨ M 10 (1 : Int).toNat = 0 from (show M 10 1 = 0 ∨ M 10 1 = 0 by omega))]; rfl
      exact ⟨_, rfl, by rw [e1], by rw [e1]; exact ic_find c _⟩
    · skip
      refine r_aload dX8_copy_35 rfl ?_
      refine r_get (k := 24) lfX8_227 dX8_copy_37 (Nat.le_of_ble_eq_true rfl) rfl rfl ?_
      refine i_if_eq 49 dX8_copy_40 rfl ⟨by omega, by omega⟩ (fun q40 => ?_) (fun q40 => ?_)
      · skip
        refine r_aload dX8_copy_49 rfl ?_
        refine r_get (k := 24) lfX8_266 dX8_copy_51 (Nat.le_of_ble_eq_true rfl) rfl rfl ?_
        refine r_aload dX8_copy_54 rfl ?_
        refine r_get (k := 24) lfX8_266 dX8_copy_56 (Nat.le_of_ble_eq_true rfl) rfl rfl ?_
        refine i_icmp_eq 68 dX8_copy_59 rfl ⟨by omega, by omega⟩ ⟨by omega, by omega⟩ (fun q59 => ?_) (fun q59 => ?_)
        · skip
          refine r_aload dX8_copy_68 rfl ?_
          refine r_iload_n dX8_copy_70 rfl ?_
          refine r_iload dX8_copy_71 rfl ?_
          refine i_cvP (c_holds_24 σ (by omega) (by omega) (by omega) i n hi hn) lmX8_269 dX8_copy_73 (Nat.le_of_ble_eq_true rfl) rfl ⟨_, _, rfl⟩ (by decide) (by decide) rfl rfl (Nat.le_of_ble_eq_true rfl) ?_
          have ob1 := ob_bd (decide (0 ≤ i ∧ 0 ≤ n ∧ i + n ≤ σ 24 3))
          refine i_if_eq 91 dX8_copy_76 rfl ⟨by omega, by omega⟩ (fun q76 => ?_) (fun q76 => ?_)
          · have e76 := ob_df q76
            refine r_aload_n dX8_copy_91 rfl ?_
            refine i_const dX8_copy_92 ?_
            refine i_cvI (c_find σ 2) lmX8_231 dX8_copy_93 (Nat.le_of_ble_eq_true rfl) rfl ⟨_, _, rfl⟩ (by decide) (by decide) rfl rfl (Nat.le_of_ble_eq_true rfl) (fun z1 σ1 hf => ?_)
            refine r_iret rfl dX8_copy_96 ?_
            obtain ⟨rfl, rfl⟩ := hf
            have e1 : s_copy M 1 i 1 j n = (-10 - 2, sup M 0 21 2) := by unfold s_copy; rw [if_pos ⟨by decide, by decide⟩, if_neg (show ¬ (M 10 (1 : Int).toNat = 0 ∨ M 10 (1 : Int).toNat = 0) from (show ¬ (M 10 1 = 0 ∨ M 10 1 = 0) by omega)), if_neg (show ¬ (M 11 (1 : Int).toNat ≠ M 11 (1 : Int).toNat) from (show ¬ (M 11 1 ≠ M 11 1) by omega)), if_neg (show ¬ (0 ≤ i ∧ 0 ≤ j ∧ 0 ≤ n ∧ i + n ≤ M 12 (1 : Int).toNat ∧ j + n ≤ M 12 (1 : Int).toNat) from (show ¬ (0 ≤ i ∧ 0 ≤ j ∧ 0 ≤ n ∧ i + n ≤ M 12 1 ∧ j + n ≤ M 12 1) by omega))]; rfl
            exact ⟨_, rfl, by rw [e1], by rw [e1]; exact ic_find c _⟩
          · have e76 := ob_dt q76
            refine r_aload dX8_copy_79 rfl ?_
            refine r_iload dX8_copy_81 rfl ?_
            refine r_iload dX8_copy_83 rfl ?_
            refine i_cvP (c_holds_24 σ (by omega) (by omega) (by omega) j n hj hn) lmX8_269 dX8_copy_85 (Nat.le_of_ble_eq_true rfl) rfl ⟨_, _, rfl⟩ (by decide) (by decide) rfl rfl (Nat.le_of_ble_eq_true rfl) ?_
            have ob2 := ob_bd (decide (0 ≤ j ∧ 0 ≤ n ∧ j + n ≤ σ 24 3))
            refine i_if_ne 97 dX8_copy_88 rfl ⟨by omega, by omega⟩ (fun q88 => ?_) (fun q88 => ?_)
            · have e88 := ob_dt q88
              refine r_aload dX8_copy_97 rfl ?_
              refine r_aload dX8_copy_99 rfl ?_
              refine r_iload_n dX8_copy_101 rfl ?_
              refine r_iload dX8_copy_102 rfl ?_
              refine r_iload dX8_copy_104 rfl ?_
              refine i_cvV (c_take_24_24 σ (by omega) i j n (by omega) (by omega) (by omega) (by omega) (by omega)) lmX8_272 dX8_copy_106 (Nat.le_of_ble_eq_true rfl) rfl ⟨_, _, rfl⟩ (by decide) (by decide) rfl rfl (Nat.le_of_ble_eq_true rfl) (fun σ1 hr => ?_)
              refine i_const dX8_copy_109 ?_
              refine r_iret rfl dX8_copy_110 ?_
              obtain ⟨r1, r2⟩ := hr
              have hf : M 11 1 = M 11 1 := by omega
              have e1 : s_copy M 1 i 1 j n = (1, (rngM M (48 * 1 + j.toNat) n.toNat (fun k => M 13 (48 * 1 + i.toNat + k)))) := by unfold s_copy; rw [if_pos ⟨by decide, by decide⟩, if_neg (show ¬ (M 10 (1 : Int).toNat = 0 ∨ M 10 (1 : Int).toNat = 0) from (show ¬ (M 10 1 = 0 ∨ M 10 1 = 0) by omega)), if_neg (show ¬ (M 11 (1 : Int).toNat ≠ M 11 (1 : Int).toNat) from (show ¬ (M 11 1 ≠ M 11 1) by omega)), if_pos (show 0 ≤ i ∧ 0 ≤ j ∧ 0 ≤ n ∧ i + n ≤ M 12 (1 : Int).toNat ∧ j + n ≤ M 12 (1 : Int).toNat from (show 0 ≤ i ∧ 0 ≤ j ∧ 0 ≤ n ∧ i + n ≤ M 12 1 ∧ j + n ≤ M 12 1 by omega))]; rfl
              refine ⟨_, rfl, by rw [e1], ?_⟩
              rw [e1]
              dsimp only
              have F : ∀ k x, k ≠ 24 → k ≠ 25 → σ1 k x = σ k x := fun k x _ h => r2 k x h
              have E10 : ∀ v, v ≠ 1 → (rngM M (48 * 1 + j.toNat) n.toNat (fun k => M 13 (48 * 1 + i.toNat + k))) 10 v = M 10 v := fun _ _ => rfl
              have E11 : ∀ v, v ≠ 1 → (rngM M (48 * 1 + j.toNat) n.toNat (fun k => M 13 (48 * 1 + i.toNat + k))) 11 v = M 11 v := fun _ _ => rfl
              have E12 : ∀ v, v ≠ 1 → (rngM M (48 * 1 + j.toNat) n.toNat (fun k => M 13 (48 * 1 + i.toNat + k))) 12 v = M 12 v := fun _ _ => rfl
              have E13 : ∀ v x, v ≠ 1 → x < 48 → (rngM M (48 * 1 + j.toNat) n.toNat (fun k => M 13 (48 * 1 + i.toNat + k))) 13 (48 * v + x) = M 13 (48 * v + x) := fun v x hv hx => rngM_out _ _ _ _ (by omega)
              exact ic_sheet c ⟨gs1_o gh1.1 (fun i => F 22 i (by decide) (by decide)) (fun i => F 23 i (by decide) (by decide)) (E10 0 (by decide)) (E11 0 (by decide)) (E12 0 (by decide)) (fun i hi => E13 0 i (by decide) hi), ⟨(r2 _ _ (by decide)).trans kb1, (r2 _ _ (by decide)).trans kb2, (r2 _ _ (by decide)).trans kb3, fun x hx => by
                  have q := r1 x (by omega) (by omega)
                  rw [show ((x : Nat) : Int).toNat = x from rfl] at q
                  rw [q]
                  by_cases hz : j ≤ x ∧ (x : Int) < j + n
                  · rw [if_pos hz, rngM_in _ _ _ _ (by omega), ka4 (i + (x - j)).toNat (by omega), kb2, ← hf, (wa4 (i + (x - j)).toNat (by omega)).1, show 48 * 1 + i.toNat + (48 * 1 + x - (48 * 1 + j.toNat)) = 48 * 1 + (i + (x - j)).toNat by omega]
                  · rw [if_neg hz, rngM_out _ _ _ _ (by omega)]; exact kb4 x hx⟩, gs1_o gh1.2.2.1 (fun i => F 26 i (by decide) (by decide)) (fun i => F 27 i (by decide) (by decide)) (E10 2 (by decide)) (E11 2 (by decide)) (E12 2 (by decide)) (fun i hi => E13 2 i (by decide) hi), gs1_o gh1.2.2.2 (fun i => F 28 i (by decide) (by decide)) (fun i => F 29 i (by decide) (by decide)) (E10 3 (by decide)) (E11 3 (by decide)) (E12 3 (by decide)) (fun i hi => E13 3 i (by decide) hi)⟩ (fun k x h => r2 k x (by omega)) (fun k h => rngM_k _ _ _ _ (by omega))
            · have e88 := ob_df q88
              refine r_aload_n dX8_copy_91 rfl ?_
              refine i_const dX8_copy_92 ?_
              refine i_cvI (c_find σ 2) lmX8_231 dX8_copy_93 (Nat.le_of_ble_eq_true rfl) rfl ⟨_, _, rfl⟩ (by decide) (by decide) rfl rfl (Nat.le_of_ble_eq_true rfl) (fun z1 σ1 hf => ?_)
              refine r_iret rfl dX8_copy_96 ?_
              obtain ⟨rfl, rfl⟩ := hf
              have e1 : s_copy M 1 i 1 j n = (-10 - 2, sup M 0 21 2) := by unfold s_copy; rw [if_pos ⟨by decide, by decide⟩, if_neg (show ¬ (M 10 (1 : Int).toNat = 0 ∨ M 10 (1 : Int).toNat = 0) from (show ¬ (M 10 1 = 0 ∨ M 10 1 = 0) by omega)), if_neg (show ¬ (M 11 (1 : Int).toNat ≠ M 11 (1 : Int).toNat) from (show ¬ (M 11 1 ≠ M 11 1) by omega)), if_neg (show ¬ (0 ≤ i ∧ 0 ≤ j ∧ 0 ≤ n ∧ i + n ≤ M 12 (1 : Int).toNat ∧ j + n ≤ M 12 (1 : Int).toNat) from (show ¬ (0 ≤ i ∧ 0 ≤ j ∧ 0 ≤ n ∧ i + n ≤ M 12 1 ∧ j + n ≤ M 12 1) by omega))]; rfl
              exact ⟨_, rfl, by rw [e1], by rw [e1]; exact ic_find c _⟩
        · skip
          refine r_aload_n dX8_copy_62 rfl ?_
          refine i_const dX8_copy_63 ?_
          refine i_cvI (c_find σ 4) lmX8_231 dX8_copy_64 (Nat.le_of_ble_eq_true rfl) rfl ⟨_, _, rfl⟩ (by decide) (by decide) rfl rfl (Nat.le_of_ble_eq_true rfl) (fun z1 σ1 hf => ?_)
          refine r_iret rfl dX8_copy_67 ?_
          obtain ⟨rfl, rfl⟩ := hf
          have e1 : s_copy M 1 i 1 j n = (-10 - 4, sup M 0 21 4) := by unfold s_copy; rw [if_pos ⟨by decide, by decide⟩, if_neg (show ¬ (M 10 (1 : Int).toNat = 0 ∨ M 10 (1 : Int).toNat = 0) from (show ¬ (M 10 1 = 0 ∨ M 10 1 = 0) by omega)), if_pos (show M 11 (1 : Int).toNat ≠ M 11 (1 : Int).toNat from (show M 11 1 ≠ M 11 1 by omega))]; rfl
          exact ⟨_, rfl, by rw [e1], by rw [e1]; exact ic_find c _⟩
      · skip
        refine r_aload_n dX8_copy_43 rfl ?_
        refine i_const dX8_copy_44 ?_
        refine i_cvI (c_find σ 1) lmX8_231 dX8_copy_45 (Nat.le_of_ble_eq_true rfl) rfl ⟨_, _, rfl⟩ (by decide) (by decide) rfl rfl (Nat.le_of_ble_eq_true rfl) (fun z1 σ1 hf => ?_)
        refine r_iret rfl dX8_copy_48 ?_
        obtain ⟨rfl, rfl⟩ := hf
        have e1 : s_copy M 1 i 1 j n = (-10 - 1, sup M 0 21 1) := by unfold s_copy; rw [if_pos ⟨by decide, by decide⟩, if_pos (show M 10 (1 : Int).toNat = 0 ∨ M 10 (1 : Int).toNat = 0 from (show M 10 1 = 0 ∨ M 10 1 = 0 by omega))]; rfl
        exact ⟨_, rfl, by rw [e1], by rw [e1]; exact ic_find c _⟩
  · skip
    obtain ⟨ka1, ka2, ka3, ka4⟩ := gh1.2.1
    obtain ⟨wa1, wa2, wa3, wa4⟩ := wf_sh hw 1 (by decide)
    obtain ⟨kb1, kb2, kb3, kb4⟩ := gh1.2.2.1
    obtain ⟨wb1, wb2, wb3, wb4⟩ := wf_sh hw 2 (by decide)
    refine r_aload_n dX8_copy_0 rfl ?_
    refine r_iload_n dX8_copy_1 rfl ?_
    refine i_cvP (c_sheetOf_1 σ) lmX8_223 dX8_copy_2 (Nat.le_of_ble_eq_true rfl) rfl ⟨_, _, rfl⟩ (by decide) (by decide) rfl rfl (Nat.le_of_ble_eq_true rfl) ?_
    refine r_astore dX8_copy_5 (Nat.le_of_ble_eq_true rfl) ?_
    refine r_aload_n dX8_copy_7 rfl ?_
    refine r_iload_n dX8_copy_8 rfl ?_
    refine i_cvP (c_sheetOf_2 σ) lmX8_223 dX8_copy_9 (Nat.le_of_ble_eq_true rfl) rfl ⟨_, _, rfl⟩ (by decide) (by decide) rfl rfl (Nat.le_of_ble_eq_true rfl) ?_
    refine r_astore dX8_copy_12 (Nat.le_of_ble_eq_true rfl) ?_
    refine r_aload dX8_copy_14 rfl ?_
    refine r_ifnull dX8_copy_16 ?_
    refine r_aload dX8_copy_19 rfl ?_
    refine r_ifnonnull 27 dX8_copy_21 rfl ?_
    refine r_aload dX8_copy_27 rfl ?_
    refine r_get (k := 24) lfX8_227 dX8_copy_29 (Nat.le_of_ble_eq_true rfl) rfl rfl ?_
    refine i_if_ne 43 dX8_copy_32 rfl ⟨by omega, by omega⟩ (fun q32 => ?_) (fun q32 => ?_)
    · skip
      refine r_aload_n dX8_copy_43 rfl ?_
      refine i_const dX8_copy_44 ?_
      refine i_cvI (c_find σ 1) lmX8_231 dX8_copy_45 (Nat.le_of_ble_eq_true rfl) rfl ⟨_, _, rfl⟩ (by decide) (by decide) rfl rfl (Nat.le_of_ble_eq_true rfl) (fun z1 σ1 hf => ?_)
      refine r_iret rfl dX8_copy_48 ?_
      obtain ⟨rfl, rfl⟩ := hf
      have e1 : s_copy M 1 i 2 j n = (-10 - 1, sup M 0 21 1) := by unfold s_copy; rw [if_pos ⟨by decide, by decide⟩, if_pos (show M 10 (1 : Int).toNat = 0 ∨ M 10 (2 : Int).toNat = 0 from (show M 10 1 = 0 ∨ M 10 2 = 0 by omega))]; rfl
      exact ⟨_, rfl, by rw [e1], by rw [e1]; exact ic_find c _⟩
    · skip
      refine r_aload dX8_copy_35 rfl ?_
      refine r_get (k := 26) lfX8_227 dX8_copy_37 (Nat.le_of_ble_eq_true rfl) rfl rfl ?_
      refine i_if_eq 49 dX8_copy_40 rfl ⟨by omega, by omega⟩ (fun q40 => ?_) (fun q40 => ?_)
      · skip
        refine r_aload dX8_copy_49 rfl ?_
        refine r_get (k := 24) lfX8_266 dX8_copy_51 (Nat.le_of_ble_eq_true rfl) rfl rfl ?_
        refine r_aload dX8_copy_54 rfl ?_
        refine r_get (k := 26) lfX8_266 dX8_copy_56 (Nat.le_of_ble_eq_true rfl) rfl rfl ?_
        refine i_icmp_eq 68 dX8_copy_59 rfl ⟨by omega, by omega⟩ ⟨by omega, by omega⟩ (fun q59 => ?_) (fun q59 => ?_)
        · skip
          refine r_aload dX8_copy_68 rfl ?_
          refine r_iload_n dX8_copy_70 rfl ?_
          refine r_iload dX8_copy_71 rfl ?_
          refine i_cvP (c_holds_24 σ (by omega) (by omega) (by omega) i n hi hn) lmX8_269 dX8_copy_73 (Nat.le_of_ble_eq_true rfl) rfl ⟨_, _, rfl⟩ (by decide) (by decide) rfl rfl (Nat.le_of_ble_eq_true rfl) ?_
          have ob1 := ob_bd (decide (0 ≤ i ∧ 0 ≤ n ∧ i + n ≤ σ 24 3))
          refine i_if_eq 91 dX8_copy_76 rfl ⟨by omega, by omega⟩ (fun q76 => ?_) (fun q76 => ?_)
          · have e76 := ob_df q76
            refine r_aload_n dX8_copy_91 rfl ?_
            refine i_const dX8_copy_92 ?_
            refine i_cvI (c_find σ 2) lmX8_231 dX8_copy_93 (Nat.le_of_ble_eq_true rfl) rfl ⟨_, _, rfl⟩ (by decide) (by decide) rfl rfl (Nat.le_of_ble_eq_true rfl) (fun z1 σ1 hf => ?_)
            refine r_iret rfl dX8_copy_96 ?_
            obtain ⟨rfl, rfl⟩ := hf
            have e1 : s_copy M 1 i 2 j n = (-10 - 2, sup M 0 21 2) := by unfold s_copy; rw [if_pos ⟨by decide, by decide⟩, if_neg (show ¬ (M 10 (1 : Int).toNat = 0 ∨ M 10 (2 : Int).toNat = 0) from (show ¬ (M 10 1 = 0 ∨ M 10 2 = 0) by omega)), if_neg (show ¬ (M 11 (1 : Int).toNat ≠ M 11 (2 : Int).toNat) from (show ¬ (M 11 1 ≠ M 11 2) by omega)), if_neg (show ¬ (0 ≤ i ∧ 0 ≤ j ∧ 0 ≤ n ∧ i + n ≤ M 12 (1 : Int).toNat ∧ j + n ≤ M 12 (2 : Int).toNat) from (show ¬ (0 ≤ i ∧ 0 ≤ j ∧ 0 ≤ n ∧ i + n ≤ M 12 1 ∧ j + n ≤ M 12 2) by omega))]; rfl
            exact ⟨_, rfl, by rw [e1], by rw [e1]; exact ic_find c _⟩
          · have e76 := ob_dt q76
            refine r_aload dX8_copy_79 rfl ?_
            refine r_iload dX8_copy_81 rfl ?_
            refine r_iload dX8_copy_83 rfl ?_
            refine i_cvP (c_holds_26 σ (by omega) (by omega) (by omega) j n hj hn) lmX8_269 dX8_copy_85 (Nat.le_of_ble_eq_true rfl) rfl ⟨_, _, rfl⟩ (by decide) (by decide) rfl rfl (Nat.le_of_ble_eq_true rfl) ?_
            have ob2 := ob_bd (decide (0 ≤ j ∧ 0 ≤ n ∧ j + n ≤ σ 26 3))
            refine i_if_ne 97 dX8_copy_88 rfl ⟨by omega, by omega⟩ (fun q88 => ?_) (fun q88 => ?_)
            · have e88 := ob_dt q88
              refine r_aload dX8_copy_97 rfl ?_
              refine r_aload dX8_copy_99 rfl ?_
              refine r_iload_n dX8_copy_101 rfl ?_
              refine r_iload dX8_copy_102 rfl ?_
              refine r_iload dX8_copy_104 rfl ?_
              refine i_cvV (c_take_26_24 σ (by omega) i j n (by omega) (by omega) (by omega) (by omega) (by omega)) lmX8_272 dX8_copy_106 (Nat.le_of_ble_eq_true rfl) rfl ⟨_, _, rfl⟩ (by decide) (by decide) rfl rfl (Nat.le_of_ble_eq_true rfl) (fun σ1 hr => ?_)
              refine i_const dX8_copy_109 ?_
              refine r_iret rfl dX8_copy_110 ?_
              obtain ⟨r1, r2⟩ := hr
              have hf : M 11 1 = M 11 2 := by omega
              have e1 : s_copy M 1 i 2 j n = (1, (rngM M (48 * 2 + j.toNat) n.toNat (fun k => M 13 (48 * 1 + i.toNat + k)))) := by unfold s_copy; rw [if_pos ⟨by decide, by decide⟩, if_neg (show ¬ (M 10 (1 : Int).toNat = 0 ∨ M 10 (2 : Int).toNat = 0) from (show ¬ (M 10 1 = 0 ∨ M 10 2 = 0) by omega)), if_neg (show ¬ (M 11 (1 : Int).toNat ≠ M 11 (2 : Int).toNat) from (show ¬ (M 11 1 ≠ M 11 2) by omega)), if_pos (show 0 ≤ i ∧ 0 ≤ j ∧ 0 ≤ n ∧ i + n ≤ M 12 (1 : Int).toNat ∧ j + n ≤ M 12 (2 : Int).toNat from (show 0 ≤ i ∧ 0 ≤ j ∧ 0 ≤ n ∧ i + n ≤ M 12 1 ∧ j + n ≤ M 12 2 by omega))]; rfl
              refine ⟨_, rfl, by rw [e1], ?_⟩
              rw [e1]
              dsimp only
              have F : ∀ k x, k ≠ 26 → k ≠ 27 → σ1 k x = σ k x := fun k x _ h => r2 k x h
              have E10 : ∀ v, v ≠ 2 → (rngM M (48 * 2 + j.toNat) n.toNat (fun k => M 13 (48 * 1 + i.toNat + k))) 10 v = M 10 v := fun _ _ => rfl
              have E11 : ∀ v, v ≠ 2 → (rngM M (48 * 2 + j.toNat) n.toNat (fun k => M 13 (48 * 1 + i.toNat + k))) 11 v = M 11 v := fun _ _ => rfl
              have E12 : ∀ v, v ≠ 2 → (rngM M (48 * 2 + j.toNat) n.toNat (fun k => M 13 (48 * 1 + i.toNat + k))) 12 v = M 12 v := fun _ _ => rfl
              have E13 : ∀ v x, v ≠ 2 → x < 48 → (rngM M (48 * 2 + j.toNat) n.toNat (fun k => M 13 (48 * 1 + i.toNat + k))) 13 (48 * v + x) = M 13 (48 * v + x) := fun v x hv hx => rngM_out _ _ _ _ (by omega)
              exact ic_sheet c ⟨gs1_o gh1.1 (fun i => F 22 i (by decide) (by decide)) (fun i => F 23 i (by decide) (by decide)) (E10 0 (by decide)) (E11 0 (by decide)) (E12 0 (by decide)) (fun i hi => E13 0 i (by decide) hi), gs1_o gh1.2.1 (fun i => F 24 i (by decide) (by decide)) (fun i => F 25 i (by decide) (by decide)) (E10 1 (by decide)) (E11 1 (by decide)) (E12 1 (by decide)) (fun i hi => E13 1 i (by decide) hi), ⟨(r2 _ _ (by decide)).trans kb1, (r2 _ _ (by decide)).trans kb2, (r2 _ _ (by decide)).trans kb3, fun x hx => by
                  have q := r1 x (by omega) (by omega)
                  rw [show ((x : Nat) : Int).toNat = x from rfl] at q
                  rw [q]
                  by_cases hz : j ≤ x ∧ (x : Int) < j + n
                  · rw [if_pos hz, rngM_in _ _ _ _ (by omega), ka4 (i + (x - j)).toNat (by omega), kb2, ← hf, (wa4 (i + (x - j)).toNat (by omega)).1, show 48 * 1 + i.toNat + (48 * 2 + x - (48 * 2 + j.toNat)) = 48 * 1 + (i + (x - j)).toNat by omega]
                  · rw [if_neg hz, rngM_out _ _ _ _ (by omega)]; exact kb4 x hx⟩, gs1_o gh1.2.2.2 (fun i => F 28 i (by decide) (by decide)) (fun i => F 29 i (by decide) (by decide)) (E10 3 (by decide)) (E11 3 (by decide)) (E12 3 (by decide)) (fun i hi => E13 3 i (by decide) hi)⟩ (fun k x h => r2 k x (by omega)) (fun k h => rngM_k _ _ _ _ (by omega))
            · have e88 := ob_df q88
              refine r_aload_n dX8_copy_91 rfl ?_
              refine i_const dX8_copy_92 ?_
              refine i_cvI (c_find σ 2) lmX8_231 dX8_copy_93 (Nat.le_of_ble_eq_true rfl) rfl ⟨_, _, rfl⟩ (by decide) (by decide) rfl rfl (Nat.le_of_ble_eq_true rfl) (fun z1 σ1 hf => ?_)
              refine r_iret rfl dX8_copy_96 ?_
              obtain ⟨rfl, rfl⟩ := hf
              have e1 : s_copy M 1 i 2 j n = (-10 - 2, sup M 0 21 2) := by unfold s_copy; rw [if_pos ⟨by decide, by decide⟩, if_neg (show ¬ (M 10 (1 : Int).toNat = 0 ∨ M 10 (2 : Int).toNat = 0) from (show ¬ (M 10 1 = 0 ∨ M 10 2 = 0) by omega)), if_neg (show ¬ (M 11 (1 : Int).toNat ≠ M 11 (2 : Int).toNat) from (show ¬ (M 11 1 ≠ M 11 2) by omega)), if_neg (show ¬ (0 ≤ i ∧ 0 ≤ j ∧ 0 ≤ n ∧ i + n ≤ M 12 (1 : Int).toNat ∧ j + n ≤ M 12 (2 : Int).toNat) from (show ¬ (0 ≤ i ∧ 0 ≤ j ∧ 0 ≤ n ∧ i + n ≤ M 12 1 ∧ j + n ≤ M 12 2) by omega))]; rfl
              exact ⟨_, rfl, by rw [e1], by rw [e1]; exact ic_find c _⟩
        · skip
          refine r_aload_n dX8_copy_62 rfl ?_
          refine i_const dX8_copy_63 ?_
          refine i_cvI (c_find σ 4) lmX8_231 dX8_copy_64 (Nat.le_of_ble_eq_true rfl) rfl ⟨_, _, rfl⟩ (by decide) (by decide) rfl rfl (Nat.le_of_ble_eq_true rfl) (fun z1 σ1 hf => ?_)
          refine r_iret rfl dX8_copy_67 ?_
          obtain ⟨rfl, rfl⟩ := hf
          have e1 : s_copy M 1 i 2 j n = (-10 - 4, sup M 0 21 4) := by unfold s_copy; rw [if_pos ⟨by decide, by decide⟩, if_neg (show ¬ (M 10 (1 : Int).toNat = 0 ∨ M 10 (2 : Int).toNat = 0) from (show ¬ (M 10 1 = 0 ∨ M 10 2 = 0) by omega)), if_pos (show M 11 (1 : Int).toNat ≠ M 11 (2 : Int).toNat from (show M 11 1 ≠ M 11 2 by omega))]; rfl
          exact ⟨_, rfl, by rw [e1], by rw [e1]; exact ic_find c _⟩
      · skip
        refine r_aload_n dX8_copy_43 rfl ?_
        refine i_const dX8_copy_44 ?_
        refine i_cvI (c_find σ 1) lmX8_231 dX8_copy_45 (Nat.le_of_ble_eq_true rfl) rfl ⟨_, _, rfl⟩ (by decide) (by decide) rfl rfl (Nat.le_of_ble_eq_true rfl) (fun z1 σ1 hf => ?_)
        refine r_iret rfl dX8_copy_48 ?_
        obtain ⟨rfl, rfl⟩ := hf
        have e1 : s_copy M 1 i 2 j n = (-10 - 1, sup M 0 21 1) := by unfold s_copy; rw [if_pos ⟨by decide, by decide⟩, if_pos (show M 10 (1 : Int).toNat = 0 ∨ M 10 (2 : Int).toNat = 0 from (show M 10 1 = 0 ∨ M 10 2 = 0 by omega))]; rfl
        exact ⟨_, rfl, by rw [e1], by rw [e1]; exact ic_find c _⟩
  · skip
    obtain ⟨ka1, ka2, ka3, ka4⟩ := gh1.2.1
    obtain ⟨wa1, wa2, wa3, wa4⟩ := wf_sh hw 1 (by decide)
    obtain ⟨kb1, kb2, kb3, kb4⟩ := gh1.2.2.2
    obtain ⟨wb1, wb2, wb3, wb4⟩ := wf_sh hw 3 (by decide)
    refine r_aload_n dX8_copy_0 rfl ?_
    refine r_iload_n dX8_copy_1 rfl ?_
    refine i_cvP (c_sheetOf_1 σ) lmX8_223 dX8_copy_2 (Nat.le_of_ble_eq_true rfl) rfl ⟨_, _, rfl⟩ (by decide) (by decide) rfl rfl (Nat.le_of_ble_eq_true rfl) ?_
    refine r_astore dX8_copy_5 (Nat.le_of_ble_eq_true rfl) ?_
    refine r_aload_n dX8_copy_7 rfl ?_
    refine r_iload_n dX8_copy_8 rfl ?_
    refine i_cvP (c_sheetOf_3 σ) lmX8_223 dX8_copy_9 (Nat.le_of_ble_eq_true rfl) rfl ⟨_, _, rfl⟩ (by decide) (by decide) rfl rfl (Nat.le_of_ble_eq_true rfl) ?_
    refine r_astore dX8_copy_12 (Nat.le_of_ble_eq_true rfl) ?_
    refine r_aload dX8_copy_14 rfl ?_
    refine r_ifnull dX8_copy_16 ?_
    refine r_aload dX8_copy_19 rfl ?_
    refine r_ifnonnull 27 dX8_copy_21 rfl ?_
    refine r_aload dX8_copy_27 rfl ?_
    refine r_get (k := 24) lfX8_227 dX8_copy_29 (Nat.le_of_ble_eq_true rfl) rfl rfl ?_
    refine i_if_ne 43 dX8_copy_32 rfl ⟨by omega, by omega⟩ (fun q32 => ?_) (fun q32 => ?_)
    · skip
      refine r_aload_n dX8_copy_43 rfl ?_
      refine i_const dX8_copy_44 ?_
      refine i_cvI (c_find σ 1) lmX8_231 dX8_copy_45 (Nat.le_of_ble_eq_true rfl) rfl ⟨_, _, rfl⟩ (by decide) (by decide) rfl rfl (Nat.le_of_ble_eq_true rfl) (fun z1 σ1 hf => ?_)
      refine r_iret rfl dX8_copy_48 ?_
      obtain ⟨rfl, rfl⟩ := hf
      have e1 : s_copy M 1 i 3 j n = (-10 - 1, sup M 0 21 1) := by unfold s_copy; rw [if_pos ⟨by decide, by decide⟩, if_pos (show M 10 (1 : Int).toNat = 0 ∨ M 10 (3 : Int).toNat = 0 from (show M 10 1 = 0 ∨ M 10 3 = 0 by omega))]; rfl
      exact ⟨_, rfl, by rw [e1], by rw [e1]; exact ic_find c _⟩
    · skip
      refine r_aload dX8_copy_35 rfl ?_
      refine r_get (k := 28) lfX8_227 dX8_copy_37 (Nat.le_of_ble_eq_true rfl) rfl rfl ?_
      refine i_if_eq 49 dX8_copy_40 rfl ⟨by omega, by omega⟩ (fun q40 => ?_) (fun q40 => ?_)
      · skip
        refine r_aload dX8_copy_49 rfl ?_
        refine r_get (k := 24) lfX8_266 dX8_copy_51 (Nat.le_of_ble_eq_true rfl) rfl rfl ?_
        refine r_aload dX8_copy_54 rfl ?_
        refine r_get (k := 28) lfX8_266 dX8_copy_56 (Nat.le_of_ble_eq_true rfl) rfl rfl ?_
        refine i_icmp_eq 68 dX8_copy_59 rfl ⟨by omega, by omega⟩ ⟨by omega, by omega⟩ (fun q59 => ?_) (fun q59 => ?_)
        · skip
          refine r_aload dX8_copy_68 rfl ?_
          refine r_iload_n dX8_copy_70 rfl ?_
          refine r_iload dX8_copy_71 rfl ?_
          refine i_cvP (c_holds_24 σ (by omega) (by omega) (by omega) i n hi hn) lmX8_269 dX8_copy_73 (Nat.le_of_ble_eq_true rfl) rfl ⟨_, _, rfl⟩ (by decide) (by decide) rfl rfl (Nat.le_of_ble_eq_true rfl) ?_
          have ob1 := ob_bd (decide (0 ≤ i ∧ 0 ≤ n ∧ i + n ≤ σ 24 3))
          refine i_if_eq 91 dX8_copy_76 rfl ⟨by omega, by omega⟩ (fun q76 => ?_) (fun q76 => ?_)
          · have e76 := ob_df q76
            refine r_aload_n dX8_copy_91 rfl ?_
            refine i_const dX8_copy_92 ?_
            refine i_cvI (c_find σ 2) lmX8_231 dX8_copy_93 (Nat.le_of_ble_eq_true rfl) rfl ⟨_, _, rfl⟩ (by decide) (by decide) rfl rfl (Nat.le_of_ble_eq_true rfl) (fun z1 σ1 hf => ?_)
            refine r_iret rfl dX8_copy_96 ?_
            obtain ⟨rfl, rfl⟩ := hf
            have e1 : s_copy M 1 i 3 j n = (-10 - 2, sup M 0 21 2) := by unfold s_copy; rw [if_pos ⟨by decide, by decide⟩, if_neg (show ¬ (M 10 (1 : Int).toNat = 0 ∨ M 10 (3 : Int).toNat = 0) from (show ¬ (M 10 1 = 0 ∨ M 10 3 = 0) by omega)), if_neg (show ¬ (M 11 (1 : Int).toNat ≠ M 11 (3 : Int).toNat) from (show ¬ (M 11 1 ≠ M 11 3) by omega)), if_neg (show ¬ (0 ≤ i ∧ 0 ≤ j ∧ 0 ≤ n ∧ i + n ≤ M 12 (1 : Int).toNat ∧ j + n ≤ M 12 (3 : Int).toNat) from (show ¬ (0 ≤ i ∧ 0 ≤ j ∧ 0 ≤ n ∧ i + n ≤ M 12 1 ∧ j + n ≤ M 12 3) by omega))]; rfl
            exact ⟨_, rfl, by rw [e1], by rw [e1]; exact ic_find c _⟩
          · have e76 := ob_dt q76
            refine r_aload dX8_copy_79 rfl ?_
            refine r_iload dX8_copy_81 rfl ?_
            refine r_iload dX8_copy_83 rfl ?_
            refine i_cvP (c_holds_28 σ (by omega) (by omega) (by omega) j n hj hn) lmX8_269 dX8_copy_85 (Nat.le_of_ble_eq_true rfl) rfl ⟨_, _, rfl⟩ (by decide) (by decide) rfl rfl (Nat.le_of_ble_eq_true rfl) ?_
            have ob2 := ob_bd (decide (0 ≤ j ∧ 0 ≤ n ∧ j + n ≤ σ 28 3))
            refine i_if_ne 97 dX8_copy_88 rfl ⟨by omega, by omega⟩ (fun q88 => ?_) (fun q88 => ?_)
            · have e88 := ob_dt q88
              refine r_aload dX8_copy_97 rfl ?_
              refine r_aload dX8_copy_99 rfl ?_
              refine r_iload_n dX8_copy_101 rfl ?_
              refine r_iload dX8_copy_102 rfl ?_
              refine r_iload dX8_copy_104 rfl ?_
              refine i_cvV (c_take_28_24 σ (by omega) i j n (by omega) (by omega) (by omega) (by omega) (by omega)) lmX8_272 dX8_copy_106 (Nat.le_of_ble_eq_true rfl) rfl ⟨_, _, rfl⟩ (by decide) (by decide) rfl rfl (Nat.le_of_ble_eq_true rfl) (fun σ1 hr => ?_)
              refine i_const dX8_copy_109 ?_
              refine r_iret rfl dX8_copy_110 ?_
              obtain ⟨r1, r2⟩ := hr
              have hf : M 11 1 = M 11 3 := by omega
              have e1 : s_copy M 1 i 3 j n = (1, (rngM M (48 * 3 + j.toNat) n.toNat (fun k => M 13 (48 * 1 + i.toNat + k)))) := by unfold s_copy; rw [if_pos ⟨by decide, by decide⟩, if_neg (show ¬ (M 10 (1 : Int).toNat = 0 ∨ M 10 (3 : Int).toNat = 0) from (show ¬ (M 10 1 = 0 ∨ M 10 3 = 0) by omega)), if_neg (show ¬ (M 11 (1 : Int).toNat ≠ M 11 (3 : Int).toNat) from (show ¬ (M 11 1 ≠ M 11 3) by omega)), if_pos (show 0 ≤ i ∧ 0 ≤ j ∧ 0 ≤ n ∧ i + n ≤ M 12 (1 : Int).toNat ∧ j + n ≤ M 12 (3 : Int).toNat from (show 0 ≤ i ∧ 0 ≤ j ∧ 0 ≤ n ∧ i + n ≤ M 12 1 ∧ j + n ≤ M 12 3 by omega))]; rfl
              refine ⟨_, rfl, by rw [e1], ?_⟩
              rw [e1]
              dsimp only
              have F : ∀ k x, k ≠ 28 → k ≠ 29 → σ1 k x = σ k x := fun k x _ h => r2 k x h
              have E10 : ∀ v, v ≠ 3 → (rngM M (48 * 3 + j.toNat) n.toNat (fun k => M 13 (48 * 1 + i.toNat + k))) 10 v = M 10 v := fun _ _ => rfl
              have E11 : ∀ v, v ≠ 3 → (rngM M (48 * 3 + j.toNat) n.toNat (fun k => M 13 (48 * 1 + i.toNat + k))) 11 v = M 11 v := fun _ _ => rfl
              have E12 : ∀ v, v ≠ 3 → (rngM M (48 * 3 + j.toNat) n.toNat (fun k => M 13 (48 * 1 + i.toNat + k))) 12 v = M 12 v := fun _ _ => rfl
              have E13 : ∀ v x, v ≠ 3 → x < 48 → (rngM M (48 * 3 + j.toNat) n.toNat (fun k => M 13 (48 * 1 + i.toNat + k))) 13 (48 * v + x) = M 13 (48 * v + x) := fun v x hv hx => rngM_out _ _ _ _ (by omega)
              exact ic_sheet c ⟨gs1_o gh1.1 (fun i => F 22 i (by decide) (by decide)) (fun i => F 23 i (by decide) (by decide)) (E10 0 (by decide)) (E11 0 (by decide)) (E12 0 (by decide)) (fun i hi => E13 0 i (by decide) hi), gs1_o gh1.2.1 (fun i => F 24 i (by decide) (by decide)) (fun i => F 25 i (by decide) (by decide)) (E10 1 (by decide)) (E11 1 (by decide)) (E12 1 (by decide)) (fun i hi => E13 1 i (by decide) hi), gs1_o gh1.2.2.1 (fun i => F 26 i (by decide) (by decide)) (fun i => F 27 i (by decide) (by decide)) (E10 2 (by decide)) (E11 2 (by decide)) (E12 2 (by decide)) (fun i hi => E13 2 i (by decide) hi), ⟨(r2 _ _ (by decide)).trans kb1, (r2 _ _ (by decide)).trans kb2, (r2 _ _ (by decide)).trans kb3, fun x hx => by
                  have q := r1 x (by omega) (by omega)
                  rw [show ((x : Nat) : Int).toNat = x from rfl] at q
                  rw [q]
                  by_cases hz : j ≤ x ∧ (x : Int) < j + n
                  · rw [if_pos hz, rngM_in _ _ _ _ (by omega), ka4 (i + (x - j)).toNat (by omega), kb2, ← hf, (wa4 (i + (x - j)).toNat (by omega)).1, show 48 * 1 + i.toNat + (48 * 3 + x - (48 * 3 + j.toNat)) = 48 * 1 + (i + (x - j)).toNat by omega]
                  · rw [if_neg hz, rngM_out _ _ _ _ (by omega)]; exact kb4 x hx⟩⟩ (fun k x h => r2 k x (by omega)) (fun k h => rngM_k _ _ _ _ (by omega))
            · have e88 := ob_df q88
              refine r_aload_n dX8_copy_91 rfl ?_
              refine i_const dX8_copy_92 ?_
              refine i_cvI (c_find σ 2) lmX8_231 dX8_copy_93 (Nat.le_of_ble_eq_true rfl) rfl ⟨_, _, rfl⟩ (by decide) (by decide) rfl rfl (Nat.le_of_ble_eq_true rfl) (fun z1 σ1 hf => ?_)
              refine r_iret rfl dX8_copy_96 ?_
              obtain ⟨rfl, rfl⟩ := hf
              have e1 : s_copy M 1 i 3 j n = (-10 - 2, sup M 0 21 2) := by unfold s_copy; rw [if_pos ⟨by decide, by decide⟩, if_neg (show ¬ (M 10 (1 : Int).toNat = 0 ∨ M 10 (3 : Int).toNat = 0) from (show ¬ (M 10 1 = 0 ∨ M 10 3 = 0) by omega)), if_neg (show ¬ (M 11 (1 : Int).toNat ≠ M 11 (3 : Int).toNat) from (show ¬ (M 11 1 ≠ M 11 3) by omega)), if_neg (show ¬ (0 ≤ i ∧ 0 ≤ j ∧ 0 ≤ n ∧ i + n ≤ M 12 (1 : Int).toNat ∧ j + n ≤ M 12 (3 : Int).toNat) from (show ¬ (0 ≤ i ∧ 0 ≤ j ∧ 0 ≤ n ∧ i + n ≤ M 12 1 ∧ j + n ≤ M 12 3) by omega))]; rfl
              exact ⟨_, rfl, by rw [e1], by rw [e1]; exact ic_find c _⟩
        · skip
          refine r_aload_n dX8_copy_62 rfl ?_
          refine i_const dX8_copy_63 ?_
          refine i_cvI (c_find σ 4) lmX8_231 dX8_copy_64 (Nat.le_of_ble_eq_true rfl) rfl ⟨_, _, rfl⟩ (by decide) (by decide) rfl rfl (Nat.le_of_ble_eq_true rfl) (fun z1 σ1 hf => ?_)
          refine r_iret rfl dX8_copy_67 ?_
          obtain ⟨rfl, rfl⟩ := hf
          have e1 : s_copy M 1 i 3 j n = (-10 - 4, sup M 0 21 4) := by unfold s_copy; rw [if_pos ⟨by decide, by decide⟩, if_neg (show ¬ (M 10 (1 : Int).toNat = 0 ∨ M 10 (3 : Int).toNat = 0) from (show ¬ (M 10 1 = 0 ∨ M 10 3 = 0) by omega)), if_pos (show M 11 (1 : Int).toNat ≠ M 11 (3 : Int).toNat from (show M 11 1 ≠ M 11 3 by omega))]; rfl
          exact ⟨_, rfl, by rw [e1], by rw [e1]; exact ic_find c _⟩
      · skip
        refine r_aload_n dX8_copy_43 rfl ?_
        refine i_const dX8_copy_44 ?_
        refine i_cvI (c_find σ 1) lmX8_231 dX8_copy_45 (Nat.le_of_ble_eq_true rfl) rfl ⟨_, _, rfl⟩ (by decide) (by decide) rfl rfl (Nat.le_of_ble_eq_true rfl) (fun z1 σ1 hf => ?_)
        refine r_iret rfl dX8_copy_48 ?_
        obtain ⟨rfl, rfl⟩ := hf
        have e1 : s_copy M 1 i 3 j n = (-10 - 1, sup M 0 21 1) := by unfold s_copy; rw [if_pos ⟨by decide, by decide⟩, if_pos (show M 10 (1 : Int).toNat = 0 ∨ M 10 (3 : Int).toNat = 0 from (show M 10 1 = 0 ∨ M 10 3 = 0 by omega))]; rfl
        exact ⟨_, rfl, by rw [e1], by rw [e1]; exact ic_find c _⟩
  · skip
    refine r_aload_n dX8_copy_0 rfl ?_
    refine r_iload_n dX8_copy_1 rfl ?_
    refine i_cvP (c_sheetOf_1 σ) lmX8_223 dX8_copy_2 (Nat.le_of_ble_eq_true rfl) rfl ⟨_, _, rfl⟩ (by decide) (by decide) rfl rfl (Nat.le_of_ble_eq_true rfl) ?_
    refine r_astore dX8_copy_5 (Nat.le_of_ble_eq_true rfl) ?_
    refine r_aload_n dX8_copy_7 rfl ?_
    refine r_iload_n dX8_copy_8 rfl ?_
    refine i_cvP (c_sheetOf_n σ t ht n1) lmX8_223 dX8_copy_9 (Nat.le_of_ble_eq_true rfl) rfl ⟨_, _, rfl⟩ (by decide) (by decide) rfl rfl (Nat.le_of_ble_eq_true rfl) ?_
    refine r_astoreN dX8_copy_12 (Nat.le_of_ble_eq_true rfl) ?_
    refine r_aload dX8_copy_14 rfl ?_
    refine r_ifnull dX8_copy_16 ?_
    refine r_aloadN dX8_copy_19 rfl ?_
    refine r_ifnonnullN dX8_copy_21 ?_
    refine i_bipush dX8_copy_24 (by decide) ?_
    refine r_iret rfl dX8_copy_26 ?_
    exact ⟨_, rfl, by unfold s_copy; rw [if_neg (by omega)], by unfold s_copy; rw [if_neg (by omega)]; exact c⟩
  · skip
    obtain ⟨ka1, ka2, ka3, ka4⟩ := gh1.2.2.1
    obtain ⟨wa1, wa2, wa3, wa4⟩ := wf_sh hw 2 (by decide)
    obtain ⟨kb1, kb2, kb3, kb4⟩ := gh1.1
    obtain ⟨wb1, wb2, wb3, wb4⟩ := wf_sh hw 0 (by decide)
    refine r_aload_n dX8_copy_0 rfl ?_
    refine r_iload_n dX8_copy_1 rfl ?_
    refine i_cvP (c_sheetOf_2 σ) lmX8_223 dX8_copy_2 (Nat.le_of_ble_eq_true rfl) rfl ⟨_, _, rfl⟩ (by decide) (by decide) rfl rfl (Nat.le_of_ble_eq_true rfl) ?_
    refine r_astore dX8_copy_5 (Nat.le_of_ble_eq_true rfl) ?_
    refine r_aload_n dX8_copy_7 rfl ?_
    refine r_iload_n dX8_copy_8 rfl ?_
    refine i_cvP (c_sheetOf_0 σ) lmX8_223 dX8_copy_9 (Nat.le_of_ble_eq_true rfl) rfl ⟨_, _, rfl⟩ (by decide) (by decide) rfl rfl (Nat.le_of_ble_eq_true rfl) ?_
    refine r_astore dX8_copy_12 (Nat.le_of_ble_eq_true rfl) ?_
    refine r_aload dX8_copy_14 rfl ?_
    refine r_ifnull dX8_copy_16 ?_
    refine r_aload dX8_copy_19 rfl ?_
    refine r_ifnonnull 27 dX8_copy_21 rfl ?_
    refine r_aload dX8_copy_27 rfl ?_
    refine r_get (k := 26) lfX8_227 dX8_copy_29 (Nat.le_of_ble_eq_true rfl) rfl rfl ?_
    refine i_if_ne 43 dX8_copy_32 rfl ⟨by omega, by omega⟩ (fun q32 => ?_) (fun q32 => ?_)
    · skip
      refine r_aload_n dX8_copy_43 rfl ?_
      refine i_const dX8_copy_44 ?_
      refine i_cvI (c_find σ 1) lmX8_231 dX8_copy_45 (Nat.le_of_ble_eq_true rfl) rfl ⟨_, _, rfl⟩ (by decide) (by decide) rfl rfl (Nat.le_of_ble_eq_true rfl) (fun z1 σ1 hf => ?_)
      refine r_iret rfl dX8_copy_48 ?_
      obtain ⟨rfl, rfl⟩ := hf
      have e1 : s_copy M 2 i 0 j n = (-10 - 1, sup M 0 21 1) := by unfold s_copy; rw [if_pos ⟨by decide, by decide⟩, if_pos (show M 10 (2 : Int).toNat = 0 ∨ M 10 (0 : Int).toNat = 0 from (show M 10 2 = 0 ∨ M 10 0 = 0 by omega))]; rfl
      exact ⟨_, rfl, by rw [e1], by rw [e1]; exact ic_find c _⟩
    · skip
      refine r_aload dX8_copy_35 rfl ?_
      refine r_get (k := 22) lfX8_227 dX8_copy_37 (Nat.le_of_ble_eq_true rfl) rfl rfl ?_
      refine i_if_eq 49 dX8_copy_40 rfl ⟨by omega, by omega⟩ (fun q40 => ?_) (fun q40 => ?_)
      · skip
        refine r_aload dX8_copy_49 rfl ?_
        refine r_get (k := 26) lfX8_266 dX8_copy_51 (Nat.le_of_ble_eq_true rfl) rfl rfl ?_
        refine r_aload dX8_copy_54 rfl ?_
        refine r_get (k := 22) lfX8_266 dX8_copy_56 (Nat.le_of_ble_eq_true rfl) rfl rfl ?_
        refine i_icmp_eq 68 dX8_copy_59 rfl ⟨by omega, by omega⟩ ⟨by omega, by omega⟩ (fun q59 => ?_) (fun q59 => ?_)
        · skip
          refine r_aload dX8_copy_68 rfl ?_
          refine r_iload_n dX8_copy_70 rfl ?_
          refine r_iload dX8_copy_71 rfl ?_
          refine i_cvP (c_holds_26 σ (by omega) (by omega) (by omega) i n hi hn) lmX8_269 dX8_copy_73 (Nat.le_of_ble_eq_true rfl) rfl ⟨_, _, rfl⟩ (by decide) (by decide) rfl rfl (Nat.le_of_ble_eq_true rfl) ?_
          have ob1 := ob_bd (decide (0 ≤ i ∧ 0 ≤ n ∧ i + n ≤ σ 26 3))
          refine i_if_eq 91 dX8_copy_76 rfl ⟨by omega, by omega⟩ (fun q76 => ?_) (fun q76 => ?_)
          · have e76 := ob_df q76
            refine r_aload_n dX8_copy_91 rfl ?_
            refine i_const dX8_copy_92 ?_
            refine i_cvI (c_find σ 2) lmX8_231 dX8_copy_93 (Nat.le_of_ble_eq_true rfl) rfl ⟨_, _, rfl⟩ (by decide) (by decide) rfl rfl (Nat.le_of_ble_eq_true rfl) (fun z1 σ1 hf => ?_)
            refine r_iret rfl dX8_copy_96 ?_
            obtain ⟨rfl, rfl⟩ := hf
            have e1 : s_copy M 2 i 0 j n = (-10 - 2, sup M 0 21 2) := by unfold s_copy; rw [if_pos ⟨by decide, by decide⟩, if_neg (show ¬ (M 10 (2 : Int).toNat = 0 ∨ M 10 (0 : Int).toNat = 0) from (show ¬ (M 10 2 = 0 ∨ M 10 0 = 0) by omega)), if_neg (show ¬ (M 11 (2 : Int).toNat ≠ M 11 (0 : Int).toNat) from (show ¬ (M 11 2 ≠ M 11 0) by omega)), if_neg (show ¬ (0 ≤ i ∧ 0 ≤ j ∧ 0 ≤ n ∧ i + n ≤ M 12 (2 : Int).toNat ∧ j + n ≤ M 12 (0 : Int).toNat) from (show ¬ (0 ≤ i ∧ 0 ≤ j ∧ 0 ≤ n ∧ i + n ≤ M 12 2 ∧ j + n ≤ M 12 0) by omega))]; rfl
            exact ⟨_, rfl, by rw [e1], by rw [e1]; exact ic_find c _⟩
          · have e76 := ob_dt q76
            refine r_aload dX8_copy_79 rfl ?_
            refine r_iload dX8_copy_81 rfl ?_
            refine r_iload dX8_copy_83 rfl ?_
            refine i_cvP (c_holds_22 σ (by omega) (by omega) (by omega) j n hj hn) lmX8_269 dX8_copy_85 (Nat.le_of_ble_eq_true rfl) rfl ⟨_, _, rfl⟩ (by decide) (by decide) rfl rfl (Nat.le_of_ble_eq_true rfl) ?_
            have ob2 := ob_bd (decide (0 ≤ j ∧ 0 ≤ n ∧ j + n ≤ σ 22 3))
            refine i_if_ne 97 dX8_copy_88 rfl ⟨by omega, by omega⟩ (fun q88 => ?_) (fun q88 => ?_)
            · have e88 := ob_dt q88
              refine r_aload dX8_copy_97 rfl ?_
              refine r_aload dX8_copy_99 rfl ?_
              refine r_iload_n dX8_copy_101 rfl ?_
              refine r_iload dX8_copy_102 rfl ?_
              refine r_iload dX8_copy_104 rfl ?_
              refine i_cvV (c_take_22_26 σ (by omega) i j n (by omega) (by omega) (by omega) (by omega) (by omega)) lmX8_272 dX8_copy_106 (Nat.le_of_ble_eq_true rfl) rfl ⟨_, _, rfl⟩ (by decide) (by decide) rfl rfl (Nat.le_of_ble_eq_true rfl) (fun σ1 hr => ?_)
              refine i_const dX8_copy_109 ?_
              refine r_iret rfl dX8_copy_110 ?_
              obtain ⟨r1, r2⟩ := hr
              have hf : M 11 2 = M 11 0 := by omega
              have e1 : s_copy M 2 i 0 j n = (1, (rngM M (48 * 0 + j.toNat) n.toNat (fun k => M 13 (48 * 2 + i.toNat + k)))) := by unfold s_copy; rw [if_pos ⟨by decide, by decide⟩, if_neg (show ¬ (M 10 (2 : Int).toNat = 0 ∨ M 10 (0 : Int).toNat = 0) from (show ¬ (M 10 2 = 0 ∨ M 10 0 = 0) by omega)), if_neg (show ¬ (M 11 (2 : Int).toNat ≠ M 11 (0 : Int).toNat) from (show ¬ (M 11 2 ≠ M 11 0) by omega)), if_pos (show 0 ≤ i ∧ 0 ≤ j ∧ 0 ≤ n ∧ i + n ≤ M 12 (2 : Int).toNat ∧ j + n ≤ M 12 (0 : Int).toNat from (show 0 ≤ i ∧ 0 ≤ j ∧ 0 ≤ n ∧ i + n ≤ M 12 2 ∧ j + n ≤ M 12 0 by omega))]; rfl
              refine ⟨_, rfl, by rw [e1], ?_⟩
              rw [e1]
              dsimp only
              have F : ∀ k x, k ≠ 22 → k ≠ 23 → σ1 k x = σ k x := fun k x _ h => r2 k x h
              have E10 : ∀ v, v ≠ 0 → (rngM M (48 * 0 + j.toNat) n.toNat (fun k => M 13 (48 * 2 + i.toNat + k))) 10 v = M 10 v := fun _ _ => rfl
              have E11 : ∀ v, v ≠ 0 → (rngM M (48 * 0 + j.toNat) n.toNat (fun k => M 13 (48 * 2 + i.toNat + k))) 11 v = M 11 v := fun _ _ => rfl
              have E12 : ∀ v, v ≠ 0 → (rngM M (48 * 0 + j.toNat) n.toNat (fun k => M 13 (48 * 2 + i.toNat + k))) 12 v = M 12 v := fun _ _ => rfl
              have E13 : ∀ v x, v ≠ 0 → x < 48 → (rngM M (48 * 0 + j.toNat) n.toNat (fun k => M 13 (48 * 2 + i.toNat + k))) 13 (48 * v + x) = M 13 (48 * v + x) := fun v x hv hx => rngM_out _ _ _ _ (by omega)
              exact ic_sheet c ⟨⟨(r2 _ _ (by decide)).trans kb1, (r2 _ _ (by decide)).trans kb2, (r2 _ _ (by decide)).trans kb3, fun x hx => by
                  have q := r1 x (by omega) (by omega)
                  rw [show ((x : Nat) : Int).toNat = x from rfl] at q
                  rw [q]
                  by_cases hz : j ≤ x ∧ (x : Int) < j + n
                  · rw [if_pos hz, rngM_in _ _ _ _ (by omega), ka4 (i + (x - j)).toNat (by omega), kb2, ← hf, (wa4 (i + (x - j)).toNat (by omega)).1, show 48 * 2 + i.toNat + (48 * 0 + x - (48 * 0 + j.toNat)) = 48 * 2 + (i + (x - j)).toNat by omega]
                  · rw [if_neg hz, rngM_out _ _ _ _ (by omega)]; exact kb4 x hx⟩, gs1_o gh1.2.1 (fun i => F 24 i (by decide) (by decide)) (fun i => F 25 i (by decide) (by decide)) (E10 1 (by decide)) (E11 1 (by decide)) (E12 1 (by decide)) (fun i hi => E13 1 i (by decide) hi), gs1_o gh1.2.2.1 (fun i => F 26 i (by decide) (by decide)) (fun i => F 27 i (by decide) (by decide)) (E10 2 (by decide)) (E11 2 (by decide)) (E12 2 (by decide)) (fun i hi => E13 2 i (by decide) hi), gs1_o gh1.2.2.2 (fun i => F 28 i (by decide) (by decide)) (fun i => F 29 i (by decide) (by decide)) (E10 3 (by decide)) (E11 3 (by decide)) (E12 3 (by decide)) (fun i hi => E13 3 i (by decide) hi)⟩ (fun k x h => r2 k x (by omega)) (fun k h => rngM_k _ _ _ _ (by omega))
            · have e88 := ob_df q88
              refine r_aload_n dX8_copy_91 rfl ?_
              refine i_const dX8_copy_92 ?_
              refine i_cvI (c_find σ 2) lmX8_231 dX8_copy_93 (Nat.le_of_ble_eq_true rfl) rfl ⟨_, _, rfl⟩ (by decide) (by decide) rfl rfl (Nat.le_of_ble_eq_true rfl) (fun z1 σ1 hf => ?_)
              refine r_iret rfl dX8_copy_96 ?_
              obtain ⟨rfl, rfl⟩ := hf
              have e1 : s_copy M 2 i 0 j n = (-10 - 2, sup M 0 21 2) := by unfold s_copy; rw [if_pos ⟨by decide, by decide⟩, if_neg (show ¬ (M 10 (2 : Int).toNat = 0 ∨ M 10 (0 : Int).toNat = 0) from (show ¬ (M 10 2 = 0 ∨ M 10 0 = 0) by omega)), if_neg (show ¬ (M 11 (2 : Int).toNat ≠ M 11 (0 : Int).toNat) from (show ¬ (M 11 2 ≠ M 11 0) by omega)), if_neg (show ¬ (0 ≤ i ∧ 0 ≤ j ∧ 0 ≤ n ∧ i + n ≤ M 12 (2 : Int).toNat ∧ j + n ≤ M 12 (0 : Int).toNat) from (show ¬ (0 ≤ i ∧ 0 ≤ j ∧ 0 ≤ n ∧ i + n ≤ M 12 2 ∧ j + n ≤ M 12 0) by omega))]; rfl
              exact ⟨_, rfl, by rw [e1], by rw [e1]; exact ic_find c _⟩
        · skip
          refine r_aload_n dX8_copy_62 rfl ?_
          refine i_const dX8_copy_63 ?_
          refine i_cvI (c_find σ 4) lmX8_231 dX8_copy_64 (Nat.le_of_ble_eq_true rfl) rfl ⟨_, _, rfl⟩ (by decide) (by decide) rfl rfl (Nat.le_of_ble_eq_true rfl) (fun z1 σ1 hf => ?_)
          refine r_iret rfl dX8_copy_67 ?_
          obtain ⟨rfl, rfl⟩ := hf
          have e1 : s_copy M 2 i 0 j n = (-10 - 4, sup M 0 21 4) := by unfold s_copy; rw [if_pos ⟨by decide, by decide⟩, if_neg (show ¬ (M 10 (2 : Int).toNat = 0 ∨ M 10 (0 : Int).toNat = 0) from (show ¬ (M 10 2 = 0 ∨ M 10 0 = 0) by omega)), if_pos (show M 11 (2 : Int).toNat ≠ M 11 (0 : Int).toNat from (show M 11 2 ≠ M 11 0 by omega))]; rfl
          exact ⟨_, rfl, by rw [e1], by rw [e1]; exact ic_find c _⟩
      · skip
        refine r_aload_n dX8_copy_43 rfl ?_
        refine i_const dX8_copy_44 ?_
        refine i_cvI (c_find σ 1) lmX8_231 dX8_copy_45 (Nat.le_of_ble_eq_true rfl) rfl ⟨_, _, rfl⟩ (by decide) (by decide) rfl rfl (Nat.le_of_ble_eq_true rfl) (fun z1 σ1 hf => ?_)
        refine r_iret rfl dX8_copy_48 ?_
        obtain ⟨rfl, rfl⟩ := hf
        have e1 : s_copy M 2 i 0 j n = (-10 - 1, sup M 0 21 1) := by unfold s_copy; rw [if_pos ⟨by decide, by decide⟩, if_pos (show M 10 (2 : Int).toNat = 0 ∨ M 10 (0 : Int).toNat = 0 from (show M 10 2 = 0 ∨ M 10 0 = 0 by omega))]; rfl
        exact ⟨_, rfl, by rw [e1], by rw [e1]; exact ic_find c _⟩
  · skip
    obtain ⟨ka1, ka2, ka3, ka4⟩ := gh1.2.2.1
    obtain ⟨wa1, wa2, wa3, wa4⟩ := wf_sh hw 2 (by decide)
    obtain ⟨kb1, kb2, kb3, kb4⟩ := gh1.2.1
    obtain ⟨wb1, wb2, wb3, wb4⟩ := wf_sh hw 1 (by decide)
    refine r_aload_n dX8_copy_0 rfl ?_
    refine r_iload_n dX8_copy_1 rfl ?_
    refine i_cvP (c_sheetOf_2 σ) lmX8_223 dX8_copy_2 (Nat.le_of_ble_eq_true rfl) rfl ⟨_, _, rfl⟩ (by decide) (by decide) rfl rfl (Nat.le_of_ble_eq_true rfl) ?_
    refine r_astore dX8_copy_5 (Nat.le_of_ble_eq_true rfl) ?_
    refine r_aload_n dX8_copy_7 rfl ?_
    refine r_iload_n dX8_copy_8 rfl ?_
    refine i_cvP (c_sheetOf_1 σ) lmX8_223 dX8_copy_9 (Nat.le_of_ble_eq_true rfl) rfl ⟨_, _, rfl⟩ (by decide) (by decide) rfl rfl (Nat.le_of_ble_eq_true rfl) ?_
    refine r_astore dX8_copy_12 (Nat.le_of_ble_eq_true rfl) ?_
    refine r_aload dX8_copy_14 rfl ?_
    refine r_ifnull dX8_copy_16 ?_
    refine r_aload dX8_copy_19 rfl ?_
    refine r_ifnonnull 27 dX8_copy_21 rfl ?_
    refine r_aload dX8_copy_27 rfl ?_
    refine r_get (k := 26) lfX8_227 dX8_copy_29 (Nat.le_of_ble_eq_true rfl) rfl rfl ?_
    refine i_if_ne 43 dX8_copy_32 rfl ⟨by omega, by omega⟩ (fun q32 => ?_) (fun q32 => ?_)
    · skip
      refine r_aload_n dX8_copy_43 rfl ?_
      refine i_const dX8_copy_44 ?_
      refine i_cvI (c_find σ 1) lmX8_231 dX8_copy_45 (Nat.le_of_ble_eq_true rfl) rfl ⟨_, _, rfl⟩ (by decide) (by decide) rfl rfl (Nat.le_of_ble_eq_true rfl) (fun z1 σ1 hf => ?_)
      refine r_iret rfl dX8_copy_48 ?_
      obtain ⟨rfl, rfl⟩ := hf
      have e1 : s_copy M 2 i 1 j n = (-10 - 1, sup M 0 21 1) := by unfold s_copy; rw [if_pos ⟨by decide, by decide⟩, if_pos (show M 10 (2 : Int).toNat = 0 ∨ M 10 (1 : Int).toNat = 0 from (show M 10 2 = 0 ∨ M 10 1 = 0 by omega))]; rfl
      exact ⟨_, rfl, by rw [e1], by rw [e1]; exact ic_find c _⟩
    · skip
      refine r_aload dX8_copy_35 rfl ?_
      refine r_get (k := 24) lfX8_227 dX8_copy_37 (Nat.le_of_ble_eq_true rfl) rfl rfl ?_
      refine i_if_eq 49 dX8_copy_40 rfl ⟨by omega, by omega⟩ (fun q40 => ?_) (fun q40 => ?_)
      · skip
        refine r_aload dX8_copy_49 rfl ?_
        refine r_get (k := 26) lfX8_266 dX8_copy_51 (Nat.le_of_ble_eq_true rfl) rfl rfl ?_
        refine r_aload dX8_copy_54 rfl ?_
        refine r_get (k := 24) lfX8_266 dX8_copy_56 (Nat.le_of_ble_eq_true rfl) rfl rfl ?_
        refine i_icmp_eq 68 dX8_copy_59 rfl ⟨by omega, by omega⟩ ⟨by omega, by omega⟩ (fun q59 => ?_) (fun q59 => ?_)
        · skip
          refine r_aload dX8_copy_68 rfl ?_
          refine r_iload_n dX8_copy_70 rfl ?_
          refine r_iload dX8_copy_71 rfl ?_
          refine i_cvP (c_holds_26 σ (by omega) (by omega) (by omega) i n hi hn) lmX8_269 dX8_copy_73 (Nat.le_of_ble_eq_true rfl) rfl ⟨_, _, rfl⟩ (by decide) (by decide) rfl rfl (Nat.le_of_ble_eq_true rfl) ?_
          have ob1 := ob_bd (decide (0 ≤ i ∧ 0 ≤ n ∧ i + n ≤ σ 26 3))
          refine i_if_eq 91 dX8_copy_76 rfl ⟨by omega, by omega⟩ (fun q76 => ?_) (fun q76 => ?_)
          · have e76 := ob_df q76
            refine r_aload_n dX8_copy_91 rfl ?_
            refine i_const dX8_copy_92 ?_
            refine i_cvI (c_find σ 2) lmX8_231 dX8_copy_93 (Nat.le_of_ble_eq_true rfl) rfl ⟨_, _, rfl⟩ (by decide) (by decide) rfl rfl (Nat.le_of_ble_eq_true rfl) (fun z1 σ1 hf => ?_)
            refine r_iret rfl dX8_copy_96 ?_
            obtain ⟨rfl, rfl⟩ := hf
            have e1 : s_copy M 2 i 1 j n = (-10 - 2, sup M 0 21 2) := by unfold s_copy; rw [if_pos ⟨by decide, by decide⟩, if_neg (show ¬ (M 10 (2 : Int).toNat = 0 ∨ M 10 (1 : Int).toNat = 0) from (show ¬ (M 10 2 = 0 ∨ M 10 1 = 0) by omega)), if_neg (show ¬ (M 11 (2 : Int).toNat ≠ M 11 (1 : Int).toNat) from (show ¬ (M 11 2 ≠ M 11 1) by omega)), if_neg (show ¬ (0 ≤ i ∧ 0 ≤ j ∧ 0 ≤ n ∧ i + n ≤ M 12 (2 : Int).toNat ∧ j + n ≤ M 12 (1 : Int).toNat) from (show ¬ (0 ≤ i ∧ 0 ≤ j ∧ 0 ≤ n ∧ i + n ≤ M 12 2 ∧ j + n ≤ M 12 1) by omega))]; rfl
            exact ⟨_, rfl, by rw [e1], by rw [e1]; exact ic_find c _⟩
          · have e76 := ob_dt q76
            refine r_aload dX8_copy_79 rfl ?_
            refine r_iload dX8_copy_81 rfl ?_
            refine r_iload dX8_copy_83 rfl ?_
            refine i_cvP (c_holds_24 σ (by omega) (by omega) (by omega) j n hj hn) lmX8_269 dX8_copy_85 (Nat.le_of_ble_eq_true rfl) rfl ⟨_, _, rfl⟩ (by decide) (by decide) rfl rfl (Nat.le_of_ble_eq_true rfl) ?_
            have ob2 := ob_bd (decide (0 ≤ j ∧ 0 ≤ n ∧ j + n ≤ σ 24 3))
            refine i_if_ne 97 dX8_copy_88 rfl ⟨by omega, by omega⟩ (fun q88 => ?_) (fun q88 => ?_)
            · have e88 := ob_dt q88
              refine r_aload dX8_copy_97 rfl ?_
              refine r_aload dX8_copy_99 rfl ?_
              refine r_iload_n dX8_copy_101 rfl ?_
              refine r_iload dX8_copy_102 rfl ?_
              refine r_iload dX8_copy_104 rfl ?_
              refine i_cvV (c_take_24_26 σ (by omega) i j n (by omega) (by omega) (by omega) (by omega) (by omega)) lmX8_272 dX8_copy_106 (Nat.le_of_ble_eq_true rfl) rfl ⟨_, _, rfl⟩ (by decide) (by decide) rfl rfl (Nat.le_of_ble_eq_true rfl) (fun σ1 hr => ?_)
              refine i_const dX8_copy_109 ?_
              refine r_iret rfl dX8_copy_110 ?_
              obtain ⟨r1, r2⟩ := hr
              have hf : M 11 2 = M 11 1 := by omega
              have e1 : s_copy M 2 i 1 j n = (1, (rngM M (48 * 1 + j.toNat) n.toNat (fun k => M 13 (48 * 2 + i.toNat + k)))) := by unfold s_copy; rw [if_pos ⟨by decide, by decide⟩, if_neg (show ¬ (M 10 (2 : Int).toNat = 0 ∨ M 10 (1 : Int).toNat = 0) from (show ¬ (M 10 2 = 0 ∨ M 10 1 = 0) by omega)), if_neg (show ¬ (M 11 (2 : Int).toNat ≠ M 11 (1 : Int).toNat) from (show ¬ (M 11 2 ≠ M 11 1) by omega)), if_pos (show 0 ≤ i ∧ 0 ≤ j ∧ 0 ≤ n ∧ i + n ≤ M 12 (2 : Int).toNat ∧ j + n ≤ M 12 (1 : Int).toNat from (show 0 ≤ i ∧ 0 ≤ j ∧ 0 ≤ n ∧ i + n ≤ M 12 2 ∧ j + n ≤ M 12 1 by omega))]; rfl
              refine ⟨_, rfl, by rw [e1], ?_⟩
              rw [e1]
              dsimp only
              have F : ∀ k x, k ≠ 24 → k ≠ 25 → σ1 k x = σ k x := fun k x _ h => r2 k x h
              have E10 : ∀ v, v ≠ 1 → (rngM M (48 * 1 + j.toNat) n.toNat (fun k => M 13 (48 * 2 + i.toNat + k))) 10 v = M 10 v := fun _ _ => rfl
              have E11 : ∀ v, v ≠ 1 → (rngM M (48 * 1 + j.toNat) n.toNat (fun k => M 13 (48 * 2 + i.toNat + k))) 11 v = M 11 v := fun _ _ => rfl
              have E12 : ∀ v, v ≠ 1 → (rngM M (48 * 1 + j.toNat) n.toNat (fun k => M 13 (48 * 2 + i.toNat + k))) 12 v = M 12 v := fun _ _ => rfl
              have E13 : ∀ v x, v ≠ 1 → x < 48 → (rngM M (48 * 1 + j.toNat) n.toNat (fun k => M 13 (48 * 2 + i.toNat + k))) 13 (48 * v + x) = M 13 (48 * v + x) := fun v x hv hx => rngM_out _ _ _ _ (by omega)
              exact ic_sheet c ⟨gs1_o gh1.1 (fun i => F 22 i (by decide) (by decide)) (fun i => F 23 i (by decide) (by decide)) (E10 0 (by decide)) (E11 0 (by decide)) (E12 0 (by decide)) (fun i hi => E13 0 i (by decide) hi), ⟨(r2 _ _ (by decide)).trans kb1, (r2 _ _ (by decide)).trans kb2, (r2 _ _ (by decide)).trans kb3, fun x hx => by
                  have q := r1 x (by omega) (by omega)
                  rw [show ((x : Nat) : Int).toNat = x from rfl] at q
                  rw [q]
                  by_cases hz : j ≤ x ∧ (x : Int) < j + n
                  · rw [if_pos hz, rngM_in _ _ _ _ (by omega), ka4 (i + (x - j)).toNat (by omega), kb2, ← hf, (wa4 (i + (x - j)).toNat (by omega)).1, show 48 * 2 + i.toNat + (48 * 1 + x - (48 * 1 + j.toNat)) = 48 * 2 + (i + (x - j)).toNat by omega]
                  · rw [if_neg hz, rngM_out _ _ _ _ (by omega)]; exact kb4 x hx⟩, gs1_o gh1.2.2.1 (fun i => F 26 i (by decide) (by decide)) (fun i => F 27 i (by decide) (by decide)) (E10 2 (by decide)) (E11 2 (by decide)) (E12 2 (by decide)) (fun i hi => E13 2 i (by decide) hi), gs1_o gh1.2.2.2 (fun i => F 28 i (by decide) (by decide)) (fun i => F 29 i (by decide) (by decide)) (E10 3 (by decide)) (E11 3 (by decide)) (E12 3 (by decide)) (fun i hi => E13 3 i (by decide) hi)⟩ (fun k x h => r2 k x (by omega)) (fun k h => rngM_k _ _ _ _ (by omega))
            · have e88 := ob_df q88
              refine r_aload_n dX8_copy_91 rfl ?_
              refine i_const dX8_copy_92 ?_
              refine i_cvI (c_find σ 2) lmX8_231 dX8_copy_93 (Nat.le_of_ble_eq_true rfl) rfl ⟨_, _, rfl⟩ (by decide) (by decide) rfl rfl (Nat.le_of_ble_eq_true rfl) (fun z1 σ1 hf => ?_)
              refine r_iret rfl dX8_copy_96 ?_
              obtain ⟨rfl, rfl⟩ := hf
              have e1 : s_copy M 2 i 1 j n = (-10 - 2, sup M 0 21 2) := by unfold s_copy; rw [if_pos ⟨by decide, by decide⟩, if_neg (show ¬ (M 10 (2 : Int).toNat = 0 ∨ M 10 (1 : Int).toNat = 0) from (show ¬ (M 10 2 = 0 ∨ M 10 1 = 0) by omega)), if_neg (show ¬ (M 11 (2 : Int).toNat ≠ M 11 (1 : Int).toNat) from (show ¬ (M 11 2 ≠ M 11 1) by omega)), if_neg (show ¬ (0 ≤ i ∧ 0 ≤ j ∧ 0 ≤ n ∧ i + n ≤ M 12 (2 : Int).toNat ∧ j + n ≤ M 12 (1 : Int).toNat) from (show ¬ (0 ≤ i ∧ 0 ≤ j ∧ 0 ≤ n ∧ i + n ≤ M 12 2 ∧ j + n ≤ M 12 1) by omega))]; rfl
              exact ⟨_, rfl, by rw [e1], by rw [e1]; exact ic_find c _⟩
        · skip
          refine r_aload_n dX8_copy_62 rfl ?_
          refine i_const dX8_copy_63 ?_
          refine i_cvI (c_find σ 4) lmX8_231 dX8_copy_64 (Nat.le_of_ble_eq_true rfl) rfl ⟨_, _, rfl⟩ (by decide) (by decide) rfl rfl (Nat.le_of_ble_eq_true rfl) (fun z1 σ1 hf => ?_)
          refine r_iret rfl dX8_copy_67 ?_
          obtain ⟨rfl, rfl⟩ := hf
          have e1 : s_copy M 2 i 1 j n = (-10 - 4, sup M 0 21 4) := by unfold s_copy; rw [if_pos ⟨by decide, by decide⟩, if_neg (show ¬ (M 10 (2 : Int).toNat = 0 ∨ M 10 (1 : Int).toNat = 0) from (show ¬ (M 10 2 = 0 ∨ M 10 1 = 0) by omega)), if_pos (show M 11 (2 : Int).toNat ≠ M 11 (1 : Int).toNat from (show M 11 2 ≠ M 11 1 by omega))]; rfl
          exact ⟨_, rfl, by rw [e1], by rw [e1]; exact ic_find c _⟩
      · skip
        refine r_aload_n dX8_copy_43 rfl ?_
        refine i_const dX8_copy_44 ?_
        refine i_cvI (c_find σ 1) lmX8_231 dX8_copy_45 (Nat.le_of_ble_eq_true rfl) rfl ⟨_, _, rfl⟩ (by decide) (by decide) rfl rfl (Nat.le_of_ble_eq_true rfl) (fun z1 σ1 hf => ?_)
        refine r_iret rfl dX8_copy_48 ?_
        obtain ⟨rfl, rfl⟩ := hf
        have e1 : s_copy M 2 i 1 j n = (-10 - 1, sup M 0 21 1) := by unfold s_copy; rw [if_pos ⟨by decide, by decide⟩, if_pos (show M 10 (2 : Int).toNat = 0 ∨ M 10 (1 : Int).toNat = 0 from (show M 10 2 = 0 ∨ M 10 1 = 0 by omega))]; rfl
        exact ⟨_, rfl, by rw [e1], by rw [e1]; exact ic_find c _⟩
  · skip
    obtain ⟨ka1, ka2, ka3, ka4⟩ := gh1.2.2.1
    obtain ⟨wa1, wa2, wa3, wa4⟩ := wf_sh hw 2 (by decide)
    obtain ⟨kb1, kb2, kb3, kb4⟩ := gh1.2.2.1
    obtain ⟨wb1, wb2, wb3, wb4⟩ := wf_sh hw 2 (by decide)
    refine r_aload_n dX8_copy_0 rfl ?_
    refine r_iload_n dX8_copy_1 rfl ?_
    refine i_cvP (c_sheetOf_2 σ) lmX8_223 dX8_copy_2 (Nat.le_of_ble_eq_true rfl) rfl ⟨_, _, rfl⟩ (by decide) (by decide) rfl rfl (Nat.le_of_ble_eq_true rfl) ?_
    refine r_astore dX8_copy_5 (Nat.le_of_ble_eq_true rfl) ?_
    refine r_aload_n dX8_copy_7 rfl ?_
    refine r_iload_n dX8_copy_8 rfl ?_
    refine i_cvP (c_sheetOf_2 σ) lmX8_223 dX8_copy_9 (Nat.le_of_ble_eq_true rfl) rfl ⟨_, _, rfl⟩ (by decide) (by decide) rfl rfl (Nat.le_of_ble_eq_true rfl) ?_
    refine r_astore dX8_copy_12 (Nat.le_of_ble_eq_true rfl) ?_
    refine r_aload dX8_copy_14 rfl ?_
    refine r_ifnull dX8_copy_16 ?_
    refine r_aload dX8_copy_19 rfl ?_
    refine r_ifnonnull 27 dX8_copy_21 rfl ?_
    refine r_aload dX8_copy_27 rfl ?_
    refine r_get (k := 26) lfX8_227 dX8_copy_29 (Nat.le_of_ble_eq_true rfl) rfl rfl ?_
    refine i_if_ne 43 dX8_copy_32 rfl ⟨by omega, by omega⟩ (fun q32 => ?_) (fun q32 => ?_)
    · skip
      refine r_aload_n dX8_copy_43 rfl ?_
      refine i_const dX8_copy_44 ?_
      refine i_cvI (c_find σ 1) lmX8_231 dX8_copy_45 (Nat.le_of_ble_eq_true rfl) rfl ⟨_, _, rfl⟩ (by decide) (by decide) rfl rfl (Nat.le_of_ble_eq_true rfl) (fun z1 σ1 hf => ?_)
      refine r_iret rfl dX8_copy_48 ?_
      obtain ⟨rfl, rfl⟩ := hf
      have e1 : s_copy M 2 i 2 j n = (-10 - 1, sup M 0 21 1) := by unfold s_copy; rw [if_pos ⟨by decide, by decide⟩, if_pos (show M 10 (2 : Int).toNat = 0 ∨ M 10 (2 : Int).toNat = 0 from (show M 10 2 = 0 ∨ M 10 2 = 0 by omega))]; rfl
      exact ⟨_, rfl, by rw [e1], by rw [e1]; exact ic_find c _⟩
    · skip
      refine r_aload dX8_copy_35 rfl ?_
      refine r_get (k := 26) lfX8_227 dX8_copy_37 (Nat.le_of_ble_eq_true rfl) rfl rfl ?_
      refine i_if_eq 49 dX8_copy_40 rfl ⟨by omega, by omega⟩ (fun q40 => ?_) (fun q40 => ?_)
      · skip
        refine r_aload dX8_copy_49 rfl ?_
        refine r_get (k := 26) lfX8_266 dX8_copy_51 (Nat.le_of_ble_eq_true rfl) rfl rfl ?_
        refine r_aload dX8_copy_54 rfl ?_
        refine r_get (k := 26) lfX8_266 dX8_copy_56 (Nat.le_of_ble_eq_true rfl) rfl rfl ?_
        refine i_icmp_eq 68 dX8_copy_59 rfl ⟨by omega, by omega⟩ ⟨by omega, by omega⟩ (fun q59 => ?_) (fun q59 => ?_)
        · skip
          refine r_aload dX8_copy_68 rfl ?_
          refine r_iload_n dX8_copy_70 rfl ?_
          refine r_iload dX8_copy_71 rfl ?_
          refine i_cvP (c_holds_26 σ (by omega) (by omega) (by omega) i n hi hn) lmX8_269 dX8_copy_73 (Nat.le_of_ble_eq_true rfl) rfl ⟨_, _, rfl⟩ (by decide) (by decide) rfl rfl (Nat.le_of_ble_eq_true rfl) ?_
          have ob1 := ob_bd (decide (0 ≤ i ∧ 0 ≤ n ∧ i + n ≤ σ 26 3))
          refine i_if_eq 91 dX8_copy_76 rfl ⟨by omega, by omega⟩ (fun q76 => ?_) (fun q76 => ?_)
          · have e76 := ob_df q76
            refine r_aload_n dX8_copy_91 rfl ?_
            refine i_const dX8_copy_92 ?_
            refine i_cvI (c_find σ 2) lmX8_231 dX8_copy_93 (Nat.le_of_ble_eq_true rfl) rfl ⟨_, _, rfl⟩ (by decide) (by decide) rfl rfl (Nat.le_of_ble_eq_true rfl) (fun z1 σ1 hf => ?_)
            refine r_iret rfl dX8_copy_96 ?_
            obtain ⟨rfl, rfl⟩ := hf
            have e1 : s_copy M 2 i 2 j n = (-10 - 2, sup M 0 21 2) := by unfold s_copy; rw [if_pos ⟨by decide, by decide⟩, if_neg (show ¬ (M 10 (2 : Int).toNat = 0 ∨ M 10 (2 : Int).toNat = 0) from (show ¬ (M 10 2 = 0 ∨ M 10 2 = 0) by omega)), if_neg (show ¬ (M 11 (2 : Int).toNat ≠ M 11 (2 : Int).toNat) from (show ¬ (M 11 2 ≠ M 11 2) by omega)), if_neg (show ¬ (0 ≤ i ∧ 0 ≤ j ∧ 0 ≤ n ∧ i + n ≤ M 12 (2 : Int).toNat ∧ j + n ≤ M 12 (2 : Int).toNat) from (show ¬ (0 ≤ i ∧ 0 ≤ j ∧ 0 ≤ n ∧ i + n ≤ M 12 2 ∧ j + n ≤ M 12 2) by omega))]; rfl
            exact ⟨_, rfl, by rw [e1], by rw [e1]; exact ic_find c _⟩
          · have e76 := ob_dt q76
            refine r_aload dX8_copy_79 rfl ?_
            refine r_iload dX8_copy_81 rfl ?_
            refine r_iload dX8_copy_83 rfl ?_
            refine i_cvP (c_holds_26 σ (by omega) (by omega) (by omega) j n hj hn) lmX8_269 dX8_copy_85 (Nat.le_of_ble_eq_true rfl) rfl ⟨_, _, rfl⟩ (by decide) (by decide) rfl rfl (Nat.le_of_ble_eq_true rfl) ?_
            have ob2 := ob_bd (decide (0 ≤ j ∧ 0 ≤ n ∧ j + n ≤ σ 26 3))
            refine i_if_ne 97 dX8_copy_88 rfl ⟨by omega, by omega⟩ (fun q88 => ?_) (fun q88 => ?_)
            · have e88 := ob_dt q88
              refine r_aload dX8_copy_97 rfl ?_
              refine r_aload dX8_copy_99 rfl ?_
              refine r_iload_n dX8_copy_101 rfl ?_
              refine r_iload dX8_copy_102 rfl ?_
              refine r_iload dX8_copy_104 rfl ?_
              refine i_cvV (c_take_26_26 σ (by omega) i j n (by omega) (by omega) (by omega) (by omega) (by omega)) lmX8_272 dX8_copy_106 (Nat.le_of_ble_eq_true rfl) rfl ⟨_, _, rfl⟩ (by decide) (by decide) rfl rfl (Nat.le_of_ble_eq_true rfl) (fun σ1 hr => ?_)
              refine i_const dX8_copy_109 ?_
              refine r_iret rfl dX8_copy_110 ?_
              obtain ⟨r1, r2⟩ := hr
              have hf : M 11 2 = M 11 2 := by omega
              have e1 : s_copy M 2 i 2 j n = (1, (rngM M (48 * 2 + j.toNat) n.toNat (fun k => M 13 (48 * 2 + i.toNat + k)))) := by unfold s_copy; rw [if_pos ⟨by decide, by decide⟩, if_neg (show ¬ (M 10 (2 : Int).toNat = 0 ∨ M 10 (2 : Int).toNat = 0) from (show ¬ (M 10 2 = 0 ∨ M 10 2 = 0) by omega)), if_neg (show ¬ (M 11 (2 : Int).toNat ≠ M 11 (2 : Int).toNat) from (show ¬ (M 11 2 ≠ M 11 2) by omega)), if_pos (show 0 ≤ i ∧ 0 ≤ j ∧ 0 ≤ n ∧ i + n ≤ M 12 (2 : Int).toNat ∧ j + n ≤ M 12 (2 : Int).toNat from (show 0 ≤ i ∧ 0 ≤ j ∧ 0 ≤ n ∧ i + n ≤ M 12 2 ∧ j + n ≤ M 12 2 by omega))]; rfl
              refine ⟨_, rfl, by rw [e1], ?_⟩
              rw [e1]
              dsimp only
              have F : ∀ k x, k ≠ 26 → k ≠ 27 → σ1 k x = σ k x := fun k x _ h => r2 k x h
              have E10 : ∀ v, v ≠ 2 → (rngM M (48 * 2 + j.toNat) n.toNat (fun k => M 13 (48 * 2 + i.toNat + k))) 10 v = M 10 v := fun _ _ => rfl
              have E11 : ∀ v, v ≠ 2 → (rngM M (48 * 2 + j.toNat) n.toNat (fun k => M 13 (48 * 2 + i.toNat + k))) 11 v = M 11 v := fun _ _ => rfl
              have E12 : ∀ v, v ≠ 2 → (rngM M (48 * 2 + j.toNat) n.toNat (fun k => M 13 (48 * 2 + i.toNat + k))) 12 v = M 12 v := fun _ _ => rfl
              have E13 : ∀ v x, v ≠ 2 → x < 48 → (rngM M (48 * 2 + j.toNat) n.toNat (fun k => M 13 (48 * 2 + i.toNat + k))) 13 (48 * v + x) = M 13 (48 * v + x) := fun v x hv hx => rngM_out _ _ _ _ (by omega)
              exact ic_sheet c ⟨gs1_o gh1.1 (fun i => F 22 i (by decide) (by decide)) (fun i => F 23 i (by decide) (by decide)) (E10 0 (by decide)) (E11 0 (by decide)) (E12 0 (by decide)) (fun i hi => E13 0 i (by decide) hi), gs1_o gh1.2.1 (fun i => F 24 i (by decide) (by decide)) (fun i => F 25 i (by decide) (by decide)) (E10 1 (by decide)) (E11 1 (by decide)) (E12 1 (by decide)) (fun i hi => E13 1 i (by decide) hi), ⟨(r2 _ _ (by decide)).trans kb1, (r2 _ _ (by decide)).trans kb2, (r2 _ _ (by decide)).trans kb3, fun x hx => by
                  have q := r1 x (by omega) (by omega)
                  rw [show ((x : Nat) : Int).toNat = x from rfl] at q
                  rw [q]
                  by_cases hz : j ≤ x ∧ (x : Int) < j + n
                  · rw [if_pos hz, rngM_in _ _ _ _ (by omega), ka4 (i + (x - j)).toNat (by omega), kb2, ← hf, (wa4 (i + (x - j)).toNat (by omega)).1, show 48 * 2 + i.toNat + (48 * 2 + x - (48 * 2 + j.toNat)) = 48 * 2 + (i + (x - j)).toNat by omega]
                  · rw [if_neg hz, rngM_out _ _ _ _ (by omega)]; exact kb4 x hx⟩, gs1_o gh1.2.2.2 (fun i => F 28 i (by decide) (by decide)) (fun i => F 29 i (by decide) (by decide)) (E10 3 (by decide)) (E11 3 (by decide)) (E12 3 (by decide)) (fun i hi => E13 3 i (by decide) hi)⟩ (fun k x h => r2 k x (by omega)) (fun k h => rngM_k _ _ _ _ (by omega))
            · have e88 := ob_df q88
              refine r_aload_n dX8_copy_91 rfl ?_
              refine i_const dX8_copy_92 ?_
              refine i_cvI (c_find σ 2) lmX8_231 dX8_copy_93 (Nat.le_of_ble_eq_true rfl) rfl ⟨_, _, rfl⟩ (by decide) (by decide) rfl rfl (Nat.le_of_ble_eq_true rfl) (fun z1 σ1 hf => ?_)
              refine r_iret rfl dX8_copy_96 ?_
              obtain ⟨rfl, rfl⟩ := hf
              have e1 : s_copy M 2 i 2 j n = (-10 - 2, sup M 0 21 2) := by unfold s_copy; rw [if_pos ⟨by decide, by decide⟩, if_neg (show ¬ (M 10 (2 : Int).toNat = 0 ∨ M 10 (2 : Int).toNat = 0) from (show ¬ (M 10 2 = 0 ∨ M 10 2 = 0) by omega)), if_neg (show ¬ (M 11 (2 : Int).toNat ≠ M 11 (2 : Int).toNat) from (show ¬ (M 11 2 ≠ M 11 2) by omega)), if_neg (show ¬ (0 ≤ i ∧ 0 ≤ j ∧ 0 ≤ n ∧ i + n ≤ M 12 (2 : Int).toNat ∧ j + n ≤ M 12 (2 : Int).toNat) from (show ¬ (0 ≤ i ∧ 0 ≤ j ∧ 0 ≤ n ∧ i + n ≤ M 12 2 ∧ j + n ≤ M 12 2) by omega))]; rfl
              exact ⟨_, rfl, by rw [e1], by rw [e1]; exact ic_find c _⟩
        · skip
          refine r_aload_n dX8_copy_62 rfl ?_
          refine i_const dX8_copy_63 ?_
          refine i_cvI (c_find σ 4) lmX8_231 dX8_copy_64 (Nat.le_of_ble_eq_true rfl) rfl ⟨_, _, rfl⟩ (by decide) (by decide) rfl rfl (Nat.le_of_ble_eq_true rfl) (fun z1 σ1 hf => ?_)
          refine r_iret rfl dX8_copy_67 ?_
          obtain ⟨rfl, rfl⟩ := hf
          have e1 : s_copy M 2 i 2 j n = (-10 - 4, sup M 0 21 4) := by unfold s_copy; rw [if_pos ⟨by decide, by decide⟩, if_neg (show ¬ (M 10 (2 : Int).toNat = 0 ∨ M 10 (2 : Int).toNat = 0) from (show ¬ (M 10 2 = 0 ∨ M 10 2 = 0) by omega)), if_pos (show M 11 (2 : Int).toNat ≠ M 11 (2 : Int).toNat from (show M 11 2 ≠ M 11 2 by omega))]; rfl
          exact ⟨_, rfl, by rw [e1], by rw [e1]; exact ic_find c _⟩
      · skip
        refine r_aload_n dX8_copy_43 rfl ?_
        refine i_const dX8_copy_44 ?_
        refine i_cvI (c_find σ 1) lmX8_231 dX8_copy_45 (Nat.le_of_ble_eq_true rfl) rfl ⟨_, _, rfl⟩ (by decide) (by decide) rfl rfl (Nat.le_of_ble_eq_true rfl) (fun z1 σ1 hf => ?_)
        refine r_iret rfl dX8_copy_48 ?_
        obtain ⟨rfl, rfl⟩ := hf
        have e1 : s_copy M 2 i 2 j n = (-10 - 1, sup M 0 21 1) := by unfold s_copy; rw [if_pos ⟨by decide, by decide⟩, if_pos (show M 10 (2 : Int).toNat = 0 ∨ M 10 (2 : Int).toNat = 0 from (show M 10 2 = 0 ∨ M 10 2 = 0 by omega))]; rfl
        exact ⟨_, rfl, by rw [e1], by rw [e1]; exact ic_find c _⟩
  · skip
    obtain ⟨ka1, ka2, ka3, ka4⟩ := gh1.2.2.1
    obtain ⟨wa1, wa2, wa3, wa4⟩ := wf_sh hw 2 (by decide)
    obtain ⟨kb1, kb2, kb3, kb4⟩ := gh1.2.2.2
    obtain ⟨wb1, wb2, wb3, wb4⟩ := wf_sh hw 3 (by decide)
    refine r_aload_n dX8_copy_0 rfl ?_
    refine r_iload_n dX8_copy_1 rfl ?_
    refine i_cvP (c_sheetOf_2 σ) lmX8_223 dX8_copy_2 (Nat.le_of_ble_eq_true rfl) rfl ⟨_, _, rfl⟩ (by decide) (by decide) rfl rfl (Nat.le_of_ble_eq_true rfl) ?_
    refine r_astore dX8_copy_5 (Nat.le_of_ble_eq_true rfl) ?_
    refine r_aload_n dX8_copy_7 rfl ?_
    refine r_iload_n dX8_copy_8 rfl ?_
    refine i_cvP (c_sheetOf_3 σ) lmX8_223 dX8_copy_9 (Nat.le_of_ble_eq_true rfl) rfl ⟨_, _, rfl⟩ (by decide) (by decide) rfl rfl (Nat.le_of_ble_eq_true rfl) ?_
    refine r_astore dX8_copy_12 (Nat.le_of_ble_eq_true rfl) ?_
    refine r_aload dX8_copy_14 rfl ?_
    refine r_ifnull dX8_copy_16 ?_
    refine r_aload dX8_copy_19 rfl ?_
    refine r_ifnonnull 27 dX8_copy_21 rfl ?_
    refine r_aload dX8_copy_27 rfl ?_
    refine r_get (k := 26) lfX8_227 dX8_copy_29 (Nat.le_of_ble_eq_true rfl) rfl rfl ?_
    refine i_if_ne 43 dX8_copy_32 rfl ⟨by omega, by omega⟩ (fun q32 => ?_) (fun q32 => ?_)
    · skip
      refine r_aload_n dX8_copy_43 rfl ?_
      refine i_const dX8_copy_44 ?_
      refine i_cvI (c_find σ 1) lmX8_231 dX8_copy_45 (Nat.le_of_ble_eq_true rfl) rfl ⟨_, _, rfl⟩ (by decide) (by decide) rfl rfl (Nat.le_of_ble_eq_true rfl) (fun z1 σ1 hf => ?_)
      refine r_iret rfl dX8_copy_48 ?_
      obtain ⟨rfl, rfl⟩ := hf
      have e1 : s_copy M 2 i 3 j n = (-10 - 1, sup M 0 21 1) := by unfold s_copy; rw [if_pos ⟨by decide, by decide⟩, if_pos (show M 10 (2 : Int).toNat = 0 ∨ M 10 (3 : Int).toNat = 0 from (show M 10 2 = 0 ∨ M 10 3 = 0 by omega))]; rfl
      exact ⟨_, rfl, by rw [e1], by rw [e1]; exact ic_find c _⟩
    · skip
      refine r_aload dX8_copy_35 rfl ?_
      refine r_get (k := 28) lfX8_227 dX8_copy_37 (Nat.le_of_ble_eq_true rfl) rfl rfl ?_
      refine i_if_eq 49 dX8_copy_40 rfl ⟨by omega, by omega⟩ (fun q40 => ?_) (fun q40 => ?_)
      · skip
        refine r_aload dX8_copy_49 rfl ?_
        refine r_get (k := 26) lfX8_266 dX8_copy_51 (Nat.le_of_ble_eq_true rfl) rfl rfl ?_
        refine r_aload dX8_copy_54 rfl ?_
        refine r_get (k := 28) lfX8_266 dX8_copy_56 (Nat.le_of_ble_eq_true rfl) rfl rfl ?_
        refine i_icmp_eq 68 dX8_copy_59 rfl ⟨by omega, by omega⟩ ⟨by omega, by omega⟩ (fun q59 => ?_) (fun q59 => ?_)
        · skip
          refine r_aload dX8_copy_68 rfl ?_
          refine r_iload_n dX8_copy_70 rfl ?_
          refine r_iload dX8_copy_71 rfl ?_
          refine i_cvP (c_holds_26 σ (by omega) (by omega) (by omega) i n hi hn) lmX8_269 dX8_copy_73 (Nat.le_of_ble_eq_true rfl) rfl ⟨_, _, rfl⟩ (by decide) (by decide) rfl rfl (Nat.le_of_ble_eq_true rfl) ?_
          have ob1 := ob_bd (decide (0 ≤ i ∧ 0 ≤ n ∧ i + n ≤ σ 26 3))
          refine i_if_eq 91 dX8_copy_76 rfl ⟨by omega, by omega⟩ (fun q76 => ?_) (fun q76 => ?_)
          · have e76 := ob_df q76
            refine r_aload_n dX8_copy_91 rfl ?_
            refine i_const dX8_copy_92 ?_
            refine i_cvI (c_find σ 2) lmX8_231 dX8_copy_93 (Nat.le_of_ble_eq_true rfl) rfl ⟨_, _, rfl⟩ (by decide) (by decide) rfl rfl (Nat.le_of_ble_eq_true rfl) (fun z1 σ1 hf => ?_)
            refine r_iret rfl dX8_copy_96 ?_
            obtain ⟨rfl, rfl⟩ := hf
            have e1 : s_copy M 2 i 3 j n = (-10 - 2, sup M 0 21 2) := by unfold s_copy; rw [if_pos ⟨by decide, by decide⟩, if_neg (show ¬ (M 10 (2 : Int).toNat = 0 ∨ M 10 (3 : Int).toNat = 0) from (show ¬ (M 10 2 = 0 ∨ M 10 3 = 0) by omega)), if_neg (show ¬ (M 11 (2 : Int).toNat ≠ M 11 (3 : Int).toNat) from (show ¬ (M 11 2 ≠ M 11 3) by omega)), if_neg (show ¬ (0 ≤ i ∧ 0 ≤ j ∧ 0 ≤ n ∧ i + n ≤ M 12 (2 : Int).toNat ∧ j + n ≤ M 12 (3 : Int).toNat) from (show ¬ (0 ≤ i ∧ 0 ≤ j ∧ 0 ≤ n ∧ i + n ≤ M 12 2 ∧ j + n ≤ M 12 3) by omega))]; rfl
            exact ⟨_, rfl, by rw [e1], by rw [e1]; exact ic_find c _⟩
          · have e76 := ob_dt q76
            refine r_aload dX8_copy_79 rfl ?_
            refine r_iload dX8_copy_81 rfl ?_
            refine r_iload dX8_copy_83 rfl ?_
            refine i_cvP (c_holds_28 σ (by omega) (by omega) (by omega) j n hj hn) lmX8_269 dX8_copy_85 (Nat.le_of_ble_eq_true rfl) rfl ⟨_, _, rfl⟩ (by decide) (by decide) rfl rfl (Nat.le_of_ble_eq_true rfl) ?_
            have ob2 := ob_bd (decide (0 ≤ j ∧ 0 ≤ n ∧ j + n ≤ σ 28 3))
            refine i_if_ne 97 dX8_copy_88 rfl ⟨by omega, by omega⟩ (fun q88 => ?_) (fun q88 => ?_)
            · have e88 := ob_dt q88
              refine r_aload dX8_copy_97 rfl ?_
              refine r_aload dX8_copy_99 rfl ?_
              refine r_iload_n dX8_copy_101 rfl ?_
              refine r_iload dX8_copy_102 rfl ?_
              refine r_iload dX8_copy_104 rfl ?_
              refine i_cvV (c_take_28_26 σ (by omega) i j n (by omega) (by omega) (by omega) (by omega) (by omega)) lmX8_272 dX8_copy_106 (Nat.le_of_ble_eq_true rfl) rfl ⟨_, _, rfl⟩ (by decide) (by decide) rfl rfl (Nat.le_of_ble_eq_true rfl) (fun σ1 hr => ?_)
              refine i_const dX8_copy_109 ?_
              refine r_iret rfl dX8_copy_110 ?_
              obtain ⟨r1, r2⟩ := hr
              have hf : M 11 2 = M 11 3 := by omega
              have e1 : s_copy M 2 i 3 j n = (1, (rngM M (48 * 3 + j.toNat) n.toNat (fun k => M 13 (48 * 2 + i.toNat + k)))) := by unfold s_copy; rw [if_pos ⟨by decide, by decide⟩, if_neg (show ¬ (M 10 (2 : Int).toNat = 0 ∨ M 10 (3 : Int).toNat = 0) from (show ¬ (M 10 2 = 0 ∨ M 10 3 = 0) by omega)), if_neg (show ¬ (M 11 (2 : Int).toNat ≠ M 11 (3 : Int).toNat) from (show ¬ (M 11 2 ≠ M 11 3) by omega)), if_pos (show 0 ≤ i ∧ 0 ≤ j ∧ 0 ≤ n ∧ i + n ≤ M 12 (2 : Int).toNat ∧ j + n ≤ M 12 (3 : Int).toNat from (show 0 ≤ i ∧ 0 ≤ j ∧ 0 ≤ n ∧ i + n ≤ M 12 2 ∧ j + n ≤ M 12 3 by omega))]; rfl
              refine ⟨_, rfl, by rw [e1], ?_⟩
              rw [e1]
              dsimp only
              have F : ∀ k x, k ≠ 28 → k ≠ 29 → σ1 k x = σ k x := fun k x _ h => r2 k x h
              have E10 : ∀ v, v ≠ 3 → (rngM M (48 * 3 + j.toNat) n.toNat (fun k => M 13 (48 * 2 + i.toNat + k))) 10 v = M 10 v := fun _ _ => rfl
              have E11 : ∀ v, v ≠ 3 → (rngM M (48 * 3 + j.toNat) n.toNat (fun k => M 13 (48 * 2 + i.toNat + k))) 11 v = M 11 v := fun _ _ => rfl
              have E12 : ∀ v, v ≠ 3 → (rngM M (48 * 3 + j.toNat) n.toNat (fun k => M 13 (48 * 2 + i.toNat + k))) 12 v = M 12 v := fun _ _ => rfl
              have E13 : ∀ v x, v ≠ 3 → x < 48 → (rngM M (48 * 3 + j.toNat) n.toNat (fun k => M 13 (48 * 2 + i.toNat + k))) 13 (48 * v + x) = M 13 (48 * v + x) := fun v x hv hx => rngM_out _ _ _ _ (by omega)
              exact ic_sheet c ⟨gs1_o gh1.1 (fun i => F 22 i (by decide) (by decide)) (fun i => F 23 i (by decide) (by decide)) (E10 0 (by decide)) (E11 0 (by decide)) (E12 0 (by decide)) (fun i hi => E13 0 i (by decide) hi), gs1_o gh1.2.1 (fun i => F 24 i (by decide) (by decide)) (fun i => F 25 i (by decide) (by decide)) (E10 1 (by decide)) (E11 1 (by decide)) (E12 1 (by decide)) (fun i hi => E13 1 i (by decide) hi), gs1_o gh1.2.2.1 (fun i => F 26 i (by decide) (by decide)) (fun i => F 27 i (by decide) (by decide)) (E10 2 (by decide)) (E11 2 (by decide)) (E12 2 (by decide)) (fun i hi => E13 2 i (by decide) hi), ⟨(r2 _ _ (by decide)).trans kb1, (r2 _ _ (by decide)).trans kb2, (r2 _ _ (by decide)).trans kb3, fun x hx => by
                  have q := r1 x (by omega) (by omega)
                  rw [show ((x : Nat) : Int).toNat = x from rfl] at q
                  rw [q]
                  by_cases hz : j ≤ x ∧ (x : Int) < j + n
                  · rw [if_pos hz, rngM_in _ _ _ _ (by omega), ka4 (i + (x - j)).toNat (by omega), kb2, ← hf, (wa4 (i + (x - j)).toNat (by omega)).1, show 48 * 2 + i.toNat + (48 * 3 + x - (48 * 3 + j.toNat)) = 48 * 2 + (i + (x - j)).toNat by omega]
                  · rw [if_neg hz, rngM_out _ _ _ _ (by omega)]; exact kb4 x hx⟩⟩ (fun k x h => r2 k x (by omega)) (fun k h => rngM_k _ _ _ _ (by omega))
            · have e88 := ob_df q88
              refine r_aload_n dX8_copy_91 rfl ?_
              refine i_const dX8_copy_92 ?_
              refine i_cvI (c_find σ 2) lmX8_231 dX8_copy_93 (Nat.le_of_ble_eq_true rfl) rfl ⟨_, _, rfl⟩ (by decide) (by decide) rfl rfl (Nat.le_of_ble_eq_true rfl) (fun z1 σ1 hf => ?_)
              refine r_iret rfl dX8_copy_96 ?_
              obtain ⟨rfl, rfl⟩ := hf
              have e1 : s_copy M 2 i 3 j n = (-10 - 2, sup M 0 21 2) := by unfold s_copy; rw [if_pos ⟨by decide, by decide⟩, if_neg (show ¬ (M 10 (2 : Int).toNat = 0 ∨ M 10 (3 : Int).toNat = 0) from (show ¬ (M 10 2 = 0 ∨ M 10 3 = 0) by omega)), if_neg (show ¬ (M 11 (2 : Int).toNat ≠ M 11 (3 : Int).toNat) from (show ¬ (M 11 2 ≠ M 11 3) by omega)), if_neg (show ¬ (0 ≤ i ∧ 0 ≤ j ∧ 0 ≤ n ∧ i + n ≤ M 12 (2 : Int).toNat ∧ j + n ≤ M 12 (3 : Int).toNat) from (show ¬ (0 ≤ i ∧ 0 ≤ j ∧ 0 ≤ n ∧ i + n ≤ M 12 2 ∧ j + n ≤ M 12 3) by omega))]; rfl
              exact ⟨_, rfl, by rw [e1], by rw [e1]; exact ic_find c _⟩
        · skip
          refine r_aload_n dX8_copy_62 rfl ?_
          refine i_const dX8_copy_63 ?_
          refine i_cvI (c_find σ 4) lmX8_231 dX8_copy_64 (Nat.le_of_ble_eq_true rfl) rfl ⟨_, _, rfl⟩ (by decide) (by decide) rfl rfl (Nat.le_of_ble_eq_true rfl) (fun z1 σ1 hf => ?_)
          refine r_iret rfl dX8_copy_67 ?_
          obtain ⟨rfl, rfl⟩ := hf
          have e1 : s_copy M 2 i 3 j n = (-10 - 4, sup M 0 21 4) := by unfold s_copy; rw [if_pos ⟨by decide, by decide⟩, if_neg (show ¬ (M 10 (2 : Int).toNat = 0 ∨ M 10 (3 : Int).toNat = 0) from (show ¬ (M 10 2 = 0 ∨ M 10 3 = 0) by omega)), if_pos (show M 11 (2 : Int).toNat ≠ M 11 (3 : Int).toNat from (show M 11 2 ≠ M 11 3 by omega))]; rfl
          exact ⟨_, rfl, by rw [e1], by rw [e1]; exact ic_find c _⟩
      · skip
        refine r_aload_n dX8_copy_43 rfl ?_
        refine i_const dX8_copy_44 ?_
        refine i_cvI (c_find σ 1) lmX8_231 dX8_copy_45 (Nat.le_of_ble_eq_true rfl) rfl ⟨_, _, rfl⟩ (by decide) (by decide) rfl rfl (Nat.le_of_ble_eq_true rfl) (fun z1 σ1 hf => ?_)
        refine r_iret rfl dX8_copy_48 ?_
        obtain ⟨rfl, rfl⟩ := hf
        have e1 : s_copy M 2 i 3 j n = (-10 - 1, sup M 0 21 1) := by unfold s_copy; rw [if_pos ⟨by decide, by decide⟩, if_pos (show M 10 (2 : Int).toNat = 0 ∨ M 10 (3 : Int).toNat = 0 from (show M 10 2 = 0 ∨ M 10 3 = 0 by omega))]; rfl
        exact ⟨_, rfl, by rw [e1], by rw [e1]; exact ic_find c _⟩
  · skip
    refine r_aload_n dX8_copy_0 rfl ?_
    refine r_iload_n dX8_copy_1 rfl ?_
    refine i_cvP (c_sheetOf_2 σ) lmX8_223 dX8_copy_2 (Nat.le_of_ble_eq_true rfl) rfl ⟨_, _, rfl⟩ (by decide) (by decide) rfl rfl (Nat.le_of_ble_eq_true rfl) ?_
    refine r_astore dX8_copy_5 (Nat.le_of_ble_eq_true rfl) ?_
    refine r_aload_n dX8_copy_7 rfl ?_
    refine r_iload_n dX8_copy_8 rfl ?_
    refine i_cvP (c_sheetOf_n σ t ht n1) lmX8_223 dX8_copy_9 (Nat.le_of_ble_eq_true rfl) rfl ⟨_, _, rfl⟩ (by decide) (by decide) rfl rfl (Nat.le_of_ble_eq_true rfl) ?_
    refine r_astoreN dX8_copy_12 (Nat.le_of_ble_eq_true rfl) ?_
    refine r_aload dX8_copy_14 rfl ?_
    refine r_ifnull dX8_copy_16 ?_
    refine r_aloadN dX8_copy_19 rfl ?_
    refine r_ifnonnullN dX8_copy_21 ?_
    refine i_bipush dX8_copy_24 (by decide) ?_
    refine r_iret rfl dX8_copy_26 ?_
    exact ⟨_, rfl, by unfold s_copy; rw [if_neg (by omega)], by unfold s_copy; rw [if_neg (by omega)]; exact c⟩
  · skip
    obtain ⟨ka1, ka2, ka3, ka4⟩ := gh1.2.2.2
    obtain ⟨wa1, wa2, wa3, wa4⟩ := wf_sh hw 3 (by decide)
    obtain ⟨kb1, kb2, kb3, kb4⟩ := gh1.1
    obtain ⟨wb1, wb2, wb3, wb4⟩ := wf_sh hw 0 (by decide)
    refine r_aload_n dX8_copy_0 rfl ?_
    refine r_iload_n dX8_copy_1 rfl ?_
    refine i_cvP (c_sheetOf_3 σ) lmX8_223 dX8_copy_2 (Nat.le_of_ble_eq_true rfl) rfl ⟨_, _, rfl⟩ (by decide) (by decide) rfl rfl (Nat.le_of_ble_eq_true rfl) ?_
    refine r_astore dX8_copy_5 (Nat.le_of_ble_eq_true rfl) ?_
    refine r_aload_n dX8_copy_7 rfl ?_
    refine r_iload_n dX8_copy_8 rfl ?_
    refine i_cvP (c_sheetOf_0 σ) lmX8_223 dX8_copy_9 (Nat.le_of_ble_eq_true rfl) rfl ⟨_, _, rfl⟩ (by decide) (by decide) rfl rfl (Nat.le_of_ble_eq_true rfl) ?_
    refine r_astore dX8_copy_12 (Nat.le_of_ble_eq_true rfl) ?_
    refine r_aload dX8_copy_14 rfl ?_
    refine r_ifnull dX8_copy_16 ?_
    refine r_aload dX8_copy_19 rfl ?_
    refine r_ifnonnull 27 dX8_copy_21 rfl ?_
    refine r_aload dX8_copy_27 rfl ?_
    refine r_get (k := 28) lfX8_227 dX8_copy_29 (Nat.le_of_ble_eq_true rfl) rfl rfl ?_
    refine i_if_ne 43 dX8_copy_32 rfl ⟨by omega, by omega⟩ (fun q32 => ?_) (fun q32 => ?_)
    · skip
      refine r_aload_n dX8_copy_43 rfl ?_
      refine i_const dX8_copy_44 ?_
      refine i_cvI (c_find σ 1) lmX8_231 dX8_copy_45 (Nat.le_of_ble_eq_true rfl) rfl ⟨_, _, rfl⟩ (by decide) (by decide) rfl rfl (Nat.le_of_ble_eq_true rfl) (fun z1 σ1 hf => ?_)
      refine r_iret rfl dX8_copy_48 ?_
      obtain ⟨rfl, rfl⟩ := hf
      have e1 : s_copy M 3 i 0 j n = (-10 - 1, sup M 0 21 1) := by unfold s_copy; rw [if_pos ⟨by decide, by decide⟩, if_pos (show M 10 (3 : Int).toNat = 0 ∨ M 10 (0 : Int).toNat = 0 from (show M 10 3 = 0 ∨ M 10 0 = 0 by omega))]; rfl
      exact ⟨_, rfl, by rw [e1], by rw [e1]; exact ic_find c _⟩
    · skip
      refine r_aload dX8_copy_35 rfl ?_
      refine r_get (k := 22) lfX8_227 dX8_copy_37 (Nat.le_of_ble_eq_true rfl) rfl rfl ?_
      refine i_if_eq 49 dX8_copy_40 rfl ⟨by omega, by omega⟩ (fun q40 => ?_) (fun q40 => ?_)
      · skip
        refine r_aload dX8_copy_49 rfl ?_
        refine r_get (k := 28) lfX8_266 dX8_copy_51 (Nat.le_of_ble_eq_true rfl) rfl rfl ?_
        refine r_aload dX8_copy_54 rfl ?_
        refine r_get (k := 22) lfX8_266 dX8_copy_56 (Nat.le_of_ble_eq_true rfl) rfl rfl ?_
        refine i_icmp_eq 68 dX8_copy_59 rfl ⟨by omega, by omega⟩ ⟨by omega, by omega⟩ (fun q59 => ?_) (fun q59 => ?_)
        · skip
          refine r_aload dX8_copy_68 rfl ?_
          refine r_iload_n dX8_copy_70 rfl ?_
          refine r_iload dX8_copy_71 rfl ?_
          refine i_cvP (c_holds_28 σ (by omega) (by omega) (by omega) i n hi hn) lmX8_269 dX8_copy_73 (Nat.le_of_ble_eq_true rfl) rfl ⟨_, _, rfl⟩ (by decide) (by decide) rfl rfl (Nat.le_of_ble_eq_true rfl) ?_
          have ob1 := ob_bd (decide (0 ≤ i ∧ 0 ≤ n ∧ i + n ≤ σ 28 3))
          refine i_if_eq 91 dX8_copy_76 rfl ⟨by omega, by omega⟩ (fun q76 => ?_) (fun q76 => ?_)
          · have e76 := ob_df q76
            refine r_aload_n dX8_copy_91 rfl ?_
            refine i_const dX8_copy_92 ?_
            refine i_cvI (c_find σ 2) lmX8_231 dX8_copy_93 (Nat.le_of_ble_eq_true rfl) rfl ⟨_, _, rfl⟩ (by decide) (by decide) rfl rfl (Nat.le_of_ble_eq_true rfl) (fun z1 σ1 hf => ?_)
            refine r_iret rfl dX8_copy_96 ?_
            obtain ⟨rfl, rfl⟩ := hf
            have e1 : s_copy M 3 i 0 j n = (-10 - 2, sup M 0 21 2) := by unfold s_copy; rw [if_pos ⟨by decide, by decide⟩, if_neg (show ¬ (M 10 (3 : Int).toNat = 0 ∨ M 10 (0 : Int).toNat = 0) from (show ¬ (M 10 3 = 0 ∨ M 10 0 = 0) by omega)), if_neg (show ¬ (M 11 (3 : Int).toNat ≠ M 11 (0 : Int).toNat) from (show ¬ (M 11 3 ≠ M 11 0) by omega)), if_neg (show ¬ (0 ≤ i ∧ 0 ≤ j ∧ 0 ≤ n ∧ i + n ≤ M 12 (3 : Int).toNat ∧ j + n ≤ M 12 (0 : Int).toNat) from (show ¬ (0 ≤ i ∧ 0 ≤ j ∧ 0 ≤ n ∧ i + n ≤ M 12 3 ∧ j + n ≤ M 12 0) by omega))]; rfl
            exact ⟨_, rfl, by rw [e1], by rw [e1]; exact ic_find c _⟩
          · have e76 := ob_dt q76
            refine r_aload dX8_copy_79 rfl ?_
            refine r_iload dX8_copy_81 rfl ?_
            refine r_iload dX8_copy_83 rfl ?_
            refine i_cvP (c_holds_22 σ (by omega) (by omega) (by omega) j n hj hn) lmX8_269 dX8_copy_85 (Nat.le_of_ble_eq_true rfl) rfl ⟨_, _, rfl⟩ (by decide) (by decide) rfl rfl (Nat.le_of_ble_eq_true rfl) ?_
            have ob2 := ob_bd (decide (0 ≤ j ∧ 0 ≤ n ∧ j + n ≤ σ 22 3))
            refine i_if_ne 97 dX8_copy_88 rfl ⟨by omega, by omega⟩ (fun q88 => ?_) (fun q88 => ?_)
            · have e88 := ob_dt q88
              refine r_aload dX8_copy_97 rfl ?_
              refine r_aload dX8_copy_99 rfl ?_
              refine r_iload_n dX8_copy_101 rfl ?_
              refine r_iload dX8_copy_102 rfl ?_
              refine r_iload dX8_copy_104 rfl ?_
              refine i_cvV (c_take_22_28 σ (by omega) i j n (by omega) (by omega) (by omega) (by omega) (by omega)) lmX8_272 dX8_copy_106 (Nat.le_of_ble_eq_true rfl) rfl ⟨_, _, rfl⟩ (by decide) (by decide) rfl rfl (Nat.le_of_ble_eq_true rfl) (fun σ1 hr => ?_)
              refine i_const dX8_copy_109 ?_
              refine r_iret rfl dX8_copy_110 ?_
              obtain ⟨r1, r2⟩ := hr
              have hf : M 11 3 = M 11 0 := by omega
              have e1 : s_copy M 3 i 0 j n = (1, (rngM M (48 * 0 + j.toNat) n.toNat (fun k => M 13 (48 * 3 + i.toNat + k)))) := by unfold s_copy; rw [if_pos ⟨by decide, by decide⟩, if_neg (show ¬ (M 10 (3 : Int).toNat = 0 ∨ M 10 (0 : Int).toNat = 0) from (show ¬ (M 10 3 = 0 ∨ M 10 0 = 0) by omega)), if_neg (show ¬ (M 11 (3 : Int).toNat ≠ M 11 (0 : Int).toNat) from (show ¬ (M 11 3 ≠ M 11 0) by omega)), if_pos (show 0 ≤ i ∧ 0 ≤ j ∧ 0 ≤ n ∧ i + n ≤ M 12 (3 : Int).toNat ∧ j + n ≤ M 12 (0 : Int).toNat from (show 0 ≤ i ∧ 0 ≤ j ∧ 0 ≤ n ∧ i + n ≤ M 12 3 ∧ j + n ≤ M 12 0 by omega))]; rfl
              refine ⟨_, rfl, by rw [e1], ?_⟩
              rw [e1]
              dsimp only
              have F : ∀ k x, k ≠ 22 → k ≠ 23 → σ1 k x = σ k x := fun k x _ h => r2 k x h
              have E10 : ∀ v, v ≠ 0 → (rngM M (48 * 0 + j.toNat) n.toNat (fun k => M 13 (48 * 3 + i.toNat + k))) 10 v = M 10 v := fun _ _ => rfl
              have E11 : ∀ v, v ≠ 0 → (rngM M (48 * 0 + j.toNat) n.toNat (fun k => M 13 (48 * 3 + i.toNat + k))) 11 v = M 11 v := fun _ _ => rfl
              have E12 : ∀ v, v ≠ 0 → (rngM M (48 * 0 + j.toNat) n.toNat (fun k => M 13 (48 * 3 + i.toNat + k))) 12 v = M 12 v := fun _ _ => rfl
              have E13 : ∀ v x, v ≠ 0 → x < 48 → (rngM M (48 * 0 + j.toNat) n.toNat (fun k => M 13 (48 * 3 + i.toNat + k))) 13 (48 * v + x) = M 13 (48 * v + x) := fun v x hv hx => rngM_out _ _ _ _ (by omega)
              exact ic_sheet c ⟨⟨(r2 _ _ (by decide)).trans kb1, (r2 _ _ (by decide)).trans kb2, (r2 _ _ (by decide)).trans kb3, fun x hx => by
                  have q := r1 x (by omega) (by omega)
                  rw [show ((x : Nat) : Int).toNat = x from rfl] at q
                  rw [q]
                  by_cases hz : j ≤ x ∧ (x : Int) < j + n
                  · rw [if_pos hz, rngM_in _ _ _ _ (by omega), ka4 (i + (x - j)).toNat (by omega), kb2, ← hf, (wa4 (i + (x - j)).toNat (by omega)).1, show 48 * 3 + i.toNat + (48 * 0 + x - (48 * 0 + j.toNat)) = 48 * 3 + (i + (x - j)).toNat by omega]
                  · rw [if_neg hz, rngM_out _ _ _ _ (by omega)]; exact kb4 x hx⟩, gs1_o gh1.2.1 (fun i => F 24 i (by decide) (by decide)) (fun i => F 25 i (by decide) (by decide)) (E10 1 (by decide)) (E11 1 (by decide)) (E12 1 (by decide)) (fun i hi => E13 1 i (by decide) hi), gs1_o gh1.2.2.1 (fun i => F 26 i (by decide) (by decide)) (fun i => F 27 i (by decide) (by decide)) (E10 2 (by decide)) (E11 2 (by decide)) (E12 2 (by decide)) (fun i hi => E13 2 i (by decide) hi), gs1_o gh1.2.2.2 (fun i => F 28 i (by decide) (by decide)) (fun i => F 29 i (by decide) (by decide)) (E10 3 (by decide)) (E11 3 (by decide)) (E12 3 (by decide)) (fun i hi => E13 3 i (by decide) hi)⟩ (fun k x h => r2 k x (by omega)) (fun k h => rngM_k _ _ _ _ (by omega))
            · have e88 := ob_df q88
              refine r_aload_n dX8_copy_91 rfl ?_
              refine i_const dX8_copy_92 ?_
              refine i_cvI (c_find σ 2) lmX8_231 dX8_copy_93 (Nat.le_of_ble_eq_true rfl) rfl ⟨_, _, rfl⟩ (by decide) (by decide) rfl rfl (Nat.le_of_ble_eq_true rfl) (fun z1 σ1 hf => ?_)
              refine r_iret rfl dX8_copy_96 ?_
              obtain ⟨rfl, rfl⟩ := hf
              have e1 : s_copy M 3 i 0 j n = (-10 - 2, sup M 0 21 2) := by unfold s_copy; rw [if_pos ⟨by decide, by decide⟩, if_neg (show ¬ (M 10 (3 : Int).toNat = 0 ∨ M 10 (0 : Int).toNat = 0) from (show ¬ (M 10 3 = 0 ∨ M 10 0 = 0) by omega)), if_neg (show ¬ (M 11 (3 : Int).toNat ≠ M 11 (0 : Int).toNat) from (show ¬ (M 11 3 ≠ M 11 0) by omega)), if_neg (show ¬ (0 ≤ i ∧ 0 ≤ j ∧ 0 ≤ n ∧ i + n ≤ M 12 (3 : Int).toNat ∧ j + n ≤ M 12 (0 : Int).toNat) from (show ¬ (0 ≤ i ∧ 0 ≤ j ∧ 0 ≤ n ∧ i + n ≤ M 12 3 ∧ j + n ≤ M 12 0) by omega))]; rfl
              exact ⟨_, rfl, by rw [e1], by rw [e1]; exact ic_find c _⟩
        · skip
          refine r_aload_n dX8_copy_62 rfl ?_
          refine i_const dX8_copy_63 ?_
          refine i_cvI (c_find σ 4) lmX8_231 dX8_copy_64 (Nat.le_of_ble_eq_true rfl) rfl ⟨_, _, rfl⟩ (by decide) (by decide) rfl rfl (Nat.le_of_ble_eq_true rfl) (fun z1 σ1 hf => ?_)
          refine r_iret rfl dX8_copy_67 ?_
          obtain ⟨rfl, rfl⟩ := hf
          have e1 : s_copy M 3 i 0 j n = (-10 - 4, sup M 0 21 4) := by unfold s_copy; rw [if_pos ⟨by decide, by decide⟩, if_neg (show ¬ (M 10 (3 : Int).toNat = 0 ∨ M 10 (0 : Int).toNat = 0) from (show ¬ (M 10 3 = 0 ∨ M 10 0 = 0) by omega)), if_pos (show M 11 (3 : Int).toNat ≠ M 11 (0 : Int).toNat from (show M 11 3 ≠ M 11 0 by omega))]; rfl
          exact ⟨_, rfl, by rw [e1], by rw [e1]; exact ic_find c _⟩
      · skip
        refine r_aload_n dX8_copy_43 rfl ?_
        refine i_const dX8_copy_44 ?_
        refine i_cvI (c_find σ 1) lmX8_231 dX8_copy_45 (Nat.le_of_ble_eq_true rfl) rfl ⟨_, _, rfl⟩ (by decide) (by decide) rfl rfl (Nat.le_of_ble_eq_true rfl) (fun z1 σ1 hf => ?_)
        refine r_iret rfl dX8_copy_48 ?_
        obtain ⟨rfl, rfl⟩ := hf
        have e1 : s_copy M 3 i 0 j n = (-10 - 1, sup M 0 21 1) := by unfold s_copy; rw [if_pos ⟨by decide, by decide⟩, if_pos (show M 10 (3 : Int).toNat = 0 ∨ M 10 (0 : Int).toNat = 0 from (show M 10 3 = 0 ∨ M 10 0 = 0 by omega))]; rfl
        exact ⟨_, rfl, by rw [e1], by rw [e1]; exact ic_find c _⟩
  · skip
    obtain ⟨ka1, ka2, ka3, ka4⟩ := gh1.2.2.2
    obtain ⟨wa1, wa2, wa3, wa4⟩ := wf_sh hw 3 (by decide)
    obtain ⟨kb1, kb2, kb3, kb4⟩ := gh1.2.1
    obtain ⟨wb1, wb2, wb3, wb4⟩ := wf_sh hw 1 (by decide)
    refine r_aload_n dX8_copy_0 rfl ?_
    refine r_iload_n dX8_copy_1 rfl ?_
    refine i_cvP (c_sheetOf_3 σ) lmX8_223 dX8_copy_2 (Nat.le_of_ble_eq_true rfl) rfl ⟨_, _, rfl⟩ (by decide) (by decide) rfl rfl (Nat.le_of_ble_eq_true rfl) ?_
    refine r_astore dX8_copy_5 (Nat.le_of_ble_eq_true rfl) ?_
    refine r_aload_n dX8_copy_7 rfl ?_
    refine r_iload_n dX8_copy_8 rfl ?_
    refine i_cvP (c_sheetOf_1 σ) lmX8_223 dX8_copy_9 (Nat.le_of_ble_eq_true rfl) rfl ⟨_, _, rfl⟩ (by decide) (by decide) rfl rfl (Nat.le_of_ble_eq_true rfl) ?_
    refine r_astore dX8_copy_12 (Nat.le_of_ble_eq_true rfl) ?_
    refine r_aload dX8_copy_14 rfl ?_
    refine r_ifnull dX8_copy_16 ?_
    refine r_aload dX8_copy_19 rfl ?_
    refine r_ifnonnull 27 dX8_copy_21 rfl ?_
    refine r_aload dX8_copy_27 rfl ?_
    refine r_get (k := 28) lfX8_227 dX8_copy_29 (Nat.le_of_ble_eq_true rfl) rfl rfl ?_
    refine i_if_ne 43 dX8_copy_32 rfl ⟨by omega, by omega⟩ (fun q32 => ?_) (fun q32 => ?_)
    · skip
      refine r_aload_n dX8_copy_43 rfl ?_
      refine i_const dX8_copy_44 ?_
      refine i_cvI (c_find σ 1) lmX8_231 dX8_copy_45 (Nat.le_of_ble_eq_true rfl) rfl ⟨_, _, rfl⟩ (by decide) (by decide) rfl rfl (Nat.le_of_ble_eq_true rfl) (fun z1 σ1 hf => ?_)
      refine r_iret rfl dX8_copy_48 ?_
      obtain ⟨rfl, rfl⟩ := hf
      have e1 : s_copy M 3 i 1 j n = (-10 - 1, sup M 0 21 1) := by unfold s_copy; rw [if_pos ⟨by decide, by decide⟩, if_pos (show M 10 (3 : Int).toNat = 0 ∨ M 10 (1 : Int).toNat = 0 from (show M 10 3 = 0 ∨ M 10 1 = 0 by omega))]; rfl
      exact ⟨_, rfl, by rw [e1], by rw [e1]; exact ic_find c _⟩
    · skip
      refine r_aload dX8_copy_35 rfl ?_
      refine r_get (k := 24) lfX8_227 dX8_copy_37 (Nat.le_of_ble_eq_true rfl) rfl rfl ?_
      refine i_if_eq 49 dX8_copy_40 rfl ⟨by omega, by omega⟩ (fun q40 => ?_) (fun q40 => ?_)
      · skip
        refine r_aload dX8_copy_49 rfl ?_
        refine r_get (k := 28) lfX8_266 dX8_copy_51 (Nat.le_of_ble_eq_true rfl) rfl rfl ?_
        refine r_aload dX8_copy_54 rfl ?_
        refine r_get (k := 24) lfX8_266 dX8_copy_56 (Nat.le_of_ble_eq_true rfl) rfl rfl ?_
        refine i_icmp_eq 68 dX8_copy_59 rfl ⟨by omega, by omega⟩ ⟨by omega, by omega⟩ (fun q59 => ?_) (fun q59 => ?_)
        · skip
          refine r_aload dX8_copy_68 rfl ?_
          refine r_iload_n dX8_copy_70 rfl ?_
          refine r_iload dX8_copy_71 rfl ?_
          refine i_cvP (c_holds_28 σ (by omega) (by omega) (by omega) i n hi hn) lmX8_269 dX8_copy_73 (Nat.le_of_ble_eq_true rfl) rfl ⟨_, _, rfl⟩ (by decide) (by decide) rfl rfl (Nat.le_of_ble_eq_true rfl) ?_
          have ob1 := ob_bd (decide (0 ≤ i ∧ 0 ≤ n ∧ i + n ≤ σ 28 3))
          refine i_if_eq 91 dX8_copy_76 rfl ⟨by omega, by omega⟩ (fun q76 => ?_) (fun q76 => ?_)
          · have e76 := ob_df q76
            refine r_aload_n dX8_copy_91 rfl ?_
            refine i_const dX8_copy_92 ?_
            refine i_cvI (c_find σ 2) lmX8_231 dX8_copy_93 (Nat.le_of_ble_eq_true rfl) rfl ⟨_, _, rfl⟩ (by decide) (by decide) rfl rfl (Nat.le_of_ble_eq_true rfl) (fun z1 σ1 hf => ?_)
            refine r_iret rfl dX8_copy_96 ?_
            obtain ⟨rfl, rfl⟩ := hf
            have e1 : s_copy M 3 i 1 j n = (-10 - 2, sup M 0 21 2) := by unfold s_copy; rw [if_pos ⟨by decide, by decide⟩, if_neg (show ¬ (M 10 (3 : Int).toNat = 0 ∨ M 10 (1 : Int).toNat = 0) from (show ¬ (M 10 3 = 0 ∨ M 10 1 = 0) by omega)), if_neg (show ¬ (M 11 (3 : Int).toNat ≠ M 11 (1 : Int).toNat) from (show ¬ (M 11 3 ≠ M 11 1) by omega)), if_neg (show ¬ (0 ≤ i ∧ 0 ≤ j ∧ 0 ≤ n ∧ i + n ≤ M 12 (3 : Int).toNat ∧ j + n ≤ M 12 (1 : Int).toNat) from (show ¬ (0 ≤ i ∧ 0 ≤ j ∧ 0 ≤ n ∧ i + n ≤ M 12 3 ∧ j + n ≤ M 12 1) by omega))]; rfl
            exact ⟨_, rfl, by rw [e1], by rw [e1]; exact ic_find c _⟩
          · have e76 := ob_dt q76
            refine r_aload dX8_copy_79 rfl ?_
            refine r_iload dX8_copy_81 rfl ?_
            refine r_iload dX8_copy_83 rfl ?_
            refine i_cvP (c_holds_24 σ (by omega) (by omega) (by omega) j n hj hn) lmX8_269 dX8_copy_85 (Nat.le_of_ble_eq_true rfl) rfl ⟨_, _, rfl⟩ (by decide) (by decide) rfl rfl (Nat.le_of_ble_eq_true rfl) ?_
            have ob2 := ob_bd (decide (0 ≤ j ∧ 0 ≤ n ∧ j + n ≤ σ 24 3))
            refine i_if_ne 97 dX8_copy_88 rfl ⟨by omega, by omega⟩ (fun q88 => ?_) (fun q88 => ?_)
            · have e88 := ob_dt q88
              refine r_aload dX8_copy_97 rfl ?_
              refine r_aload dX8_copy_99 rfl ?_
              refine r_iload_n dX8_copy_101 rfl ?_
              refine r_iload dX8_copy_102 rfl ?_
              refine r_iload dX8_copy_104 rfl ?_
              refine i_cvV (c_take_24_28 σ (by omega) i j n (by omega) (by omega) (by omega) (by omega) (by omega)) lmX8_272 dX8_copy_106 (Nat.le_of_ble_eq_true rfl) rfl ⟨_, _, rfl⟩ (by decide) (by decide) rfl rfl (Nat.le_of_ble_eq_true rfl) (fun σ1 hr => ?_)
              refine i_const dX8_copy_109 ?_
              refine r_iret rfl dX8_copy_110 ?_
              obtain ⟨r1, r2⟩ := hr
              have hf : M 11 3 = M 11 1 := by omega
              have e1 : s_copy M 3 i 1 j n = (1, (rngM M (48 * 1 + j.toNat) n.toNat (fun k => M 13 (48 * 3 + i.toNat + k)))) := by unfold s_copy; rw [if_pos ⟨by decide, by decide⟩, if_neg (show ¬ (M 10 (3 : Int).toNat = 0 ∨ M 10 (1 : Int).toNat = 0) from (show ¬ (M 10 3 = 0 ∨ M 10 1 = 0) by omega)), if_neg (show ¬ (M 11 (3 : Int).toNat ≠ M 11 (1 : Int).toNat) from (show ¬ (M 11 3 ≠ M 11 1) by omega)), if_pos (show 0 ≤ i ∧ 0 ≤ j ∧ 0 ≤ n ∧ i + n ≤ M 12 (3 : Int).toNat ∧ j + n ≤ M 12 (1 : Int).toNat from (show 0 ≤ i ∧ 0 ≤ j ∧ 0 ≤ n ∧ i + n ≤ M 12 3 ∧ j + n ≤ M 12 1 by omega))]; rfl
              refine ⟨_, rfl, by rw [e1], ?_⟩
              rw [e1]
              dsimp only
              have F : ∀ k x, k ≠ 24 → k ≠ 25 → σ1 k x = σ k x := fun k x _ h => r2 k x h
              have E10 : ∀ v, v ≠ 1 → (rngM M (48 * 1 + j.toNat) n.toNat (fun k => M 13 (48 * 3 + i.toNat + k))) 10 v = M 10 v := fun _ _ => rfl
              have E11 : ∀ v, v ≠ 1 → (rngM M (48 * 1 + j.toNat) n.toNat (fun k => M 13 (48 * 3 + i.toNat + k))) 11 v = M 11 v := fun _ _ => rfl
              have E12 : ∀ v, v ≠ 1 → (rngM M (48 * 1 + j.toNat) n.toNat (fun k => M 13 (48 * 3 + i.toNat + k))) 12 v = M 12 v := fun _ _ => rfl
              have E13 : ∀ v x, v ≠ 1 → x < 48 → (rngM M (48 * 1 + j.toNat) n.toNat (fun k => M 13 (48 * 3 + i.toNat + k))) 13 (48 * v + x) = M 13 (48 * v + x) := fun v x hv hx => rngM_out _ _ _ _ (by omega)
              exact ic_sheet c ⟨gs1_o gh1.1 (fun i => F 22 i (by decide) (by decide)) (fun i => F 23 i (by decide) (by decide)) (E10 0 (by decide)) (E11 0 (by decide)) (E12 0 (by decide)) (fun i hi => E13 0 i (by decide) hi), ⟨(r2 _ _ (by decide)).trans kb1, (r2 _ _ (by decide)).trans kb2, (r2 _ _ (by decide)).trans kb3, fun x hx => by
                  have q := r1 x (by omega) (by omega)
                  rw [show ((x : Nat) : Int).toNat = x from rfl] at q
                  rw [q]
                  by_cases hz : j ≤ x ∧ (x : Int) < j + n
                  · rw [if_pos hz, rngM_in _ _ _ _ (by omega), ka4 (i + (x - j)).toNat (by omega), kb2, ← hf, (wa4 (i + (x - j)).toNat (by omega)).1, show 48 * 3 + i.toNat + (48 * 1 + x - (48 * 1 + j.toNat)) = 48 * 3 + (i + (x - j)).toNat by omega]
                  · rw [if_neg hz, rngM_out _ _ _ _ (by omega)]; exact kb4 x hx⟩, gs1_o gh1.2.2.1 (fun i => F 26 i (by decide) (by decide)) (fun i => F 27 i (by decide) (by decide)) (E10 2 (by decide)) (E11 2 (by decide)) (E12 2 (by decide)) (fun i hi => E13 2 i (by decide) hi), gs1_o gh1.2.2.2 (fun i => F 28 i (by decide) (by decide)) (fun i => F 29 i (by decide) (by decide)) (E10 3 (by decide)) (E11 3 (by decide)) (E12 3 (by decide)) (fun i hi => E13 3 i (by decide) hi)⟩ (fun k x h => r2 k x (by omega)) (fun k h => rngM_k _ _ _ _ (by omega))
            · have e88 := ob_df q88
              refine r_aload_n dX8_copy_91 rfl ?_
              refine i_const dX8_copy_92 ?_
              refine i_cvI (c_find σ 2) lmX8_231 dX8_copy_93 (Nat.le_of_ble_eq_true rfl) rfl ⟨_, _, rfl⟩ (by decide) (by decide) rfl rfl (Nat.le_of_ble_eq_true rfl) (fun z1 σ1 hf => ?_)
              refine r_iret rfl dX8_copy_96 ?_
              obtain ⟨rfl, rfl⟩ := hf
              have e1 : s_copy M 3 i 1 j n = (-10 - 2, sup M 0 21 2) := by unfold s_copy; rw [if_pos ⟨by decide, by decide⟩, if_neg (show ¬ (M 10 (3 : Int).toNat = 0 ∨ M 10 (1 : Int).toNat = 0) from (show ¬ (M 10 3 = 0 ∨ M 10 1 = 0) by omega)), if_neg (show ¬ (M 11 (3 : Int).toNat ≠ M 11 (1 : Int).toNat) from (show ¬ (M 11 3 ≠ M 11 1) by omega)), if_neg (show ¬ (0 ≤ i ∧ 0 ≤ j ∧ 0 ≤ n ∧ i + n ≤ M 12 (3 : Int).toNat ∧ j + n ≤ M 12 (1 : Int).toNat) from (show ¬ (0 ≤ i ∧ 0 ≤ j ∧ 0 ≤ n ∧ i + n ≤ M 12 3 ∧ j + n ≤ M 12 1) by omega))]; rfl
              exact ⟨_, rfl, by rw [e1], by rw [e1]; exact ic_find c _⟩
        · skip
          refine r_aload_n dX8_copy_62 rfl ?_
          refine i_const dX8_copy_63 ?_
          refine i_cvI (c_find σ 4) lmX8_231 dX8_copy_64 (Nat.le_of_ble_eq_true rfl) rfl ⟨_, _, rfl⟩ (by decide) (by decide) rfl rfl (Nat.le_of_ble_eq_true rfl) (fun z1 σ1 hf => ?_)
          refine r_iret rfl dX8_copy_67 ?_
          obtain ⟨rfl, rfl⟩ := hf
          have e1 : s_copy M 3 i 1 j n = (-10 - 4, sup M 0 21 4) := by unfold s_copy; rw [if_pos ⟨by decide, by decide⟩, if_neg (show ¬ (M 10 (3 : Int).toNat = 0 ∨ M 10 (1 : Int).toNat = 0) from (show ¬ (M 10 3 = 0 ∨ M 10 1 = 0) by omega)), if_pos (show M 11 (3 : Int).toNat ≠ M 11 (1 : Int).toNat from (show M 11 3 ≠ M 11 1 by omega))]; rfl
          exact ⟨_, rfl, by rw [e1], by rw [e1]; exact ic_find c _⟩
      · skip
        refine r_aload_n dX8_copy_43 rfl ?_
        refine i_const dX8_copy_44 ?_
        refine i_cvI (c_find σ 1) lmX8_231 dX8_copy_45 (Nat.le_of_ble_eq_true rfl) rfl ⟨_, _, rfl⟩ (by decide) (by decide) rfl rfl (Nat.le_of_ble_eq_true rfl) (fun z1 σ1 hf => ?_)
        refine r_iret rfl dX8_copy_48 ?_
        obtain ⟨rfl, rfl⟩ := hf
        have e1 : s_copy M 3 i 1 j n = (-10 - 1, sup M 0 21 1) := by unfold s_copy; rw [if_pos ⟨by decide, by decide⟩, if_pos (show M 10 (3 : Int).toNat = 0 ∨ M 10 (1 : Int).toNat = 0 from (show M 10 3 = 0 ∨ M 10 1 = 0 by omega))]; rfl
        exact ⟨_, rfl, by rw [e1], by rw [e1]; exact ic_find c _⟩
  · skip
    obtain ⟨ka1, ka2, ka3, ka4⟩ := gh1.2.2.2
    obtain ⟨wa1, wa2, wa3, wa4⟩ := wf_sh hw 3 (by decide)
    obtain ⟨kb1, kb2, kb3, kb4⟩ := gh1.2.2.1
    obtain ⟨wb1, wb2, wb3, wb4⟩ := wf_sh hw 2 (by decide)
    refine r_aload_n dX8_copy_0 rfl ?_
    refine r_iload_n dX8_copy_1 rfl ?_
    refine i_cvP (c_sheetOf_3 σ) lmX8_223 dX8_copy_2 (Nat.le_of_ble_eq_true rfl) rfl ⟨_, _, rfl⟩ (by decide) (by decide) rfl rfl (Nat.le_of_ble_eq_true rfl) ?_
    refine r_astore dX8_copy_5 (Nat.le_of_ble_eq_true rfl) ?_
    refine r_aload_n dX8_copy_7 rfl ?_
    refine r_iload_n dX8_copy_8 rfl ?_
    refine i_cvP (c_sheetOf_2 σ) lmX8_223 dX8_copy_9 (Nat.le_of_ble_eq_true rfl) rfl ⟨_, _, rfl⟩ (by decide) (by decide) rfl rfl (Nat.le_of_ble_eq_true rfl) ?_
    refine r_astore dX8_copy_12 (Nat.le_of_ble_eq_true rfl) ?_
    refine r_aload dX8_copy_14 rfl ?_
    refine r_ifnull dX8_copy_16 ?_
    refine r_aload dX8_copy_19 rfl ?_
    refine r_ifnonnull 27 dX8_copy_21 rfl ?_
    refine r_aload dX8_copy_27 rfl ?_
    refine r_get (k := 28) lfX8_227 dX8_copy_29 (Nat.le_of_ble_eq_true rfl) rfl rfl ?_
    refine i_if_ne 43 dX8_copy_32 rfl ⟨by omega, by omega⟩ (fun q32 => ?_) (fun q32 => ?_)
    · skip
      refine r_aload_n dX8_copy_43 rfl ?_
      refine i_const dX8_copy_44 ?_
      refine i_cvI (c_find σ 1) lmX8_231 dX8_copy_45 (Nat.le_of_ble_eq_true rfl) rfl ⟨_, _, rfl⟩ (by decide) (by decide) rfl rfl (Nat.le_of_ble_eq_true rfl) (fun z1 σ1 hf => ?_)
      refine r_iret rfl dX8_copy_48 ?_
      obtain ⟨rfl, rfl⟩ := hf
      have e1 : s_copy M 3 i 2 j n = (-10 - 1, sup M 0 21 1) := by unfold s_copy; rw [if_pos ⟨by decide, by decide⟩, if_pos (show M 10 (3 : Int).toNat = 0 ∨ M 10 (2 : Int).toNat = 0 from (show M 10 3 = 0 ∨ M 10 2 = 0 by omega))]; rfl
      exact ⟨_, rfl, by rw [e1], by rw [e1]; exact ic_find c _⟩
    · skip
      refine r_aload dX8_copy_35 rfl ?_
      refine r_get (k := 26) lfX8_227 dX8_copy_37 (Nat.le_of_ble_eq_true rfl) rfl rfl ?_
      refine i_if_eq 49 dX8_copy_40 rfl ⟨by omega, by omega⟩ (fun q40 => ?_) (fun q40 => ?_)
      · skip
        refine r_aload dX8_copy_49 rfl ?_
        refine r_get (k := 28) lfX8_266 dX8_copy_51 (Nat.le_of_ble_eq_true rfl) rfl rfl ?_
        refine r_aload dX8_copy_54 rfl ?_
        refine r_get (k := 26) lfX8_266 dX8_copy_56 (Nat.le_of_ble_eq_true rfl) rfl rfl ?_
        refine i_icmp_eq 68 dX8_copy_59 rfl ⟨by omega, by omega⟩ ⟨by omega, by omega⟩ (fun q59 => ?_) (fun q59 => ?_)
        · skip
          refine r_aload dX8_copy_68 rfl ?_
          refine r_iload_n dX8_copy_70 rfl ?_
          refine r_iload dX8_copy_71 rfl ?_
          refine i_cvP (c_holds_28 σ (by omega) (by omega) (by omega) i n hi hn) lmX8_269 dX8_copy_73 (Nat.le_of_ble_eq_true rfl) rfl ⟨_, _, rfl⟩ (by decide) (by decide) rfl rfl (Nat.le_of_ble_eq_true rfl) ?_
          have ob1 := ob_bd (decide (0 ≤ i ∧ 0 ≤ n ∧ i + n ≤ σ 28 3))
          refine i_if_eq 91 dX8_copy_76 rfl ⟨by omega, by omega⟩ (fun q76 => ?_) (fun q76 => ?_)
          · have e76 := ob_df q76
            refine r_aload_n dX8_copy_91 rfl ?_
            refine i_const dX8_copy_92 ?_
            refine i_cvI (c_find σ 2) lmX8_231 dX8_copy_93 (Nat.le_of_ble_eq_true rfl) rfl ⟨_, _, rfl⟩ (by decide) (by decide) rfl rfl (Nat.le_of_ble_eq_true rfl) (fun z1 σ1 hf => ?_)
            refine r_iret rfl dX8_copy_96 ?_
            obtain ⟨rfl, rfl⟩ := hf
            have e1 : s_copy M 3 i 2 j n = (-10 - 2, sup M 0 21 2) := by unfold s_copy; rw [if_pos ⟨by decide, by decide⟩, if_neg (show ¬ (M 10 (3 : Int).toNat = 0 ∨ M 10 (2 : Int).toNat = 0) from (show ¬ (M 10 3 = 0 ∨ M 10 2 = 0) by omega)), if_neg (show ¬ (M 11 (3 : Int).toNat ≠ M 11 (2 : Int).toNat) from (show ¬ (M 11 3 ≠ M 11 2) by omega)), if_neg (show ¬ (0 ≤ i ∧ 0 ≤ j ∧ 0 ≤ n ∧ i + n ≤ M 12 (3 : Int).toNat ∧ j + n ≤ M 12 (2 : Int).toNat) from (show ¬ (0 ≤ i ∧ 0 ≤ j ∧ 0 ≤ n ∧ i + n ≤ M 12 3 ∧ j + n ≤ M 12 2) by omega))]; rfl
            exact ⟨_, rfl, by rw [e1], by rw [e1]; exact ic_find c _⟩
          · have e76 := ob_dt q76
            refine r_aload dX8_copy_79 rfl ?_
            refine r_iload dX8_copy_81 rfl ?_
            refine r_iload dX8_copy_83 rfl ?_
            refine i_cvP (c_holds_26 σ (by omega) (by omega) (by omega) j n hj hn) lmX8_269 dX8_copy_85 (Nat.le_of_ble_eq_true rfl) rfl ⟨_, _, rfl⟩ (by decide) (by decide) rfl rfl (Nat.le_of_ble_eq_true rfl) ?_
            have ob2 := ob_bd (decide (0 ≤ j ∧ 0 ≤ n ∧ j + n ≤ σ 26 3))
            refine i_if_ne 97 dX8_copy_88 rfl ⟨by omega, by omega⟩ (fun q88 => ?_) (fun q88 => ?_)
            · have e88 := ob_dt q88
              refine r_aload dX8_copy_97 rfl ?_
              refine r_aload dX8_copy_99 rfl ?_
              refine r_iload_n dX8_copy_101 rfl ?_
              refine r_iload dX8_copy_102 rfl ?_
              refine r_iload dX8_copy_104 rfl ?_
              refine i_cvV (c_take_26_28 σ (by omega) i j n (by omega) (by omega) (by omega) (by omega) (by omega)) lmX8_272 dX8_copy_106 (Nat.le_of_ble_eq_true rfl) rfl ⟨_, _, rfl⟩ (by decide) (by decide) rfl rfl (Nat.le_of_ble_eq_true rfl) (fun σ1 hr => ?_)
              refine i_const dX8_copy_109 ?_
              refine r_iret rfl dX8_copy_110 ?_
              obtain ⟨r1, r2⟩ := hr
              have hf : M 11 3 = M 11 2 := by omega
              have e1 : s_copy M 3 i 2 j n = (1, (rngM M (48 * 2 + j.toNat) n.toNat (fun k => M 13 (48 * 3 + i.toNat + k)))) := by unfold s_copy; rw [if_pos ⟨by decide, by decide⟩, if_neg (show ¬ (M 10 (3 : Int).toNat = 0 ∨ M 10 (2 : Int).toNat = 0) from (show ¬ (M 10 3 = 0 ∨ M 10 2 = 0) by omega)), if_neg (show ¬ (M 11 (3 : Int).toNat ≠ M 11 (2 : Int).toNat) from (show ¬ (M 11 3 ≠ M 11 2) by omega)), if_pos (show 0 ≤ i ∧ 0 ≤ j ∧ 0 ≤ n ∧ i + n ≤ M 12 (3 : Int).toNat ∧ j + n ≤ M 12 (2 : Int).toNat from (show 0 ≤ i ∧ 0 ≤ j ∧ 0 ≤ n ∧ i + n ≤ M 12 3 ∧ j + n ≤ M 12 2 by omega))]; rfl
              refine ⟨_, rfl, by rw [e1], ?_⟩
              rw [e1]
              dsimp only
              have F : ∀ k x, k ≠ 26 → k ≠ 27 → σ1 k x = σ k x := fun k x _ h => r2 k x h
              have E10 : ∀ v, v ≠ 2 → (rngM M (48 * 2 + j.toNat) n.toNat (fun k => M 13 (48 * 3 + i.toNat + k))) 10 v = M 10 v := fun _ _ => rfl
              have E11 : ∀ v, v ≠ 2 → (rngM M (48 * 2 + j.toNat) n.toNat (fun k => M 13 (48 * 3 + i.toNat + k))) 11 v = M 11 v := fun _ _ => rfl
              have E12 : ∀ v, v ≠ 2 → (rngM M (48 * 2 + j.toNat) n.toNat (fun k => M 13 (48 * 3 + i.toNat + k))) 12 v = M 12 v := fun _ _ => rfl
              have E13 : ∀ v x, v ≠ 2 → x < 48 → (rngM M (48 * 2 + j.toNat) n.toNat (fun k => M 13 (48 * 3 + i.toNat + k))) 13 (48 * v + x) = M 13 (48 * v + x) := fun v x hv hx => rngM_out _ _ _ _ (by omega)
              exact ic_sheet c ⟨gs1_o gh1.1 (fun i => F 22 i (by decide) (by decide)) (fun i => F 23 i (by decide) (by decide)) (E10 0 (by decide)) (E11 0 (by decide)) (E12 0 (by decide)) (fun i hi => E13 0 i (by decide) hi), gs1_o gh1.2.1 (fun i => F 24 i (by decide) (by decide)) (fun i => F 25 i (by decide) (by decide)) (E10 1 (by decide)) (E11 1 (by decide)) (E12 1 (by decide)) (fun i hi => E13 1 i (by decide) hi), ⟨(r2 _ _ (by decide)).trans kb1, (r2 _ _ (by decide)).trans kb2, (r2 _ _ (by decide)).trans kb3, fun x hx => by
                  have q := r1 x (by omega) (by omega)
                  rw [show ((x : Nat) : Int).toNat = x from rfl] at q
                  rw [q]
                  by_cases hz : j ≤ x ∧ (x : Int) < j + n
                  · rw [if_pos hz, rngM_in _ _ _ _ (by omega), ka4 (i + (x - j)).toNat (by omega), kb2, ← hf, (wa4 (i + (x - j)).toNat (by omega)).1, show 48 * 3 + i.toNat + (48 * 2 + x - (48 * 2 + j.toNat)) = 48 * 3 + (i + (x - j)).toNat by omega]
                  · rw [if_neg hz, rngM_out _ _ _ _ (by omega)]; exact kb4 x hx⟩, gs1_o gh1.2.2.2 (fun i => F 28 i (by decide) (by decide)) (fun i => F 29 i (by decide) (by decide)) (E10 3 (by decide)) (E11 3 (by decide)) (E12 3 (by decide)) (fun i hi => E13 3 i (by decide) hi)⟩ (fun k x h => r2 k x (by omega)) (fun k h => rngM_k _ _ _ _ (by omega))
            · have e88 := ob_df q88
              refine r_aload_n dX8_copy_91 rfl ?_
              refine i_const dX8_copy_92 ?_
              refine i_cvI (c_find σ 2) lmX8_231 dX8_copy_93 (Nat.le_of_ble_eq_true rfl) rfl ⟨_, _, rfl⟩ (by decide) (by decide) rfl rfl (Nat.le_of_ble_eq_true rfl) (fun z1 σ1 hf => ?_)
              refine r_iret rfl dX8_copy_96 ?_
              obtain ⟨rfl, rfl⟩ := hf
              have e1 : s_copy M 3 i 2 j n = (-10 - 2, sup M 0 21 2) := by unfold s_copy; rw [if_pos ⟨by decide, by decide⟩, if_neg (show ¬ (M 10 (3 : Int).toNat = 0 ∨ M 10 (2 : Int).toNat = 0) from (show ¬ (M 10 3 = 0 ∨ M 10 2 = 0) by omega)), if_neg (show ¬ (M 11 (3 : Int).toNat ≠ M 11 (2 : Int).toNat) from (show ¬ (M 11 3 ≠ M 11 2) by omega)), if_neg (show ¬ (0 ≤ i ∧ 0 ≤ j ∧ 0 ≤ n ∧ i + n ≤ M 12 (3 : Int).toNat ∧ j + n ≤ M 12 (2 : Int).toNat) from (show ¬ (0 ≤ i ∧ 0 ≤ j ∧ 0 ≤ n ∧ i + n ≤ M 12 3 ∧ j + n ≤ M 12 2) by omega))]; rfl
              exact ⟨_, rfl, by rw [e1], by rw [e1]; exact ic_find c _⟩
        · skip
          refine r_aload_n dX8_copy_62 rfl ?_
          refine i_const dX8_copy_63 ?_
          refine i_cvI (c_find σ 4) lmX8_231 dX8_copy_64 (Nat.le_of_ble_eq_true rfl) rfl ⟨_, _, rfl⟩ (by decide) (by decide) rfl rfl (Nat.le_of_ble_eq_true rfl) (fun z1 σ1 hf => ?_)
          refine r_iret rfl dX8_copy_67 ?_
          obtain ⟨rfl, rfl⟩ := hf
          have e1 : s_copy M 3 i 2 j n = (-10 - 4, sup M 0 21 4) := by unfold s_copy; rw [if_pos ⟨by decide, by decide⟩, if_neg (show ¬ (M 10 (3 : Int).toNat = 0 ∨ M 10 (2 : Int).toNat = 0) from (show ¬ (M 10 3 = 0 ∨ M 10 2 = 0) by omega)), if_pos (show M 11 (3 : Int).toNat ≠ M 11 (2 : Int).toNat from (show M 11 3 ≠ M 11 2 by omega))]; rfl
          exact ⟨_, rfl, by rw [e1], by rw [e1]; exact ic_find c _⟩
      · skip
        refine r_aload_n dX8_copy_43 rfl ?_
        refine i_const dX8_copy_44 ?_
        refine i_cvI (c_find σ 1) lmX8_231 dX8_copy_45 (Nat.le_of_ble_eq_true rfl) rfl ⟨_, _, rfl⟩ (by decide) (by decide) rfl rfl (Nat.le_of_ble_eq_true rfl) (fun z1 σ1 hf => ?_)
        refine r_iret rfl dX8_copy_48 ?_
        obtain ⟨rfl, rfl⟩ := hf
        have e1 : s_copy M 3 i 2 j n = (-10 - 1, sup M 0 21 1) := by unfold s_copy; rw [if_pos ⟨by decide, by decide⟩, if_pos (show M 10 (3 : Int).toNat = 0 ∨ M 10 (2 : Int).toNat = 0 from (show M 10 3 = 0 ∨ M 10 2 = 0 by omega))]; rfl
        exact ⟨_, rfl, by rw [e1], by rw [e1]; exact ic_find c _⟩
  · skip
    obtain ⟨ka1, ka2, ka3, ka4⟩ := gh1.2.2.2
    obtain ⟨wa1, wa2, wa3, wa4⟩ := wf_sh hw 3 (by decide)
    obtain ⟨kb1, kb2, kb3, kb4⟩ := gh1.2.2.2
    obtain ⟨wb1, wb2, wb3, wb4⟩ := wf_sh hw 3 (by decide)
    refine r_aload_n dX8_copy_0 rfl ?_
    refine r_iload_n dX8_copy_1 rfl ?_
    refine i_cvP (c_sheetOf_3 σ) lmX8_223 dX8_copy_2 (Nat.le_of_ble_eq_true rfl) rfl ⟨_, _, rfl⟩ (by decide) (by decide) rfl rfl (Nat.le_of_ble_eq_true rfl) ?_
    refine r_astore dX8_copy_5 (Nat.le_of_ble_eq_true rfl) ?_
    refine r_aload_n dX8_copy_7 rfl ?_
    refine r_iload_n dX8_copy_8 rfl ?_
    refine i_cvP (c_sheetOf_3 σ) lmX8_223 dX8_copy_9 (Nat.le_of_ble_eq_true rfl) rfl ⟨_, _, rfl⟩ (by decide) (by decide) rfl rfl (Nat.le_of_ble_eq_true rfl) ?_
    refine r_astore dX8_copy_12 (Nat.le_of_ble_eq_true rfl) ?_
    refine r_aload dX8_copy_14 rfl ?_
    refine r_ifnull dX8_copy_16 ?_
    refine r_aload dX8_copy_19 rfl ?_
    refine r_ifnonnull 27 dX8_copy_21 rfl ?_
    refine r_aload dX8_copy_27 rfl ?_
    refine r_get (k := 28) lfX8_227 dX8_copy_29 (Nat.le_of_ble_eq_true rfl) rfl rfl ?_
    refine i_if_ne 43 dX8_copy_32 rfl ⟨by omega, by omega⟩ (fun q32 => ?_) (fun q32 => ?_)
    · skip
      refine r_aload_n dX8_copy_43 rfl ?_
      refine i_const dX8_copy_44 ?_
      refine i_cvI (c_find σ 1) lmX8_231 dX8_copy_45 (Nat.le_of_ble_eq_true rfl) rfl ⟨_, _, rfl⟩ (by decide) (by decide) rfl rfl (Nat.le_of_ble_eq_true rfl) (fun z1 σ1 hf => ?_)
      refine r_iret rfl dX8_copy_48 ?_
      obtain ⟨rfl, rfl⟩ := hf
      have e1 : s_copy M 3 i 3 j n = (-10 - 1, sup M 0 21 1) := by unfold s_copy; rw [if_pos ⟨by decide, by decide⟩, if_pos (show M 10 (3 : Int).toNat = 0 ∨ M 10 (3 : Int).toNat = 0 from (show M 10 3 = 0 ∨ M 10 3 = 0 by omega))]; rfl
      exact ⟨_, rfl, by rw [e1], by rw [e1]; exact ic_find c _⟩
    · skip
      refine r_aload dX8_copy_35 rfl ?_
      refine r_get (k := 28) lfX8_227 dX8_copy_37 (Nat.le_of_ble_eq_true rfl) rfl rfl ?_
      refine i_if_eq 49 dX8_copy_40 rfl ⟨by omega, by omega⟩ (fun q40 => ?_) (fun q40 => ?_)
      · skip
        refine r_aload dX8_copy_49 rfl ?_
        refine r_get (k := 28) lfX8_266 dX8_copy_51 (Nat.le_of_ble_eq_true rfl) rfl rfl ?_
        refine r_aload dX8_copy_54 rfl ?_
        refine r_get (k := 28) lfX8_266 dX8_copy_56 (Nat.le_of_ble_eq_true rfl) rfl rfl ?_
        refine i_icmp_eq 68 dX8_copy_59 rfl ⟨by omega, by omega⟩ ⟨by omega, by omega⟩ (fun q59 => ?_) (fun q59 => ?_)
        · skip
          refine r_aload dX8_copy_68 rfl ?_
          refine r_iload_n dX8_copy_70 rfl ?_
          refine r_iload dX8_copy_71 rfl ?_
          refine i_cvP (c_holds_28 σ (by omega) (by omega) (by omega) i n hi hn) lmX8_269 dX8_copy_73 (Nat.le_of_ble_eq_true rfl) rfl ⟨_, _, rfl⟩ (by decide) (by decide) rfl rfl (Nat.le_of_ble_eq_true rfl) ?_
          have ob1 := ob_bd (decide (0 ≤ i ∧ 0 ≤ n ∧ i + n ≤ σ 28 3))
          refine i_if_eq 91 dX8_copy_76 rfl ⟨by omega, by omega⟩ (fun q76 => ?_) (fun q76 => ?_)
          · have e76 := ob_df q76
            refine r_aload_n dX8_copy_91 rfl ?_
            refine i_const dX8_copy_92 ?_
            refine i_cvI (c_find σ 2) lmX8_231 dX8_copy_93 (Nat.le_of_ble_eq_true rfl) rfl ⟨_, _, rfl⟩ (by decide) (by decide) rfl rfl (Nat.le_of_ble_eq_true rfl) (fun z1 σ1 hf => ?_)
            refine r_iret rfl dX8_copy_96 ?_
            obtain ⟨rfl, rfl⟩ := hf
            have e1 : s_copy M 3 i 3 j n = (-10 - 2, sup M 0 21 2) := by unfold s_copy; rw [if_pos ⟨by decide, by decide⟩, if_neg (show ¬ (M 10 (3 : Int).toNat = 0 ∨ M 10 (3 : Int).toNat = 0) from (show ¬ (M 10 3 = 0 ∨ M 10 3 = 0) by omega)), if_neg (show ¬ (M 11 (3 : Int).toNat ≠ M 11 (3 : Int).toNat) from (show ¬ (M 11 3 ≠ M 11 3) by omega)), if_neg (show ¬ (0 ≤ i ∧ 0 ≤ j ∧ 0 ≤ n ∧ i + n ≤ M 12 (3 : Int).toNat ∧ j + n ≤ M 12 (3 : Int).toNat) from (show ¬ (0 ≤ i ∧ 0 ≤ j ∧ 0 ≤ n ∧ i + n ≤ M 12 3 ∧ j + n ≤ M 12 3) by omega))]; rfl
            exact ⟨_, rfl, by rw [e1], by rw [e1]; exact ic_find c _⟩
          · have e76 := ob_dt q76
            refine r_aload dX8_copy_79 rfl ?_
            refine r_iload dX8_copy_81 rfl ?_
            refine r_iload dX8_copy_83 rfl ?_
            refine i_cvP (c_holds_28 σ (by omega) (by omega) (by omega) j n hj hn) lmX8_269 dX8_copy_85 (Nat.le_of_ble_eq_true rfl) rfl ⟨_, _, rfl⟩ (by decide) (by decide) rfl rfl (Nat.le_of_ble_eq_true rfl) ?_
            have ob2 := ob_bd (decide (0 ≤ j ∧ 0 ≤ n ∧ j + n ≤ σ 28 3))
            refine i_if_ne 97 dX8_copy_88 rfl ⟨by omega, by omega⟩ (fun q88 => ?_) (fun q88 => ?_)
            · have e88 := ob_dt q88
              refine r_aload dX8_copy_97 rfl ?_
              refine r_aload dX8_copy_99 rfl ?_
              refine r_iload_n dX8_copy_101 rfl ?_
              refine r_iload dX8_copy_102 rfl ?_
              refine r_iload dX8_copy_104 rfl ?_
              refine i_cvV (c_take_28_28 σ (by omega) i j n (by omega) (by omega) (by omega) (by omega) (by omega)) lmX8_272 dX8_copy_106 (Nat.le_of_ble_eq_true rfl) rfl ⟨_, _, rfl⟩ (by decide) (by decide) rfl rfl (Nat.le_of_ble_eq_true rfl) (fun σ1 hr => ?_)
              refine i_const dX8_copy_109 ?_
              refine r_iret rfl dX8_copy_110 ?_
              obtain ⟨r1, r2⟩ := hr
              have hf : M 11 3 = M 11 3 := by omega
              have e1 : s_copy M 3 i 3 j n = (1, (rngM M (48 * 3 + j.toNat) n.toNat (fun k => M 13 (48 * 3 + i.toNat + k)))) := by unfold s_copy; rw [if_pos ⟨by decide, by decide⟩, if_neg (show ¬ (M 10 (3 : Int).toNat = 0 ∨ M 10 (3 : Int).toNat = 0) from (show ¬ (M 10 3 = 0 ∨ M 10 3 = 0) by omega)), if_neg (show ¬ (M 11 (3 : Int).toNat ≠ M 11 (3 : Int).toNat) from (show ¬ (M 11 3 ≠ M 11 3) by omega)), if_pos (show 0 ≤ i ∧ 0 ≤ j ∧ 0 ≤ n ∧ i + n ≤ M 12 (3 : Int).toNat ∧ j + n ≤ M 12 (3 : Int).toNat from (show 0 ≤ i ∧ 0 ≤ j ∧ 0 ≤ n ∧ i + n ≤ M 12 3 ∧ j + n ≤ M 12 3 by omega))]; rfl
              refine ⟨_, rfl, by rw [e1], ?_⟩
              rw [e1]
              dsimp only
              have F : ∀ k x, k ≠ 28 → k ≠ 29 → σ1 k x = σ k x := fun k x _ h => r2 k x h
              have E10 : ∀ v, v ≠ 3 → (rngM M (48 * 3 + j.toNat) n.toNat (fun k => M 13 (48 * 3 + i.toNat + k))) 10 v = M 10 v := fun _ _ => rfl
              have E11 : ∀ v, v ≠ 3 → (rngM M (48 * 3 + j.toNat) n.toNat (fun k => M 13 (48 * 3 + i.toNat + k))) 11 v = M 11 v := fun _ _ => rfl
              have E12 : ∀ v, v ≠ 3 → (rngM M (48 * 3 + j.toNat) n.toNat (fun k => M 13 (48 * 3 + i.toNat + k))) 12 v = M 12 v := fun _ _ => rfl
              have E13 : ∀ v x, v ≠ 3 → x < 48 → (rngM M (48 * 3 + j.toNat) n.toNat (fun k => M 13 (48 * 3 + i.toNat + k))) 13 (48 * v + x) = M 13 (48 * v + x) := fun v x hv hx => rngM_out _ _ _ _ (by omega)
              exact ic_sheet c ⟨gs1_o gh1.1 (fun i => F 22 i (by decide) (by decide)) (fun i => F 23 i (by decide) (by decide)) (E10 0 (by decide)) (E11 0 (by decide)) (E12 0 (by decide)) (fun i hi => E13 0 i (by decide) hi), gs1_o gh1.2.1 (fun i => F 24 i (by decide) (by decide)) (fun i => F 25 i (by decide) (by decide)) (E10 1 (by decide)) (E11 1 (by decide)) (E12 1 (by decide)) (fun i hi => E13 1 i (by decide) hi), gs1_o gh1.2.2.1 (fun i => F 26 i (by decide) (by decide)) (fun i => F 27 i (by decide) (by decide)) (E10 2 (by decide)) (E11 2 (by decide)) (E12 2 (by decide)) (fun i hi => E13 2 i (by decide) hi), ⟨(r2 _ _ (by decide)).trans kb1, (r2 _ _ (by decide)).trans kb2, (r2 _ _ (by decide)).trans kb3, fun x hx => by
                  have q := r1 x (by omega) (by omega)
                  rw [show ((x : Nat) : Int).toNat = x from rfl] at q
                  rw [q]
                  by_cases hz : j ≤ x ∧ (x : Int) < j + n
                  · rw [if_pos hz, rngM_in _ _ _ _ (by omega), ka4 (i + (x - j)).toNat (by omega), kb2, ← hf, (wa4 (i + (x - j)).toNat (by omega)).1, show 48 * 3 + i.toNat + (48 * 3 + x - (48 * 3 + j.toNat)) = 48 * 3 + (i + (x - j)).toNat by omega]
                  · rw [if_neg hz, rngM_out _ _ _ _ (by omega)]; exact kb4 x hx⟩⟩ (fun k x h => r2 k x (by omega)) (fun k h => rngM_k _ _ _ _ (by omega))
            · have e88 := ob_df q88
              refine r_aload_n dX8_copy_91 rfl ?_
              refine i_const dX8_copy_92 ?_
              refine i_cvI (c_find σ 2) lmX8_231 dX8_copy_93 (Nat.le_of_ble_eq_true rfl) rfl ⟨_, _, rfl⟩ (by decide) (by decide) rfl rfl (Nat.le_of_ble_eq_true rfl) (fun z1 σ1 hf => ?_)
              refine r_iret rfl dX8_copy_96 ?_
              obtain ⟨rfl, rfl⟩ := hf
              have e1 : s_copy M 3 i 3 j n = (-10 - 2, sup M 0 21 2) := by unfold s_copy; rw [if_pos ⟨by decide, by decide⟩, if_neg (show ¬ (M 10 (3 : Int).toNat = 0 ∨ M 10 (3 : Int).toNat = 0) from (show ¬ (M 10 3 = 0 ∨ M 10 3 = 0) by omega)), if_neg (show ¬ (M 11 (3 : Int).toNat ≠ M 11 (3 : Int).toNat) from (show ¬ (M 11 3 ≠ M 11 3) by omega)), if_neg (show ¬ (0 ≤ i ∧ 0 ≤ j ∧ 0 ≤ n ∧ i + n ≤ M 12 (3 : Int).toNat ∧ j + n ≤ M 12 (3 : Int).toNat) from (show ¬ (0 ≤ i ∧ 0 ≤ j ∧ 0 ≤ n ∧ i + n ≤ M 12 3 ∧ j + n ≤ M 12 3) by omega))]; rfl
              exact ⟨_, rfl, by rw [e1], by rw [e1]; exact ic_find c _⟩
        · skip
          refine r_aload_n dX8_copy_62 rfl ?_
          refine i_const dX8_copy_63 ?_
          refine i_cvI (c_find σ 4) lmX8_231 dX8_copy_64 (Nat.le_of_ble_eq_true rfl) rfl ⟨_, _, rfl⟩ (by decide) (by decide) rfl rfl (Nat.le_of_ble_eq_true rfl) (fun z1 σ1 hf => ?_)
          refine r_iret rfl dX8_copy_67 ?_
          obtain ⟨rfl, rfl⟩ := hf
          have e1 : s_copy M 3 i 3 j n = (-10 - 4, sup M 0 21 4) := by unfold s_copy; rw [if_pos ⟨by decide, by decide⟩, if_neg (show ¬ (M 10 (3 : Int).toNat = 0 ∨ M 10 (3 : Int).toNat = 0) from (show ¬ (M 10 3 = 0 ∨ M 10 3 = 0) by omega)), if_pos (show M 11 (3 : Int).toNat ≠ M 11 (3 : Int).toNat from (show M 11 3 ≠ M 11 3 by omega))]; rfl
          exact ⟨_, rfl, by rw [e1], by rw [e1]; exact ic_find c _⟩
      · skip
        refine r_aload_n dX8_copy_43 rfl ?_
        refine i_const dX8_copy_44 ?_
        refine i_cvI (c_find σ 1) lmX8_231 dX8_copy_45 (Nat.le_of_ble_eq_true rfl) rfl ⟨_, _, rfl⟩ (by decide) (by decide) rfl rfl (Nat.le_of_ble_eq_true rfl) (fun z1 σ1 hf => ?_)
        refine r_iret rfl dX8_copy_48 ?_
        obtain ⟨rfl, rfl⟩ := hf
        have e1 : s_copy M 3 i 3 j n = (-10 - 1, sup M 0 21 1) := by unfold s_copy; rw [if_pos ⟨by decide, by decide⟩, if_pos (show M 10 (3 : Int).toNat = 0 ∨ M 10 (3 : Int).toNat = 0 from (show M 10 3 = 0 ∨ M 10 3 = 0 by omega))]; rfl
        exact ⟨_, rfl, by rw [e1], by rw [e1]; exact ic_find c _⟩
  · skip
    refine r_aload_n dX8_copy_0 rfl ?_
    refine r_iload_n dX8_copy_1 rfl ?_
    refine i_cvP (c_sheetOf_3 σ) lmX8_223 dX8_copy_2 (Nat.le_of_ble_eq_true rfl) rfl ⟨_, _, rfl⟩ (by decide) (by decide) rfl rfl (Nat.le_of_ble_eq_true rfl) ?_
    refine r_astore dX8_copy_5 (Nat.le_of_ble_eq_true rfl) ?_
    refine r_aload_n dX8_copy_7 rfl ?_
    refine r_iload_n dX8_copy_8 rfl ?_
    refine i_cvP (c_sheetOf_n σ t ht n1) lmX8_223 dX8_copy_9 (Nat.le_of_ble_eq_true rfl) rfl ⟨_, _, rfl⟩ (by decide) (by decide) rfl rfl (Nat.le_of_ble_eq_true rfl) ?_
    refine r_astoreN dX8_copy_12 (Nat.le_of_ble_eq_true rfl) ?_
    refine r_aload dX8_copy_14 rfl ?_
    refine r_ifnull dX8_copy_16 ?_
    refine r_aloadN dX8_copy_19 rfl ?_
    refine r_ifnonnullN dX8_copy_21 ?_
    refine i_bipush dX8_copy_24 (by decide) ?_
    refine r_iret rfl dX8_copy_26 ?_
    exact ⟨_, rfl, by unfold s_copy; rw [if_neg (by omega)], by unfold s_copy; rw [if_neg (by omega)]; exact c⟩
  · skip
    refine r_aload_n dX8_copy_0 rfl ?_
    refine r_iload_n dX8_copy_1 rfl ?_
    refine i_cvP (c_sheetOf_n σ s hs n0) lmX8_223 dX8_copy_2 (Nat.le_of_ble_eq_true rfl) rfl ⟨_, _, rfl⟩ (by decide) (by decide) rfl rfl (Nat.le_of_ble_eq_true rfl) ?_
    refine r_astoreN dX8_copy_5 (Nat.le_of_ble_eq_true rfl) ?_
    refine r_aload_n dX8_copy_7 rfl ?_
    refine r_iload_n dX8_copy_8 rfl ?_
    refine i_cvP (c_sheetOf_0 σ) lmX8_223 dX8_copy_9 (Nat.le_of_ble_eq_true rfl) rfl ⟨_, _, rfl⟩ (by decide) (by decide) rfl rfl (Nat.le_of_ble_eq_true rfl) ?_
    refine r_astore dX8_copy_12 (Nat.le_of_ble_eq_true rfl) ?_
    refine r_aloadN dX8_copy_14 rfl ?_
    refine r_ifnullN 24 dX8_copy_16 rfl ?_
    refine i_bipush dX8_copy_24 (by decide) ?_
    refine r_iret rfl dX8_copy_26 ?_
    exact ⟨_, rfl, by unfold s_copy; rw [if_neg (by omega)], by unfold s_copy; rw [if_neg (by omega)]; exact c⟩
  · skip
    refine r_aload_n dX8_copy_0 rfl ?_
    refine r_iload_n dX8_copy_1 rfl ?_
    refine i_cvP (c_sheetOf_n σ s hs n0) lmX8_223 dX8_copy_2 (Nat.le_of_ble_eq_true rfl) rfl ⟨_, _, rfl⟩ (by decide) (by decide) rfl rfl (Nat.le_of_ble_eq_true rfl) ?_
    refine r_astoreN dX8_copy_5 (Nat.le_of_ble_eq_true rfl) ?_
    refine r_aload_n dX8_copy_7 rfl ?_
    refine r_iload_n dX8_copy_8 rfl ?_
    refine i_cvP (c_sheetOf_1 σ) lmX8_223 dX8_copy_9 (Nat.le_of_ble_eq_true rfl) rfl ⟨_, _, rfl⟩ (by decide) (by decide) rfl rfl (Nat.le_of_ble_eq_true rfl) ?_
    refine r_astore dX8_copy_12 (Nat.le_of_ble_eq_true rfl) ?_
    refine r_aloadN dX8_copy_14 rfl ?_
    refine r_ifnullN 24 dX8_copy_16 rfl ?_
    refine i_bipush dX8_copy_24 (by decide) ?_
    refine r_iret rfl dX8_copy_26 ?_
    exact ⟨_, rfl, by unfold s_copy; rw [if_neg (by omega)], by unfold s_copy; rw [if_neg (by omega)]; exact c⟩
  · skip
    refine r_aload_n dX8_copy_0 rfl ?_
    refine r_iload_n dX8_copy_1 rfl ?_
    refine i_cvP (c_sheetOf_n σ s hs n0) lmX8_223 dX8_copy_2 (Nat.le_of_ble_eq_true rfl) rfl ⟨_, _, rfl⟩ (by decide) (by decide) rfl rfl (Nat.le_of_ble_eq_true rfl) ?_
    refine r_astoreN dX8_copy_5 (Nat.le_of_ble_eq_true rfl) ?_
    refine r_aload_n dX8_copy_7 rfl ?_
    refine r_iload_n dX8_copy_8 rfl ?_
    refine i_cvP (c_sheetOf_2 σ) lmX8_223 dX8_copy_9 (Nat.le_of_ble_eq_true rfl) rfl ⟨_, _, rfl⟩ (by decide) (by decide) rfl rfl (Nat.le_of_ble_eq_true rfl) ?_
    refine r_astore dX8_copy_12 (Nat.le_of_ble_eq_true rfl) ?_
    refine r_aloadN dX8_copy_14 rfl ?_
    refine r_ifnullN 24 dX8_copy_16 rfl ?_
    refine i_bipush dX8_copy_24 (by decide) ?_
    refine r_iret rfl dX8_copy_26 ?_
    exact ⟨_, rfl, by unfold s_copy; rw [if_neg (by omega)], by unfold s_copy; rw [if_neg (by omega)]; exact c⟩
  · skip
    refine r_aload_n dX8_copy_0 rfl ?_
    refine r_iload_n dX8_copy_1 rfl ?_
    refine i_cvP (c_sheetOf_n σ s hs n0) lmX8_223 dX8_copy_2 (Nat.le_of_ble_eq_true rfl) rfl ⟨_, _, rfl⟩ (by decide) (by decide) rfl rfl (Nat.le_of_ble_eq_true rfl) ?_
    refine r_astoreN dX8_copy_5 (Nat.le_of_ble_eq_true rfl) ?_
    refine r_aload_n dX8_copy_7 rfl ?_
    refine r_iload_n dX8_copy_8 rfl ?_
    refine i_cvP (c_sheetOf_3 σ) lmX8_223 dX8_copy_9 (Nat.le_of_ble_eq_true rfl) rfl ⟨_, _, rfl⟩ (by decide) (by decide) rfl rfl (Nat.le_of_ble_eq_true rfl) ?_
    refine r_astore dX8_copy_12 (Nat.le_of_ble_eq_true rfl) ?_
    refine r_aloadN dX8_copy_14 rfl ?_
    refine r_ifnullN 24 dX8_copy_16 rfl ?_
    refine i_bipush dX8_copy_24 (by decide) ?_
    refine r_iret rfl dX8_copy_26 ?_
    exact ⟨_, rfl, by unfold s_copy; rw [if_neg (by omega)], by unfold s_copy; rw [if_neg (by omega)]; exact c⟩
  · skip
    refine r_aload_n dX8_copy_0 rfl ?_
    refine r_iload_n dX8_copy_1 rfl ?_
    refine i_cvP (c_sheetOf_n σ s hs n0) lmX8_223 dX8_copy_2 (Nat.le_of_ble_eq_true rfl) rfl ⟨_, _, rfl⟩ (by decide) (by decide) rfl rfl (Nat.le_of_ble_eq_true rfl) ?_
    refine r_astoreN dX8_copy_5 (Nat.le_of_ble_eq_true rfl) ?_
    refine r_aload_n dX8_copy_7 rfl ?_
    refine r_iload_n dX8_copy_8 rfl ?_
    refine i_cvP (c_sheetOf_n σ t ht n1) lmX8_223 dX8_copy_9 (Nat.le_of_ble_eq_true rfl) rfl ⟨_, _, rfl⟩ (by decide) (by decide) rfl rfl (Nat.le_of_ble_eq_true rfl) ?_
    refine r_astoreN dX8_copy_12 (Nat.le_of_ble_eq_true rfl) ?_
    refine r_aloadN dX8_copy_14 rfl ?_
    refine r_ifnullN 24 dX8_copy_16 rfl ?_
    refine i_bipush dX8_copy_24 (by decide) ?_
    refine r_iret rfl dX8_copy_26 ?_
    exact ⟨_, rfl, by unfold s_copy; rw [if_neg (by omega)], by unfold s_copy; rw [if_neg (by omega)]; exact c⟩

theorem c_write_l_0 (M σ : rl_S) (c : IC M σ) (hw : WF M) (t : Int) (t0 : 0 ≤ t) (t1 : t < 400) (N : Int) (hN : N = min (M 12 0) (400 - t)) (k2 : σ 22 2 = M 11 0) (w2 : 0 ≤ M 11 0 ∧ M 11 0 ≤ 2) (w3 : 0 ≤ M 12 0 ∧ M 12 0 ≤ 48) : ∀ (n : Nat) (k : Int) (σ2 : rl_S), k + n = N → 0 ≤ k → (∀ z : Int, 0 ≤ z → z < k → σ2 23 z.toNat = nar (M 11 0) (hi M (t + z))) → (∀ z : Int, k ≤ z → z < 48 → σ2 23 z.toNat = σ 23 z.toNat) → (∀ a i, a ≠ 23 → σ2 a i = σ a i) → Rn cW mX8_write 50 [.ref 0, .int (iI t), .int (iI 0), .ref 22, .int (iI N), .int (iI k)] [] σ2 (qI (fun y σ' => y = N ∧ (∀ z : Int, 0 ≤ z → z < N → σ' 23 z.toNat = nar (M 11 0) (hi M (t + z))) ∧ (∀ z : Int, N ≤ z → z < 48 → σ' 23 z.toNat = σ 23 z.toNat) ∧ ∀ a i, a ≠ 23 → σ' a i = σ a i)) := by
  intro n
  induction n with
  | zero =>
    intro k σ2 hk k0 e1 e2 hf
    have hk2 : k = N := by omega
    subst hk2
    refine r_iload dX8_write_50 rfl ?_
    refine r_iload dX8_write_52 rfl ?_
    refine i_icmp_ge 80 dX8_write_54 rfl ⟨by omega, by omega⟩ ⟨by omega, by omega⟩ (fun q54 => ?_) (fun q54 => ?_)
    · skip
      refine r_iload dX8_write_80 rfl ?_
      refine r_iret rfl dX8_write_82 ?_
      exact ⟨_, rfl, rfl, e1, e2, hf⟩
    · exfalso
      omega
  | succ n ih =>
    intro k σ2 hk k0 e1 e2 hf
    have hb := wf_hb hw
    have hh2 : SH σ2 (hi M) := fun z z0 z1 => (hf 12 _ (by decide)).trans (c.2.1.2.2.2.2 z z0 z1)
    have kk2 : σ2 22 2 = M 11 0 := (hf 22 2 (by decide)).trans k2
    refine r_iload dX8_write_50 rfl ?_
    refine r_iload dX8_write_52 rfl ?_
    refine i_icmp_ge 80 dX8_write_54 rfl ⟨by omega, by omega⟩ ⟨by omega, by omega⟩ (fun q54 => ?_) (fun q54 => ?_)
    · exfalso
      omega
    · skip
      refine r_aload_n dX8_write_57 rfl ?_
      refine r_iload dX8_write_58 rfl ?_
      refine r_aload_n dX8_write_60 rfl ?_
      refine r_get (k := 0) lfX8_26 dX8_write_61 (Nat.le_of_ble_eq_true rfl) rfl rfl ?_
      refine r_iload_n dX8_write_64 rfl ?_
      refine r_iload dX8_write_65 rfl ?_
      refine i_iadd dX8_write_67 ?_
      refine i_cvP (c_heightAt σ2 (hi M) hh2 hb (t + k) (by omega) (by omega)) lmX8_144 dX8_write_68 (Nat.le_of_ble_eq_true rfl) rfl ⟨_, _, rfl⟩ (by decide) (by decide) rfl rfl (Nat.le_of_ble_eq_true rfl) ?_
      refine i_cvV (c_store_22 σ2 (by omega) k (hi M (t + k)) k0 (by omega)) lmX8_262 dX8_write_71 (Nat.le_of_ble_eq_true rfl) rfl ⟨_, _, rfl⟩ (by decide) (by decide) rfl rfl (Nat.le_of_ble_eq_true rfl) (fun σ1 hr => ?_)
      refine i_iinc dX8_write_74 rfl (Nat.le_of_ble_eq_true rfl) ?_
      refine r_goto 50 dX8_write_77 rfl ?_
      subst hr
      exact ih (k + 1) _ (by omega) (by omega) (row_up e1 k0 (by rw [kk2])) (fun z z0 z1 => (sup_i _ _ _ _ (by omega)).trans (e2 z (by omega) z1)) (fun a i h => (sup_k _ _ _ _ _ h).trans (hf a i h))

theorem c_write_l_1 (M σ : rl_S) (c : IC M σ) (hw : WF M) (t : Int) (t0 : 0 ≤ t) (t1 : t < 400) (N : Int) (hN : N = min (M 12 1) (400 - t)) (k2 : σ 24 2 = M 11 1) (w2 : 0 ≤ M 11 1 ∧ M 11 1 ≤ 2) (w3 : 0 ≤ M 12 1 ∧ M 12 1 ≤ 48) : ∀ (n : Nat) (k : Int) (σ2 : rl_S), k + n = N → 0 ≤ k → (∀ z : Int, 0 ≤ z → z < k → σ2 25 z.toNat = nar (M 11 1) (hi M (t + z))) → (∀ z : Int, k ≤ z → z < 48 → σ2 25 z.toNat = σ 25 z.toNat) → (∀ a i, a ≠ 25 → σ2 a i = σ a i) → Rn cW mX8_write 50 [.ref 0, .int (iI t), .int (iI 1), .ref 24, .int (iI N), .int (iI k)] [] σ2 (qI (fun y σ' => y = N ∧ (∀ z : Int, 0 ≤ z → z < N → σ' 25 z.toNat = nar (M 11 1) (hi M (t + z))) ∧ (∀ z : Int, N ≤ z → z < 48 → σ' 25 z.toNat = σ 25 z.toNat) ∧ ∀ a i, a ≠ 25 → σ' a i = σ a i)) := by
  intro n
  induction n with
  | zero =>
    intro k σ2 hk k0 e1 e2 hf
    have hk2 : k = N := by omega
    subst hk2
    refine r_iload dX8_write_50 rfl ?_
    refine r_iload dX8_write_52 rfl ?_
    refine i_icmp_ge 80 dX8_write_54 rfl ⟨by omega, by omega⟩ ⟨by omega, by omega⟩ (fun q54 => ?_) (fun q54 => ?_)
    · skip
      refine r_iload dX8_write_80 rfl ?_
      refine r_iret rfl dX8_write_82 ?_
      exact ⟨_, rfl, rfl, e1, e2, hf⟩
    · exfalso
      omega
  | succ n ih =>
    intro k σ2 hk k0 e1 e2 hf
    have hb := wf_hb hw
    have hh2 : SH σ2 (hi M) := fun z z0 z1 => (hf 12 _ (by decide)).trans (c.2.1.2.2.2.2 z z0 z1)
    have kk2 : σ2 24 2 = M 11 1 := (hf 24 2 (by decide)).trans k2
    refine r_iload dX8_write_50 rfl ?_
    refine r_iload dX8_write_52 rfl ?_
    refine i_icmp_ge 80 dX8_write_54 rfl ⟨by omega, by omega⟩ ⟨by omega, by omega⟩ (fun q54 => ?_) (fun q54 => ?_)
    · exfalso
      omega
    · skip
      refine r_aload_n dX8_write_57 rfl ?_
      refine r_iload dX8_write_58 rfl ?_
      refine r_aload_n dX8_write_60 rfl ?_
      refine r_get (k := 0) lfX8_26 dX8_write_61 (Nat.le_of_ble_eq_true rfl) rfl rfl ?_
      refine r_iload_n dX8_write_64 rfl ?_
      refine r_iload dX8_write_65 rfl ?_
      refine i_iadd dX8_write_67 ?_
      refine i_cvP (c_heightAt σ2 (hi M) hh2 hb (t + k) (by omega) (by omega)) lmX8_144 dX8_write_68 (Nat.le_of_ble_eq_true rfl) rfl ⟨_, _, rfl⟩ (by decide) (by decide) rfl rfl (Nat.le_of_ble_eq_true rfl) ?_
      refine i_cvV (c_store_24 σ2 (by omega) k (hi M (t + k)) k0 (by omega)) lmX8_262 dX8_write_71 (Nat.le_of_ble_eq_true rfl) rfl ⟨_, _, rfl⟩ (by decide) (by decide) rfl rfl (Nat.le_of_ble_eq_true rfl) (fun σ1 hr => ?_)
      refine i_iinc dX8_write_74 rfl (Nat.le_of_ble_eq_true rfl) ?_
      refine r_goto 50 dX8_write_77 rfl ?_
      subst hr
      exact ih (k + 1) _ (by omega) (by omega) (row_up e1 k0 (by rw [kk2])) (fun z z0 z1 => (sup_i _ _ _ _ (by omega)).trans (e2 z (by omega) z1)) (fun a i h => (sup_k _ _ _ _ _ h).trans (hf a i h))

theorem c_write_l_2 (M σ : rl_S) (c : IC M σ) (hw : WF M) (t : Int) (t0 : 0 ≤ t) (t1 : t < 400) (N : Int) (hN : N = min (M 12 2) (400 - t)) (k2 : σ 26 2 = M 11 2) (w2 : 0 ≤ M 11 2 ∧ M 11 2 ≤ 2) (w3 : 0 ≤ M 12 2 ∧ M 12 2 ≤ 48) : ∀ (n : Nat) (k : Int) (σ2 : rl_S), k + n = N → 0 ≤ k → (∀ z : Int, 0 ≤ z → z < k → σ2 27 z.toNat = nar (M 11 2) (hi M (t + z))) → (∀ z : Int, k ≤ z → z < 48 → σ2 27 z.toNat = σ 27 z.toNat) → (∀ a i, a ≠ 27 → σ2 a i = σ a i) → Rn cW mX8_write 50 [.ref 0, .int (iI t), .int (iI 2), .ref 26, .int (iI N), .int (iI k)] [] σ2 (qI (fun y σ' => y = N ∧ (∀ z : Int, 0 ≤ z → z < N → σ' 27 z.toNat = nar (M 11 2) (hi M (t + z))) ∧ (∀ z : Int, N ≤ z → z < 48 → σ' 27 z.toNat = σ 27 z.toNat) ∧ ∀ a i, a ≠ 27 → σ' a i = σ a i)) := by
  intro n
  induction n with
  | zero =>
    intro k σ2 hk k0 e1 e2 hf
    have hk2 : k = N := by omega
    subst hk2
    refine r_iload dX8_write_50 rfl ?_
    refine r_iload dX8_write_52 rfl ?_
    refine i_icmp_ge 80 dX8_write_54 rfl ⟨by omega, by omega⟩ ⟨by omega, by omega⟩ (fun q54 => ?_) (fun q54 => ?_)
    · skip
      refine r_iload dX8_write_80 rfl ?_
      refine r_iret rfl dX8_write_82 ?_
      exact ⟨_, rfl, rfl, e1, e2, hf⟩
    · exfalso
      omega
  | succ n ih =>
    intro k σ2 hk k0 e1 e2 hf
    have hb := wf_hb hw
    have hh2 : SH σ2 (hi M) := fun z z0 z1 => (hf 12 _ (by decide)).trans (c.2.1.2.2.2.2 z z0 z1)
    have kk2 : σ2 26 2 = M 11 2 := (hf 26 2 (by decide)).trans k2
    refine r_iload dX8_write_50 rfl ?_
    refine r_iload dX8_write_52 rfl ?_
    refine i_icmp_ge 80 dX8_write_54 rfl ⟨by omega, by omega⟩ ⟨by omega, by omega⟩ (fun q54 => ?_) (fun q54 => ?_)
    · exfalso
      omega
    · skip
      refine r_aload_n dX8_write_57 rfl ?_
      refine r_iload dX8_write_58 rfl ?_
      refine r_aload_n dX8_write_60 rfl ?_
      refine r_get (k := 0) lfX8_26 dX8_write_61 (Nat.le_of_ble_eq_true rfl) rfl rfl ?_
      refine r_iload_n dX8_write_64 rfl ?_
      refine r_iload dX8_write_65 rfl ?_
      refine i_iadd dX8_write_67 ?_
      refine i_cvP (c_heightAt σ2 (hi M) hh2 hb (t + k) (by omega) (by omega)) lmX8_144 dX8_write_68 (Nat.le_of_ble_eq_true rfl) rfl ⟨_, _, rfl⟩ (by decide) (by decide) rfl rfl (Nat.le_of_ble_eq_true rfl) ?_
      refine i_cvV (c_store_26 σ2 (by omega) k (hi M (t + k)) k0 (by omega)) lmX8_262 dX8_write_71 (Nat.le_of_ble_eq_true rfl) rfl ⟨_, _, rfl⟩ (by decide) (by decide) rfl rfl (Nat.le_of_ble_eq_true rfl) (fun σ1 hr => ?_)
      refine i_iinc dX8_write_74 rfl (Nat.le_of_ble_eq_true rfl) ?_
      refine r_goto 50 dX8_write_77 rfl ?_
      subst hr
      exact ih (k + 1) _ (by omega) (by omega) (row_up e1 k0 (by rw [kk2])) (fun z z0 z1 => (sup_i _ _ _ _ (by omega)).trans (e2 z (by omega) z1)) (fun a i h => (sup_k _ _ _ _ _ h).trans (hf a i h))

theorem c_write_l_3 (M σ : rl_S) (c : IC M σ) (hw : WF M) (t : Int) (t0 : 0 ≤ t) (t1 : t < 400) (N : Int) (hN : N = min (M 12 3) (400 - t)) (k2 : σ 28 2 = M 11 3) (w2 : 0 ≤ M 11 3 ∧ M 11 3 ≤ 2) (w3 : 0 ≤ M 12 3 ∧ M 12 3 ≤ 48) : ∀ (n : Nat) (k : Int) (σ2 : rl_S), k + n = N → 0 ≤ k → (∀ z : Int, 0 ≤ z → z < k → σ2 29 z.toNat = nar (M 11 3) (hi M (t + z))) → (∀ z : Int, k ≤ z → z < 48 → σ2 29 z.toNat = σ 29 z.toNat) → (∀ a i, a ≠ 29 → σ2 a i = σ a i) → Rn cW mX8_write 50 [.ref 0, .int (iI t), .int (iI 3), .ref 28, .int (iI N), .int (iI k)] [] σ2 (qI (fun y σ' => y = N ∧ (∀ z : Int, 0 ≤ z → z < N → σ' 29 z.toNat = nar (M 11 3) (hi M (t + z))) ∧ (∀ z : Int, N ≤ z → z < 48 → σ' 29 z.toNat = σ 29 z.toNat) ∧ ∀ a i, a ≠ 29 → σ' a i = σ a i)) := by
  intro n
  induction n with
  | zero =>
    intro k σ2 hk k0 e1 e2 hf
    have hk2 : k = N := by omega
    subst hk2
    refine r_iload dX8_write_50 rfl ?_
    refine r_iload dX8_write_52 rfl ?_
    refine i_icmp_ge 80 dX8_write_54 rfl ⟨by omega, by omega⟩ ⟨by omega, by omega⟩ (fun q54 => ?_) (fun q54 => ?_)
    · skip
      refine r_iload dX8_write_80 rfl ?_
      refine r_iret rfl dX8_write_82 ?_
      exact ⟨_, rfl, rfl, e1, e2, hf⟩
    · exfalso
      omega
  | succ n ih =>
    intro k σ2 hk k0 e1 e2 hf
    have hb := wf_hb hw
    have hh2 : SH σ2 (hi M) := fun z z0 z1 => (hf 12 _ (by decide)).trans (c.2.1.2.2.2.2 z z0 z1)
    have kk2 : σ2 28 2 = M 11 3 := (hf 28 2 (by decide)).trans k2
    refine r_iload dX8_write_50 rfl ?_
    refine r_iload dX8_write_52 rfl ?_
    refine i_icmp_ge 80 dX8_write_54 rfl ⟨by omega, by omega⟩ ⟨by omega, by omega⟩ (fun q54 => ?_) (fun q54 => ?_)
    · exfalso
      omega
    · skip
      refine r_aload_n dX8_write_57 rfl ?_
      refine r_iload dX8_write_58 rfl ?_
      refine r_aload_n dX8_write_60 rfl ?_
      refine r_get (k := 0) lfX8_26 dX8_write_61 (Nat.le_of_ble_eq_true rfl) rfl rfl ?_
      refine r_iload_n dX8_write_64 rfl ?_
      refine r_iload dX8_write_65 rfl ?_
      refine i_iadd dX8_write_67 ?_
      refine i_cvP (c_heightAt σ2 (hi M) hh2 hb (t + k) (by omega) (by omega)) lmX8_144 dX8_write_68 (Nat.le_of_ble_eq_true rfl) rfl ⟨_, _, rfl⟩ (by decide) (by decide) rfl rfl (Nat.le_of_ble_eq_true rfl) ?_
      refine i_cvV (c_store_28 σ2 (by omega) k (hi M (t + k)) k0 (by omega)) lmX8_262 dX8_write_71 (Nat.le_of_ble_eq_true rfl) rfl ⟨_, _, rfl⟩ (by decide) (by decide) rfl rfl (Nat.le_of_ble_eq_true rfl) (fun σ1 hr => ?_)
      refine i_iinc dX8_write_74 rfl (Nat.le_of_ble_eq_true rfl) ?_
      refine r_goto 50 dX8_write_77 rfl ?_
      subst hr
      exact ih (k + 1) _ (by omega) (by omega) (row_up e1 k0 (by rw [kk2])) (fun z z0 z1 => (sup_i _ _ _ _ (by omega)).trans (e2 z (by omega) z1)) (fun a i h => (sup_k _ _ _ _ _ h).trans (hf a i h))

set_option maxRecDepth 20000 in
theorem c_write (M σ : rl_S) (c : IC M σ) (hw : WF M) (t s : Int) (ht : -2147483648 ≤ t ∧ t < 2147483648) (hs : -2147483648 ≤ s ∧ s < 2147483648) : Ct cW mX8_write [.ref 0, .int (iI t), .int (iI s)] σ (qI (fun z σ' => z = (s_write M t s).1 ∧ IC (s_write M t s).2 σ')) := by
  refine Ct.of plX8 (Nat.le_of_ble_eq_true rfl) ?_
  obtain ⟨gt, gs, gp, gg, gn, gh1, gf⟩ := id c
  have hb := wf_hb hw
  have hh := gs.2.2.2.2
  have ob1 := ob_bd (decide (0 ≤ t ∧ t ≤ 399))
  rcases (show s = 0 ∨ s = 1 ∨ s = 2 ∨ s = 3 ∨ (s < 0 ∨ 3 < s) by omega) with rfl | rfl | rfl | rfl | n0
  · skip
    obtain ⟨k1, k2, k3, k4⟩ := gh1.1
    obtain ⟨w1, w2, w3, w4⟩ := wf_sh hw 0 (by decide)
    refine r_aload_n dX8_write_0 rfl ?_
    refine r_iload_n dX8_write_1 rfl ?_
    refine i_cvP (c_sheetOf_0 σ) lmX8_223 dX8_write_2 (Nat.le_of_ble_eq_true rfl) rfl ⟨_, _, rfl⟩ (by decide) (by decide) rfl rfl (Nat.le_of_ble_eq_true rfl) ?_
    refine r_astore_n dX8_write_5 (Nat.le_of_ble_eq_true rfl) ?_
    refine r_iload_n dX8_write_6 rfl ?_
    refine i_csP (c_isTenth σ t ht) lmX8_122 dX8_write_7 (by decide) (by decide) rfl rfl (Nat.le_of_ble_eq_true rfl) ?_
    refine i_if_eq 17 dX8_write_10 rfl ⟨by omega, by omega⟩ (fun q10 => ?_) (fun q10 => ?_)
    · have e10 := ob_df q10
      refine i_bipush dX8_write_17 (by decide) ?_
      refine r_iret rfl dX8_write_19 ?_
      exact ⟨_, rfl, by unfold s_write; rw [if_neg (by omega)], by unfold s_write; rw [if_neg (by omega)]; exact c⟩
    · have e10 := ob_dt q10
      refine r_aload_n dX8_write_13 rfl ?_
      refine r_ifnonnull 20 dX8_write_14 rfl ?_
      refine r_aload_n dX8_write_20 rfl ?_
      refine r_get (k := 22) lfX8_227 dX8_write_21 (Nat.le_of_ble_eq_true rfl) rfl rfl ?_
      refine i_if_eq 33 dX8_write_24 rfl ⟨by omega, by omega⟩ (fun q24 => ?_) (fun q24 => ?_)
      · skip
        refine r_aload_n dX8_write_33 rfl ?_
        refine r_get (k := 22) lfX8_234 dX8_write_34 (Nat.le_of_ble_eq_true rfl) rfl rfl ?_
        refine i_sipush dX8_write_37 (by decide) ?_
        refine r_iload_n dX8_write_40 rfl ?_
        refine i_isub dX8_write_41 ?_
        refine i_mmin lmX8_212 dX8_write_42 (by decide) (Nat.le_of_ble_eq_true rfl) ⟨by omega, by omega⟩ ⟨by omega, by omega⟩ ?_
        refine r_istore dX8_write_45 (Nat.le_of_ble_eq_true rfl) ?_
        refine i_const dX8_write_47 ?_
        refine r_istore dX8_write_48 (Nat.le_of_ble_eq_true rfl) ?_
        have e1 : s_write M t 0 = (wrN M t 0, (rngM M (48 * 0) (wrN M t 0).toNat (fun k => nar (M 11 0) (hi M (t + k))))) := by unfold s_write; rw [if_pos ⟨by omega, by decide⟩, if_neg (show ¬ M 10 (0 : Int).toNat = 0 from (show ¬ M 10 0 = 0 by omega))]; rfl
        have eN : wrN M t 0 = min (M 12 0) (400 - t) := rfl
        rw [k3]
        refine Rn.mono (c_write_l_0 M σ c hw t (by omega) (by omega) (min (M 12 0) (400 - t)) rfl k2 w2 w3 (min (M 12 0) (400 - t)).toNat 0 σ (by omega) (by omega) (fun z z0 z1 => absurd z1 (by omega)) (fun _ _ _ => rfl) (fun _ _ _ => rfl)) (fun r σ1 ⟨z, g1, g2, g3, g4, g5⟩ => ⟨z, g1, by rw [g2, e1]; rfl, ?_⟩)
        rw [e1]
        dsimp only
        have F : ∀ k x, k ≠ 22 → k ≠ 23 → σ1 k x = σ k x := fun k x _ h => g5 k x h
        have E10 : ∀ v, v ≠ 0 → (rngM M (48 * 0) (wrN M t 0).toNat (fun k => nar (M 11 0) (hi M (t + k)))) 10 v = M 10 v := fun _ _ => rfl
        have E11 : ∀ v, v ≠ 0 → (rngM M (48 * 0) (wrN M t 0).toNat (fun k => nar (M 11 0) (hi M (t + k)))) 11 v = M 11 v := fun _ _ => rfl
        have E12 : ∀ v, v ≠ 0 → (rngM M (48 * 0) (wrN M t 0).toNat (fun k => nar (M 11 0) (hi M (t + k)))) 12 v = M 12 v := fun _ _ => rfl
        have E13 : ∀ v x, v ≠ 0 → x < 48 → (rngM M (48 * 0) (wrN M t 0).toNat (fun k => nar (M 11 0) (hi M (t + k)))) 13 (48 * v + x) = M 13 (48 * v + x) := fun v x hv hx => rngM_out _ _ _ _ (by omega)
        exact ic_sheet c ⟨⟨(g5 _ _ (by decide)).trans k1, (g5 _ _ (by decide)).trans k2, (g5 _ _ (by decide)).trans k3, fun x hx => by
            by_cases hz : (x : Int) < min (M 12 0) (400 - t)
            · have q := g3 x (by omega) hz
              rw [show ((x : Nat) : Int).toNat = x from rfl] at q
              rw [q, rngM_in _ _ _ _ (by omega), show 48 * 0 + x - 48 * 0 = x by omega]
            · have q := g4 x (by omega) (by omega)
              rw [show ((x : Nat) : Int).toNat = x from rfl] at q
              rw [q, rngM_out _ _ _ _ (by omega)]; exact k4 x hx⟩, gs1_o gh1.2.1 (fun i => F 24 i (by decide) (by decide)) (fun i => F 25 i (by decide) (by decide)) (E10 1 (by decide)) (E11 1 (by decide)) (E12 1 (by decide)) (fun i hi => E13 1 i (by decide) hi), gs1_o gh1.2.2.1 (fun i => F 26 i (by decide) (by decide)) (fun i => F 27 i (by decide) (by decide)) (E10 2 (by decide)) (E11 2 (by decide)) (E12 2 (by decide)) (fun i hi => E13 2 i (by decide) hi), gs1_o gh1.2.2.2 (fun i => F 28 i (by decide) (by decide)) (fun i => F 29 i (by decide) (by decide)) (E10 3 (by decide)) (E11 3 (by decide)) (E12 3 (by decide)) (fun i hi => E13 3 i (by decide) hi)⟩ (fun k x h => g5 k x (by omega)) (fun k h => rngM_k _ _ _ _ (by omega))
      · skip
        refine r_aload_n dX8_write_27 rfl ?_
        refine i_const dX8_write_28 ?_
        refine i_cvI (c_find σ 1) lmX8_231 dX8_write_29 (Nat.le_of_ble_eq_true rfl) rfl ⟨_, _, rfl⟩ (by decide) (by decide) rfl rfl (Nat.le_of_ble_eq_true rfl) (fun z1 σ1 hf => ?_)
        refine r_iret rfl dX8_write_32 ?_
        obtain ⟨rfl, rfl⟩ := hf
        have e1 : s_write M t 0 = (-11, sup M 0 21 1) := by unfold s_write; rw [if_pos ⟨by omega, by decide⟩, if_pos (show M 10 (0 : Int).toNat = 0 from (show M 10 0 = 0 by omega))]
        exact ⟨_, rfl, by rw [e1]; rfl, by rw [e1]; exact ic_find c 1⟩
  · skip
    obtain ⟨k1, k2, k3, k4⟩ := gh1.2.1
    obtain ⟨w1, w2, w3, w4⟩ := wf_sh hw 1 (by decide)
    refine r_aload_n dX8_write_0 rfl ?_
    refine r_iload_n dX8_write_1 rfl ?_
    refine i_cvP (c_sheetOf_1 σ) lmX8_223 dX8_write_2 (Nat.le_of_ble_eq_true rfl) rfl ⟨_, _, rfl⟩ (by decide) (by decide) rfl rfl (Nat.le_of_ble_eq_true rfl) ?_
    refine r_astore_n dX8_write_5 (Nat.le_of_ble_eq_true rfl) ?_
    refine r_iload_n dX8_write_6 rfl ?_
    refine i_csP (c_isTenth σ t ht) lmX8_122 dX8_write_7 (by decide) (by decide) rfl rfl (Nat.le_of_ble_eq_true rfl) ?_
    refine i_if_eq 17 dX8_write_10 rfl ⟨by omega, by omega⟩ (fun q10 => ?_) (fun q10 => ?_)
    · have e10 := ob_df q10
      refine i_bipush dX8_write_17 (by decide) ?_
      refine r_iret rfl dX8_write_19 ?_
      exact ⟨_, rfl, by unfold s_write; rw [if_neg (by omega)], by unfold s_write; rw [if_neg (by omega)]; exact c⟩
    · have e10 := ob_dt q10
      refine r_aload_n dX8_write_13 rfl ?_
      refine r_ifnonnull 20 dX8_write_14 rfl ?_
      refine r_aload_n dX8_write_20 rfl ?_
      refine r_get (k := 24) lfX8_227 dX8_write_21 (Nat.le_of_ble_eq_true rfl) rfl rfl ?_
      refine i_if_eq 33 dX8_write_24 rfl ⟨by omega, by omega⟩ (fun q24 => ?_) (fun q24 => ?_)
      · skip
        refine r_aload_n dX8_write_33 rfl ?_
        refine r_get (k := 24) lfX8_234 dX8_write_34 (Nat.le_of_ble_eq_true rfl) rfl rfl ?_
        refine i_sipush dX8_write_37 (by decide) ?_
        refine r_iload_n dX8_write_40 rfl ?_
        refine i_isub dX8_write_41 ?_
        refine i_mmin lmX8_212 dX8_write_42 (by decide) (Nat.le_of_ble_eq_true rfl) ⟨by omega, by omega⟩ ⟨by omega, by omega⟩ ?_
        refine r_istore dX8_write_45 (Nat.le_of_ble_eq_true rfl) ?_
        refine i_const dX8_write_47 ?_
        refine r_istore dX8_write_48 (Nat.le_of_ble_eq_true rfl) ?_
        have e1 : s_write M t 1 = (wrN M t 1, (rngM M (48 * 1) (wrN M t 1).toNat (fun k => nar (M 11 1) (hi M (t + k))))) := by unfold s_write; rw [if_pos ⟨by omega, by decide⟩, if_neg (show ¬ M 10 (1 : Int).toNat = 0 from (show ¬ M 10 1 = 0 by omega))]; rfl
        have eN : wrN M t 1 = min (M 12 1) (400 - t) := rfl
        rw [k3]
        refine Rn.mono (c_write_l_1 M σ c hw t (by omega) (by omega) (min (M 12 1) (400 - t)) rfl k2 w2 w3 (min (M 12 1) (400 - t)).toNat 0 σ (by omega) (by omega) (fun z z0 z1 => absurd z1 (by omega)) (fun _ _ _ => rfl) (fun _ _ _ => rfl)) (fun r σ1 ⟨z, g1, g2, g3, g4, g5⟩ => ⟨z, g1, by rw [g2, e1]; rfl, ?_⟩)
        rw [e1]
        dsimp only
        have F : ∀ k x, k ≠ 24 → k ≠ 25 → σ1 k x = σ k x := fun k x _ h => g5 k x h
        have E10 : ∀ v, v ≠ 1 → (rngM M (48 * 1) (wrN M t 1).toNat (fun k => nar (M 11 1) (hi M (t + k)))) 10 v = M 10 v := fun _ _ => rfl
        have E11 : ∀ v, v ≠ 1 → (rngM M (48 * 1) (wrN M t 1).toNat (fun k => nar (M 11 1) (hi M (t + k)))) 11 v = M 11 v := fun _ _ => rfl
        have E12 : ∀ v, v ≠ 1 → (rngM M (48 * 1) (wrN M t 1).toNat (fun k => nar (M 11 1) (hi M (t + k)))) 12 v = M 12 v := fun _ _ => rfl
        have E13 : ∀ v x, v ≠ 1 → x < 48 → (rngM M (48 * 1) (wrN M t 1).toNat (fun k => nar (M 11 1) (hi M (t + k)))) 13 (48 * v + x) = M 13 (48 * v + x) := fun v x hv hx => rngM_out _ _ _ _ (by omega)
        exact ic_sheet c ⟨gs1_o gh1.1 (fun i => F 22 i (by decide) (by decide)) (fun i => F 23 i (by decide) (by decide)) (E10 0 (by decide)) (E11 0 (by decide)) (E12 0 (by decide)) (fun i hi => E13 0 i (by decide) hi), ⟨(g5 _ _ (by decide)).trans k1, (g5 _ _ (by decide)).trans k2, (g5 _ _ (by decide)).trans k3, fun x hx => by
            by_cases hz : (x : Int) < min (M 12 1) (400 - t)
            · have q := g3 x (by omega) hz
              rw [show ((x : Nat) : Int).toNat = x from rfl] at q
              rw [q, rngM_in _ _ _ _ (by omega), show 48 * 1 + x - 48 * 1 = x by omega]
            · have q := g4 x (by omega) (by omega)
              rw [show ((x : Nat) : Int).toNat = x from rfl] at q
              rw [q, rngM_out _ _ _ _ (by omega)]; exact k4 x hx⟩, gs1_o gh1.2.2.1 (fun i => F 26 i (by decide) (by decide)) (fun i => F 27 i (by decide) (by decide)) (E10 2 (by decide)) (E11 2 (by decide)) (E12 2 (by decide)) (fun i hi => E13 2 i (by decide) hi), gs1_o gh1.2.2.2 (fun i => F 28 i (by decide) (by decide)) (fun i => F 29 i (by decide) (by decide)) (E10 3 (by decide)) (E11 3 (by decide)) (E12 3 (by decide)) (fun i hi => E13 3 i (by decide) hi)⟩ (fun k x h => g5 k x (by omega)) (fun k h => rngM_k _ _ _ _ (by omega))
      · skip
        refine r_aload_n dX8_write_27 rfl ?_
        refine i_const dX8_write_28 ?_
        refine i_cvI (c_find σ 1) lmX8_231 dX8_write_29 (Nat.le_of_ble_eq_true rfl) rfl ⟨_, _, rfl⟩ (by decide) (by decide) rfl rfl (Nat.le_of_ble_eq_true rfl) (fun z1 σ1 hf => ?_)
        refine r_iret rfl dX8_write_32 ?_
        obtain ⟨rfl, rfl⟩ := hf
        have e1 : s_write M t 1 = (-11, sup M 0 21 1) := by unfold s_write; rw [if_pos ⟨by omega, by decide⟩, if_pos (show M 10 (1 : Int).toNat = 0 from (show M 10 1 = 0 by omega))]
        exact ⟨_, rfl, by rw [e1]; rfl, by rw [e1]; exact ic_find c 1⟩
  · skip
    obtain ⟨k1, k2, k3, k4⟩ := gh1.2.2.1
    obtain ⟨w1, w2, w3, w4⟩ := wf_sh hw 2 (by decide)
    refine r_aload_n dX8_write_0 rfl ?_
    refine r_iload_n dX8_write_1 rfl ?_
    refine i_cvP (c_sheetOf_2 σ) lmX8_223 dX8_write_2 (Nat.le_of_ble_eq_true rfl) rfl ⟨_, _, rfl⟩ (by decide) (by decide) rfl rfl (Nat.le_of_ble_eq_true rfl) ?_
    refine r_astore_n dX8_write_5 (Nat.le_of_ble_eq_true rfl) ?_
    refine r_iload_n dX8_write_6 rfl ?_
    refine i_csP (c_isTenth σ t ht) lmX8_122 dX8_write_7 (by decide) (by decide) rfl rfl (Nat.le_of_ble_eq_true rfl) ?_
    refine i_if_eq 17 dX8_write_10 rfl ⟨by omega, by omega⟩ (fun q10 => ?_) (fun q10 => ?_)
    · have e10 := ob_df q10
      refine i_bipush dX8_write_17 (by decide) ?_
      refine r_iret rfl dX8_write_19 ?_
      exact ⟨_, rfl, by unfold s_write; rw [if_neg (by omega)], by unfold s_write; rw [if_neg (by omega)]; exact c⟩
    · have e10 := ob_dt q10
      refine r_aload_n dX8_write_13 rfl ?_
      refine r_ifnonnull 20 dX8_write_14 rfl ?_
      refine r_aload_n dX8_write_20 rfl ?_
      refine r_get (k := 26) lfX8_227 dX8_write_21 (Nat.le_of_ble_eq_true rfl) rfl rfl ?_
      refine i_if_eq 33 dX8_write_24 rfl ⟨by omega, by omega⟩ (fun q24 => ?_) (fun q24 => ?_)
      · skip
        refine r_aload_n dX8_write_33 rfl ?_
        refine r_get (k := 26) lfX8_234 dX8_write_34 (Nat.le_of_ble_eq_true rfl) rfl rfl ?_
        refine i_sipush dX8_write_37 (by decide) ?_
        refine r_iload_n dX8_write_40 rfl ?_
        refine i_isub dX8_write_41 ?_
        refine i_mmin lmX8_212 dX8_write_42 (by decide) (Nat.le_of_ble_eq_true rfl) ⟨by omega, by omega⟩ ⟨by omega, by omega⟩ ?_
        refine r_istore dX8_write_45 (Nat.le_of_ble_eq_true rfl) ?_
        refine i_const dX8_write_47 ?_
        refine r_istore dX8_write_48 (Nat.le_of_ble_eq_true rfl) ?_
        have e1 : s_write M t 2 = (wrN M t 2, (rngM M (48 * 2) (wrN M t 2).toNat (fun k => nar (M 11 2) (hi M (t + k))))) := by unfold s_write; rw [if_pos ⟨by omega, by decide⟩, if_neg (show ¬ M 10 (2 : Int).toNat = 0 from (show ¬ M 10 2 = 0 by omega))]; rfl
        have eN : wrN M t 2 = min (M 12 2) (400 - t) := rfl
        rw [k3]
        refine Rn.mono (c_write_l_2 M σ c hw t (by omega) (by omega) (min (M 12 2) (400 - t)) rfl k2 w2 w3 (min (M 12 2) (400 - t)).toNat 0 σ (by omega) (by omega) (fun z z0 z1 => absurd z1 (by omega)) (fun _ _ _ => rfl) (fun _ _ _ => rfl)) (fun r σ1 ⟨z, g1, g2, g3, g4, g5⟩ => ⟨z, g1, by rw [g2, e1]; rfl, ?_⟩)
        rw [e1]
        dsimp only
        have F : ∀ k x, k ≠ 26 → k ≠ 27 → σ1 k x = σ k x := fun k x _ h => g5 k x h
        have E10 : ∀ v, v ≠ 2 → (rngM M (48 * 2) (wrN M t 2).toNat (fun k => nar (M 11 2) (hi M (t + k)))) 10 v = M 10 v := fun _ _ => rfl
        have E11 : ∀ v, v ≠ 2 → (rngM M (48 * 2) (wrN M t 2).toNat (fun k => nar (M 11 2) (hi M (t + k)))) 11 v = M 11 v := fun _ _ => rfl
        have E12 : ∀ v, v ≠ 2 → (rngM M (48 * 2) (wrN M t 2).toNat (fun k => nar (M 11 2) (hi M (t + k)))) 12 v = M 12 v := fun _ _ => rfl
        have E13 : ∀ v x, v ≠ 2 → x < 48 → (rngM M (48 * 2) (wrN M t 2).toNat (fun k => nar (M 11 2) (hi M (t + k)))) 13 (48 * v + x) = M 13 (48 * v + x) := fun v x hv hx => rngM_out _ _ _ _ (by omega)
        exact ic_sheet c ⟨gs1_o gh1.1 (fun i => F 22 i (by decide) (by decide)) (fun i => F 23 i (by decide) (by decide)) (E10 0 (by decide)) (E11 0 (by decide)) (E12 0 (by decide)) (fun i hi => E13 0 i (by decide) hi), gs1_o gh1.2.1 (fun i => F 24 i (by decide) (by decide)) (fun i => F 25 i (by decide) (by decide)) (E10 1 (by decide)) (E11 1 (by decide)) (E12 1 (by decide)) (fun i hi => E13 1 i (by decide) hi), ⟨(g5 _ _ (by decide)).trans k1, (g5 _ _ (by decide)).trans k2, (g5 _ _ (by decide)).trans k3, fun x hx => by
            by_cases hz : (x : Int) < min (M 12 2) (400 - t)
            · have q := g3 x (by omega) hz
              rw [show ((x : Nat) : Int).toNat = x from rfl] at q
              rw [q, rngM_in _ _ _ _ (by omega), show 48 * 2 + x - 48 * 2 = x by omega]
            · have q := g4 x (by omega) (by omega)
              rw [show ((x : Nat) : Int).toNat = x from rfl] at q
              rw [q, rngM_out _ _ _ _ (by omega)]; exact k4 x hx⟩, gs1_o gh1.2.2.2 (fun i => F 28 i (by decide) (by decide)) (fun i => F 29 i (by decide) (by decide)) (E10 3 (by decide)) (E11 3 (by decide)) (E12 3 (by decide)) (fun i hi => E13 3 i (by decide) hi)⟩ (fun k x h => g5 k x (by omega)) (fun k h => rngM_k _ _ _ _ (by omega))
      · skip
        refine r_aload_n dX8_write_27 rfl ?_
        refine i_const dX8_write_28 ?_
        refine i_cvI (c_find σ 1) lmX8_231 dX8_write_29 (Nat.le_of_ble_eq_true rfl) rfl ⟨_, _, rfl⟩ (by decide) (by decide) rfl rfl (Nat.le_of_ble_eq_true rfl) (fun z1 σ1 hf => ?_)
        refine r_iret rfl dX8_write_32 ?_
        obtain ⟨rfl, rfl⟩ := hf
        have e1 : s_write M t 2 = (-11, sup M 0 21 1) := by unfold s_write; rw [if_pos ⟨by omega, by decide⟩, if_pos (show M 10 (2 : Int).toNat = 0 from (show M 10 2 = 0 by omega))]
        exact ⟨_, rfl, by rw [e1]; rfl, by rw [e1]; exact ic_find c 1⟩
  · skip
    obtain ⟨k1, k2, k3, k4⟩ := gh1.2.2.2
    obtain ⟨w1, w2, w3, w4⟩ := wf_sh hw 3 (by decide)
    refine r_aload_n dX8_write_0 rfl ?_
    refine r_iload_n dX8_write_1 rfl ?_
    refine i_cvP (c_sheetOf_3 σ) lmX8_223 dX8_write_2 (Nat.le_of_ble_eq_true rfl) rfl ⟨_, _, rfl⟩ (by decide) (by decide) rfl rfl (Nat.le_of_ble_eq_true rfl) ?_
    refine r_astore_n dX8_write_5 (Nat.le_of_ble_eq_true rfl) ?_
    refine r_iload_n dX8_write_6 rfl ?_
    refine i_csP (c_isTenth σ t ht) lmX8_122 dX8_write_7 (by decide) (by decide) rfl rfl (Nat.le_of_ble_eq_true rfl) ?_
    refine i_if_eq 17 dX8_write_10 rfl ⟨by omega, by omega⟩ (fun q10 => ?_) (fun q10 => ?_)
    · have e10 := ob_df q10
      refine i_bipush dX8_write_17 (by decide) ?_
      refine r_iret rfl dX8_write_19 ?_
      exact ⟨_, rfl, by unfold s_write; rw [if_neg (by omega)], by unfold s_write; rw [if_neg (by omega)]; exact c⟩
    · have e10 := ob_dt q10
      refine r_aload_n dX8_write_13 rfl ?_
      refine r_ifnonnull 20 dX8_write_14 rfl ?_
      refine r_aload_n dX8_write_20 rfl ?_
      refine r_get (k := 28) lfX8_227 dX8_write_21 (Nat.le_of_ble_eq_true rfl) rfl rfl ?_
      refine i_if_eq 33 dX8_write_24 rfl ⟨by omega, by omega⟩ (fun q24 => ?_) (fun q24 => ?_)
      · skip
        refine r_aload_n dX8_write_33 rfl ?_
        refine r_get (k := 28) lfX8_234 dX8_write_34 (Nat.le_of_ble_eq_true rfl) rfl rfl ?_
        refine i_sipush dX8_write_37 (by decide) ?_
        refine r_iload_n dX8_write_40 rfl ?_
        refine i_isub dX8_write_41 ?_
        refine i_mmin lmX8_212 dX8_write_42 (by decide) (Nat.le_of_ble_eq_true rfl) ⟨by omega, by omega⟩ ⟨by omega, by omega⟩ ?_
        refine r_istore dX8_write_45 (Nat.le_of_ble_eq_true rfl) ?_
        refine i_const dX8_write_47 ?_
        refine r_istore dX8_write_48 (Nat.le_of_ble_eq_true rfl) ?_
        have e1 : s_write M t 3 = (wrN M t 3, (rngM M (48 * 3) (wrN M t 3).toNat (fun k => nar (M 11 3) (hi M (t + k))))) := by unfold s_write; rw [if_pos ⟨by omega, by decide⟩, if_neg (show ¬ M 10 (3 : Int).toNat = 0 from (show ¬ M 10 3 = 0 by omega))]; rfl
        have eN : wrN M t 3 = min (M 12 3) (400 - t) := rfl
        rw [k3]
        refine Rn.mono (c_write_l_3 M σ c hw t (by omega) (by omega) (min (M 12 3) (400 - t)) rfl k2 w2 w3 (min (M 12 3) (400 - t)).toNat 0 σ (by omega) (by omega) (fun z z0 z1 => absurd z1 (by omega)) (fun _ _ _ => rfl) (fun _ _ _ => rfl)) (fun r σ1 ⟨z, g1, g2, g3, g4, g5⟩ => ⟨z, g1, by rw [g2, e1]; rfl, ?_⟩)
        rw [e1]
        dsimp only
        have F : ∀ k x, k ≠ 28 → k ≠ 29 → σ1 k x = σ k x := fun k x _ h => g5 k x h
        have E10 : ∀ v, v ≠ 3 → (rngM M (48 * 3) (wrN M t 3).toNat (fun k => nar (M 11 3) (hi M (t + k)))) 10 v = M 10 v := fun _ _ => rfl
        have E11 : ∀ v, v ≠ 3 → (rngM M (48 * 3) (wrN M t 3).toNat (fun k => nar (M 11 3) (hi M (t + k)))) 11 v = M 11 v := fun _ _ => rfl
        have E12 : ∀ v, v ≠ 3 → (rngM M (48 * 3) (wrN M t 3).toNat (fun k => nar (M 11 3) (hi M (t + k)))) 12 v = M 12 v := fun _ _ => rfl
        have E13 : ∀ v x, v ≠ 3 → x < 48 → (rngM M (48 * 3) (wrN M t 3).toNat (fun k => nar (M 11 3) (hi M (t + k)))) 13 (48 * v + x) = M 13 (48 * v + x) := fun v x hv hx => rngM_out _ _ _ _ (by omega)
        exact ic_sheet c ⟨gs1_o gh1.1 (fun i => F 22 i (by decide) (by decide)) (fun i => F 23 i (by decide) (by decide)) (E10 0 (by decide)) (E11 0 (by decide)) (E12 0 (by decide)) (fun i hi => E13 0 i (by decide) hi), gs1_o gh1.2.1 (fun i => F 24 i (by decide) (by decide)) (fun i => F 25 i (by decide) (by decide)) (E10 1 (by decide)) (E11 1 (by decide)) (E12 1 (by decide)) (fun i hi => E13 1 i (by decide) hi), gs1_o gh1.2.2.1 (fun i => F 26 i (by decide) (by decide)) (fun i => F 27 i (by decide) (by decide)) (E10 2 (by decide)) (E11 2 (by decide)) (E12 2 (by decide)) (fun i hi => E13 2 i (by decide) hi), ⟨(g5 _ _ (by decide)).trans k1, (g5 _ _ (by decide)).trans k2, (g5 _ _ (by decide)).trans k3, fun x hx => by
            by_cases hz : (x : Int) < min (M 12 3) (400 - t)
            · have q := g3 x (by omega) hz
              rw [show ((x : Nat) : Int).toNat = x from rfl] at q
              rw [q, rngM_in _ _ _ _ (by omega), show 48 * 3 + x - 48 * 3 = x by omega]
            · have q := g4 x (by omega) (by omega)
              rw [show ((x : Nat) : Int).toNat = x from rfl] at q
              rw [q, rngM_out _ _ _ _ (by omega)]; exact k4 x hx⟩⟩ (fun k x h => g5 k x (by omega)) (fun k h => rngM_k _ _ _ _ (by omega))
      · skip
        refine r_aload_n dX8_write_27 rfl ?_
        refine i_const dX8_write_28 ?_
        refine i_cvI (c_find σ 1) lmX8_231 dX8_write_29 (Nat.le_of_ble_eq_true rfl) rfl ⟨_, _, rfl⟩ (by decide) (by decide) rfl rfl (Nat.le_of_ble_eq_true rfl) (fun z1 σ1 hf => ?_)
        refine r_iret rfl dX8_write_32 ?_
        obtain ⟨rfl, rfl⟩ := hf
        have e1 : s_write M t 3 = (-11, sup M 0 21 1) := by unfold s_write; rw [if_pos ⟨by omega, by decide⟩, if_pos (show M 10 (3 : Int).toNat = 0 from (show M 10 3 = 0 by omega))]
        exact ⟨_, rfl, by rw [e1]; rfl, by rw [e1]; exact ic_find c 1⟩
  · skip
    skip
    refine r_aload_n dX8_write_0 rfl ?_
    refine r_iload_n dX8_write_1 rfl ?_
    refine i_cvP (c_sheetOf_n σ s hs n0) lmX8_223 dX8_write_2 (Nat.le_of_ble_eq_true rfl) rfl ⟨_, _, rfl⟩ (by decide) (by decide) rfl rfl (Nat.le_of_ble_eq_true rfl) ?_
    refine r_astore_nN dX8_write_5 (Nat.le_of_ble_eq_true rfl) ?_
    refine r_iload_n dX8_write_6 rfl ?_
    refine i_csP (c_isTenth σ t ht) lmX8_122 dX8_write_7 (by decide) (by decide) rfl rfl (Nat.le_of_ble_eq_true rfl) ?_
    refine i_if_eq 17 dX8_write_10 rfl ⟨by omega, by omega⟩ (fun q10 => ?_) (fun q10 => ?_)
    · have e10 := ob_df q10
      refine i_bipush dX8_write_17 (by decide) ?_
      refine r_iret rfl dX8_write_19 ?_
      exact ⟨_, rfl, by unfold s_write; rw [if_neg (by omega)], by unfold s_write; rw [if_neg (by omega)]; exact c⟩
    · have e10 := ob_dt q10
      refine r_aload_nN dX8_write_13 rfl ?_
      refine r_ifnonnullN dX8_write_14 ?_
      refine i_bipush dX8_write_17 (by decide) ?_
      refine r_iret rfl dX8_write_19 ?_
      exact ⟨_, rfl, by unfold s_write; rw [if_neg (by omega)], by unfold s_write; rw [if_neg (by omega)]; exact c⟩
