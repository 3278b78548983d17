/-! the sea made anew -/
def cut (a m t z : Int) : Int := if a ≤ t ∧ t < a + m then z / 2 else z
def alo (H P : Int → Int) (l s t : Int) : Int := H s * tri ((t + P s) % l) l
theorem rawU_s (H L P : Int → Int) (t : Int) (n : Nat) : rawU H L P t (n + 1) = rawU H L P t n + alo H P (L n) n t := rfl
/-- heights, lengths, begins of N swells -/
def SW (N : Int) (H L P : Int → Int) : Prop := 0 ≤ N ∧ N ≤ 6 ∧ ∀ s : Int, 0 ≤ s → s < 6 → (0 ≤ H s ∧ H s ≤ 9) ∧ (s < N → 2 ≤ L s ∧ L s ≤ 99) ∧ 0 ≤ P s ∧ P s ≤ 98
theorem alo_bd {H P : Int → Int} {l s t : Int} (hH : 0 ≤ H s ∧ H s ≤ 9) (hP : 0 ≤ P s) (hl : 2 ≤ l ∧ l ≤ 99) (ht : 0 ≤ t) : 0 ≤ alo H P l s t ∧ alo H P l s t ≤ 441 := by
  have h1 := Int.emod_nonneg (t + P s) (show l ≠ 0 by omega)
  have h2 := Int.emod_lt_of_pos (t + P s) (show 0 < l by omega)
  unfold alo
  have h3 : 0 ≤ tri ((t + P s) % l) l ∧ tri ((t + P s) % l) l ≤ 49 := by unfold tri; omega
  refine ⟨Int.mul_nonneg hH.1 h3.1, ?_⟩
  have h4 := Int.mul_le_mul hH.2 h3.2 h3.1 (by decide : (0 : Int) ≤ 9)
  omega
theorem rawU_bd {N : Int} {H L P : Int → Int} (h : SW N H L P) (t : Int) (ht : 0 ≤ t) : ∀ n : Nat, (n : Int) ≤ N → 0 ≤ rawU H L P t n ∧ rawU H L P t n ≤ 441 * n
  | 0, _ => by simp [rawU]
  | n + 1, hn => by
    have i1 := rawU_bd h t ht n (by omega)
    obtain ⟨h1, h2, h3⟩ := h.2.2 n (by omega) (by have := h.2.1; omega)
    have i2 := alo_bd (P := P) (t := t) h1 h3.1 (h2 (by omega)) ht
    rw [rawU_s]
    omega

set_option maxRecDepth 20000 in
theorem c_cutByLee (σ : rl_S) (a0 : 0 ≤ σ 9 4 ∧ σ 9 4 ≤ 399) (m0 : 0 ≤ σ 9 5 ∧ σ 9 5 ≤ 399) (t z : Int) (h0 : 0 ≤ t) (h1 : t < 400) (z0 : 0 ≤ z) (z1 : z < 1000000) : Ct cW mX2_cutByLee [.ref 9, .int (iI t), .int (iI z)] σ (pR (.int (iI (cut (σ 9 4) (σ 9 5) t z))) σ) := by
  refine Ct.of plX2 (Nat.le_of_ble_eq_true rfl) ?_
  refine r_iload_n dX2_cutByLee_0 rfl ?_
  refine r_aload_n dX2_cutByLee_1 rfl ?_
  refine r_get (k := 9) lfX2_28 dX2_cutByLee_2 (Nat.le_of_ble_eq_true rfl) rfl rfl ?_
  refine i_icmp_lt 25 dX2_cutByLee_5 rfl ⟨by omega, by omega⟩ ⟨by omega, by omega⟩ (fun q5 => ?_) (fun q5 => ?_)
  · skip
    refine i_const dX2_cutByLee_25 ?_
    refine r_istore_n dX2_cutByLee_26 (Nat.le_of_ble_eq_true rfl) ?_
    refine r_iload_n dX2_cutByLee_27 rfl ?_
    refine i_if_eq 37 dX2_cutByLee_28 rfl ⟨by omega, by omega⟩ (fun q28 => ?_) (fun q28 => ?_)
    · skip
      refine r_iload_n dX2_cutByLee_37 rfl ?_
      refine r_iret rfl dX2_cutByLee_38 ?_
      first
        | exact ⟨by unfold cut; rw [if_pos (by omega)], rfl⟩
        | exact ⟨by unfold cut; rw [if_neg (by omega)], rfl⟩
    · exfalso
      omega
  · skip
    refine r_iload_n dX2_cutByLee_8 rfl ?_
    refine r_aload_n dX2_cutByLee_9 rfl ?_
    refine r_get (k := 9) lfX2_28 dX2_cutByLee_10 (Nat.le_of_ble_eq_true rfl) rfl rfl ?_
    refine i_isub dX2_cutByLee_13 ?_
    refine r_aload_n dX2_cutByLee_14 rfl ?_
    refine r_get (k := 9) lfX2_32 dX2_cutByLee_15 (Nat.le_of_ble_eq_true rfl) rfl rfl ?_
    refine i_icmp_ge 25 dX2_cutByLee_18 rfl ⟨by omega, by omega⟩ ⟨by omega, by omega⟩ (fun q18 => ?_) (fun q18 => ?_)
    · skip
      refine i_const dX2_cutByLee_25 ?_
      refine r_istore_n dX2_cutByLee_26 (Nat.le_of_ble_eq_true rfl) ?_
      refine r_iload_n dX2_cutByLee_27 rfl ?_
      refine i_if_eq 37 dX2_cutByLee_28 rfl ⟨by omega, by omega⟩ (fun q28 => ?_) (fun q28 => ?_)
      · skip
        refine r_iload_n dX2_cutByLee_37 rfl ?_
        refine r_iret rfl dX2_cutByLee_38 ?_
        first
          | exact ⟨by unfold cut; rw [if_pos (by omega)], rfl⟩
          | exact ⟨by unfold cut; rw [if_neg (by omega)], rfl⟩
      · exfalso
        omega
    · skip
      refine i_const dX2_cutByLee_21 ?_
      refine r_goto 26 dX2_cutByLee_22 rfl ?_
      refine r_istore_n dX2_cutByLee_26 (Nat.le_of_ble_eq_true rfl) ?_
      refine r_iload_n dX2_cutByLee_27 rfl ?_
      refine i_if_eq 37 dX2_cutByLee_28 rfl ⟨by omega, by omega⟩ (fun q28 => ?_) (fun q28 => ?_)
      · exfalso
        omega
      · skip
        refine r_iload_n dX2_cutByLee_31 rfl ?_
        refine i_const dX2_cutByLee_32 ?_
        refine i_idiv dX2_cutByLee_33 ⟨by omega, by omega⟩ ⟨by omega, by omega⟩ ?_
        refine r_goto 38 dX2_cutByLee_34 rfl ?_
        refine r_iret rfl dX2_cutByLee_38 ?_
        first
          | exact ⟨by unfold cut; rw [if_pos (by omega)], rfl⟩
          | exact ⟨by unfold cut; rw [if_neg (by omega)], rfl⟩

set_option maxRecDepth 20000 in
theorem c_alone (σ : rl_S) (H P : Int → Int) (hH : S6 3 σ H) (hP : S6 10 σ P) (s l t : Int) (s0 : 0 ≤ s) (s1 : s < 6) (l0 : 2 ≤ l) (l1 : l ≤ 99) (t0 : 0 ≤ t) (t1 : t < 400) (p0 : 0 ≤ P s ∧ P s ≤ 98) : Ct cW mX2_alone [.ref 9, .int (iI s), .int (iI l), .int (iI t)] σ (pR (.int (iI (alo H P l s t))) σ) := by
  refine Ct.of plX2 (Nat.le_of_ble_eq_true rfl) ?_
  refine r_iload_n dX2_alone_0 rfl ?_
  refine i_const dX2_alone_1 ?_
  refine i_icmp_ge 7 dX2_alone_2 rfl ⟨by omega, by omega⟩ ⟨by omega, by omega⟩ (fun q2 => ?_) (fun q2 => ?_)
  · skip
    refine r_iload_n dX2_alone_7 rfl ?_
    refine r_aload_n dX2_alone_8 rfl ?_
    refine r_iload_n dX2_alone_9 rfl ?_
    refine i_cvP (c_beginOf σ P hP s s0 s1) lmX2_52 dX2_alone_10 (Nat.le_of_ble_eq_true rfl) rfl ⟨_, _, rfl⟩ (by decide) (by decide) rfl rfl (Nat.le_of_ble_eq_true rfl) ?_
    refine i_iadd dX2_alone_13 ?_
    refine r_iload_n dX2_alone_14 rfl ?_
    refine i_irem dX2_alone_15 ⟨by omega, by omega⟩ ⟨by omega, by omega⟩ ?_
    have h1 := Int.emod_nonneg (t + P s) (show l ≠ 0 by omega)
    have h2 := Int.emod_lt_of_pos (t + P s) (show 0 < l by omega)
    refine r_istore dX2_alone_16 (Nat.le_of_ble_eq_true rfl) ?_
    refine r_aload_n dX2_alone_18 rfl ?_
    refine r_get (k := 9) lfX2_21 dX2_alone_19 (Nat.le_of_ble_eq_true rfl) rfl rfl ?_
    refine r_iload_n dX2_alone_22 rfl ?_
    refine i_cvP (c_heightOf_1 σ H hH s s0 s1) lmX2_55 dX2_alone_23 (Nat.le_of_ble_eq_true rfl) rfl ⟨_, _, rfl⟩ (by decide) (by decide) rfl rfl (Nat.le_of_ble_eq_true rfl) ?_
    refine r_iload dX2_alone_26 rfl ?_
    refine r_iload_n dX2_alone_28 rfl ?_
    refine r_iload dX2_alone_29 rfl ?_
    refine i_isub dX2_alone_31 ?_
    refine i_mmin lmX2_58 dX2_alone_32 (by decide) (Nat.le_of_ble_eq_true rfl) ⟨by omega, by omega⟩ ⟨by omega, by omega⟩ ?_
    refine i_imul dX2_alone_35 ?_
    refine r_iret rfl dX2_alone_36 ?_
    exact ⟨rfl, rfl⟩
  · exfalso
    omega

set_option maxRecDepth 20000 in
theorem c_heightWith (σ : rl_S) (H L P : Int → Int) (hH : S6 3 σ H) (hP : S6 10 σ P) (hL : S6 4 σ L) (r : Int → Int) (hr : SR σ r) (a0 : 0 ≤ σ 9 4 ∧ σ 9 4 ≤ 399) (m0 : 0 ≤ σ 9 5 ∧ σ 9 5 ≤ 399) (s l t : Int) (s0 : 0 ≤ s) (s1 : s < 6) (l0 : 2 ≤ l) (l1 : l ≤ 99) (L0 : 2 ≤ L s ∧ L s ≤ 99) (t0 : 0 ≤ t) (t1 : t < 400) (p0 : 0 ≤ P s ∧ P s ≤ 98) (z0 : 0 ≤ r t - alo H P (L s) s t + alo H P l s t) (z1 : r t - alo H P (L s) s t + alo H P l s t < 1000000) : Ct cW mX2_heightWith [.ref 9, .int (iI s), .int (iI l), .int (iI t)] σ (pR (.int (iI (cut (σ 9 4) (σ 9 5) t (r t - alo H P (L s) s t + alo H P l s t)))) σ) := by
  refine Ct.of plX2 (Nat.le_of_ble_eq_true rfl) ?_
  refine r_aload_n dX2_heightWith_0 rfl ?_
  refine r_iload_n dX2_heightWith_1 rfl ?_
  refine i_cvP (c_heightWithoutLee σ r hr t t0 t1) lmX2_63 dX2_heightWith_2 (Nat.le_of_ble_eq_true rfl) rfl ⟨_, _, rfl⟩ (by decide) (by decide) rfl rfl (Nat.le_of_ble_eq_true rfl) ?_
  refine r_aload_n dX2_heightWith_5 rfl ?_
  refine r_iload_n dX2_heightWith_6 rfl ?_
  refine r_aload_n dX2_heightWith_7 rfl ?_
  refine r_get (k := 9) lfX2_21 dX2_heightWith_8 (Nat.le_of_ble_eq_true rfl) rfl rfl ?_
  refine r_iload_n dX2_heightWith_11 rfl ?_
  refine i_cvP (c_lengthOf_1 σ L hL s s0 s1) lmX2_40 dX2_heightWith_12 (Nat.le_of_ble_eq_true rfl) rfl ⟨_, _, rfl⟩ (by decide) (by decide) rfl rfl (Nat.le_of_ble_eq_true rfl) ?_
  refine r_iload_n dX2_heightWith_15 rfl ?_
  refine i_cvP (c_alone σ H P hH hP s (L s) t s0 s1 L0.1 L0.2 t0 t1 p0) lmX2_44 dX2_heightWith_16 (Nat.le_of_ble_eq_true rfl) rfl ⟨_, _, rfl⟩ (by decide) (by decide) rfl rfl (Nat.le_of_ble_eq_true rfl) ?_
  refine i_isub dX2_heightWith_19 ?_
  refine r_istore dX2_heightWith_20 (Nat.le_of_ble_eq_true rfl) ?_
  refine r_aload_n dX2_heightWith_22 rfl ?_
  refine r_iload_n dX2_heightWith_23 rfl ?_
  refine r_iload dX2_heightWith_24 rfl ?_
  refine r_aload_n dX2_heightWith_26 rfl ?_
  refine r_iload_n dX2_heightWith_27 rfl ?_
  refine r_iload_n dX2_heightWith_28 rfl ?_
  refine r_iload_n dX2_heightWith_29 rfl ?_
  refine i_cvP (c_alone σ H P hH hP s l t s0 s1 l0 l1 t0 t1 p0) lmX2_44 dX2_heightWith_30 (Nat.le_of_ble_eq_true rfl) rfl ⟨_, _, rfl⟩ (by decide) (by decide) rfl rfl (Nat.le_of_ble_eq_true rfl) ?_
  refine i_iadd dX2_heightWith_33 ?_
  refine i_cvP (c_cutByLee σ a0 m0 t _ t0 t1 z0 z1) lmX2_48 dX2_heightWith_34 (Nat.le_of_ble_eq_true rfl) rfl ⟨_, _, rfl⟩ (by decide) (by decide) rfl rfl (Nat.le_of_ble_eq_true rfl) ?_
  refine r_iret rfl dX2_heightWith_37 ?_
  exact ⟨rfl, rfl⟩

/-- what making the sea anew does -/
def ren (σ : rl_S) (N : Int) (H L P : Int → Int) : rl_S → Prop := fun σ2 => SR σ2 (fun t => rawU H L P t N.toNat) ∧ SH σ2 (hiF (fun t => rawU H L P t N.toNat) (σ 9 4) (σ 9 5)) ∧ ∀ k i, k ≠ 11 → k ≠ 12 → σ2 k i = σ k i
def fr11 (σ σ2 : rl_S) : Prop := ∀ k i, k ≠ 11 → σ2 k i = σ k i
def fr12 (σ σ2 : rl_S) : Prop := ∀ k i, k ≠ 11 → k ≠ 12 → σ2 k i = σ k i
theorem c_renew_3 (σ : rl_S) (N : Int) (H L P : Int → Int) (hw : SW N H L P) (hN : σ 1 7 = N) (hH : S6 3 σ H) (hL : S6 4 σ L) (hP : S6 10 σ P) (a0 : 0 ≤ σ 9 4 ∧ σ 9 4 ≤ 399) (m0 : 0 ≤ σ 9 5 ∧ σ 9 5 ≤ 399) : ∀ (n : Nat) (k : Int) (l2 l3 : Value) (σ2 : rl_S), 0 ≤ k → k + n = 400 → SR σ2 (fun t => rawU H L P t N.toNat) → (∀ z : Int, 0 ≤ z → z < k → σ2 12 z.toNat = hiF (fun t => rawU H L P t N.toNat) (σ 9 4) (σ 9 5) z) → fr12 σ σ2 → Rn cW mX2_renew 87 [.ref 9, .int (iI k), l2, l3] [] σ2 (qV (ren σ N H L P)) := by
  intro n
  induction n with
  | zero =>
    intro k l2 l3 σ2 h0 hk hr hh hf
    refine r_iload_n dX2_renew_87 rfl ?_
    refine r_aload_n dX2_renew_88 rfl ?_
    refine r_get (k := 9) lfX2_18 dX2_renew_89 (Nat.le_of_ble_eq_true rfl) rfl rfl ?_
    refine i_alen (k := 12) dX2_renew_92 (Nat.le_of_ble_eq_true rfl) rfl rfl ?_
    refine i_icmp_ge 128 dX2_renew_93 rfl ⟨by omega, by omega⟩ ⟨by omega, by omega⟩ (fun q93 => ?_) (fun q93 => ?_)
    · skip
      refine r_vret rfl dX2_renew_128 ?_
      exact ⟨rfl, hr, fun z z0 z1 => hh z z0 (by omega), hf⟩
    · exfalso
      omega
  | succ n ih =>
    intro k l2 l3 σ2 h0 hk hr hh hf
    have hb := rawU_bd hw k h0 N.toNat (by have := hw.1; omega)
    have hN6 := hw.2.1
    have e4 : σ2 9 4 = σ 9 4 := hf 9 4 (by decide) (by decide)
    have e5 : σ2 9 5 = σ 9 5 := hf 9 5 (by decide) (by decide)
    refine r_iload_n dX2_renew_87 rfl ?_
    refine r_aload_n dX2_renew_88 rfl ?_
    refine r_get (k := 9) lfX2_18 dX2_renew_89 (Nat.le_of_ble_eq_true rfl) rfl rfl ?_
    refine i_alen (k := 12) dX2_renew_92 (Nat.le_of_ble_eq_true rfl) rfl rfl ?_
    refine i_icmp_ge 128 dX2_renew_93 rfl ⟨by omega, by omega⟩ ⟨by omega, by omega⟩ (fun q93 => ?_) (fun q93 => ?_)
    · exfalso
      omega
    · skip
      refine r_iload_n dX2_renew_96 rfl ?_
      refine r_aload_n dX2_renew_97 rfl ?_
      refine r_get (k := 9) lfX2_15 dX2_renew_98 (Nat.le_of_ble_eq_true rfl) rfl rfl ?_
      refine i_alen (k := 11) dX2_renew_101 (Nat.le_of_ble_eq_true rfl) rfl rfl ?_
      refine i_icmp_ge 128 dX2_renew_102 rfl ⟨by omega, by omega⟩ ⟨by omega, by omega⟩ (fun q102 => ?_) (fun q102 => ?_)
      · exfalso
        omega
      · skip
        refine r_aload_n dX2_renew_105 rfl ?_
        refine r_get (k := 9) lfX2_18 dX2_renew_106 (Nat.le_of_ble_eq_true rfl) rfl rfl ?_
        refine r_iload_n dX2_renew_109 rfl ?_
        refine r_aload_n dX2_renew_110 rfl ?_
        refine r_iload_n dX2_renew_111 rfl ?_
        refine r_aload_n dX2_renew_112 rfl ?_
        refine r_get (k := 9) lfX2_15 dX2_renew_113 (Nat.le_of_ble_eq_true rfl) rfl rfl ?_
        refine r_iload_n dX2_renew_116 rfl ?_
        refine i_ald (k := 11) dX2_renew_117 (Nat.le_of_ble_eq_true rfl) rfl rfl ⟨by omega, by omega⟩ (by decide) ?_
        rw [show σ2 11 k.toNat = rawU H L P k N.toNat from hr k h0 (by omega)]
        refine i_cvP (c_cutByLee σ2 (by rw [e4]; exact a0) (by rw [e5]; exact m0) k (rawU H L P k N.toNat) h0 (by omega) (by omega) (by omega)) lmX2_48 dX2_renew_118 (Nat.le_of_ble_eq_true rfl) rfl ⟨_, _, rfl⟩ (by decide) (by decide) rfl rfl (Nat.le_of_ble_eq_true rfl) ?_
        refine i_ast (k := 12) dX2_renew_121 (Nat.le_of_ble_eq_true rfl) rfl rfl ⟨by omega, by omega⟩ (by decide) ?_
        refine i_iinc dX2_renew_122 rfl (Nat.le_of_ble_eq_true rfl) ?_
        refine r_goto 87 dX2_renew_125 rfl ?_
        exact ih (k + 1) _ _ _ (by omega) (by omega) (fun z z0 z1 => (sup_k _ _ _ _ _ (by decide)).trans (hr z z0 z1)) (row_up hh h0 (by rw [e4, e5]; rfl)) (fun a i g1 g2 => (sup_k _ _ _ _ _ g2).trans (hf a i g1 g2))

theorem c_renew_in (σ : rl_S) (N : Int) (H L P : Int → Int) (hw : SW N H L P) (hN : σ 1 7 = N) (hH : S6 3 σ H) (hL : S6 4 σ L) (hP : S6 10 σ P) (a0 : 0 ≤ σ 9 4 ∧ σ 9 4 ≤ 399) (m0 : 0 ≤ σ 9 5 ∧ σ 9 5 ≤ 399) (s : Nat) (hs : (s : Int) < N) (Post : Option Value → rl_S → Prop) (K : ∀ (l3 : Value) (σ3 : rl_S), (∀ z : Int, 0 ≤ z → z < 400 → σ3 11 z.toNat = rawU H L P z (s + 1)) → fr11 σ σ3 → Rn cW mX2_renew 79 [.ref 9, .int (iI s), .int (iI (L s)), l3] [] σ3 Post) : ∀ (n : Nat) (k : Int) (σ2 : rl_S), 0 ≤ k → k + n = 400 → (∀ z : Int, 0 ≤ z → z < k → σ2 11 z.toNat = rawU H L P z (s + 1)) → (∀ z : Int, k ≤ z → z < 400 → σ2 11 z.toNat = rawU H L P z s) → fr11 σ σ2 → Rn cW mX2_renew 48 [.ref 9, .int (iI s), .int (iI (L s)), .int (iI k)] [] σ2 Post := by
  intro n
  induction n with
  | zero =>
    intro k σ2 h0 hk e1 e2 hf
    refine r_iload_n dX2_renew_48 rfl ?_
    refine r_aload_n dX2_renew_49 rfl ?_
    refine r_get (k := 9) lfX2_15 dX2_renew_50 (Nat.le_of_ble_eq_true rfl) rfl rfl ?_
    refine i_alen (k := 11) dX2_renew_53 (Nat.le_of_ble_eq_true rfl) rfl rfl ?_
    refine i_icmp_ge 79 dX2_renew_54 rfl ⟨by omega, by omega⟩ ⟨by omega, by omega⟩ (fun q54 => ?_) (fun q54 => ?_)
    · skip
      exact K _ σ2 (fun z z0 z1 => e1 z z0 (by omega)) hf
    · exfalso
      omega
  | succ n ih =>
    intro k σ2 h0 hk e1 e2 hf
    have hN6 := hw.2.1
    obtain ⟨b1, b2, b3⟩ := hw.2.2 s (by omega) (by omega)
    have b2 := b2 hs
    refine r_iload_n dX2_renew_48 rfl ?_
    refine r_aload_n dX2_renew_49 rfl ?_
    refine r_get (k := 9) lfX2_15 dX2_renew_50 (Nat.le_of_ble_eq_true rfl) rfl rfl ?_
    refine i_alen (k := 11) dX2_renew_53 (Nat.le_of_ble_eq_true rfl) rfl rfl ?_
    refine i_icmp_ge 79 dX2_renew_54 rfl ⟨by omega, by omega⟩ ⟨by omega, by omega⟩ (fun q54 => ?_) (fun q54 => ?_)
    · exfalso
      omega
    · skip
      refine r_aload_n dX2_renew_57 rfl ?_
      refine r_get (k := 9) lfX2_15 dX2_renew_58 (Nat.le_of_ble_eq_true rfl) rfl rfl ?_
      refine r_iload_n dX2_renew_61 rfl ?_
      refine r_dup2 dX2_renew_62 rfl rfl ?_
      refine i_ald (k := 11) dX2_renew_63 (Nat.le_of_ble_eq_true rfl) rfl rfl ⟨by omega, by omega⟩ (by decide) ?_
      rw [e2 k (by omega) (by omega)]
      refine r_aload_n dX2_renew_64 rfl ?_
      refine r_iload_n dX2_renew_65 rfl ?_
      refine r_iload_n dX2_renew_66 rfl ?_
      refine r_iload_n dX2_renew_67 rfl ?_
      refine i_cvP (c_alone σ2 H P (fun z z0 z1 => (hf 3 _ (by decide)).trans (hH z z0 z1)) (fun z z0 z1 => (hf 10 _ (by decide)).trans (hP z z0 z1)) s (L s) k (by omega) (by omega) b2.1 b2.2 h0 (by omega) b3) lmX2_44 dX2_renew_68 (Nat.le_of_ble_eq_true rfl) rfl ⟨_, _, rfl⟩ (by decide) (by decide) rfl rfl (Nat.le_of_ble_eq_true rfl) ?_
      refine i_iadd dX2_renew_71 ?_
      refine i_ast (k := 11) dX2_renew_72 (Nat.le_of_ble_eq_true rfl) rfl rfl ⟨by omega, by omega⟩ (by decide) ?_
      refine i_iinc dX2_renew_73 rfl (Nat.le_of_ble_eq_true rfl) ?_
      refine r_goto 48 dX2_renew_76 rfl ?_
      exact ih (k + 1) _ (by omega) (by omega) (row_up e1 h0 (rawU_s H L P k s).symm) (fun z z0 z1 => (sup_i _ _ _ _ (by omega)).trans (e2 z (by omega) z1)) (fun a i g1 => (sup_k _ _ _ _ _ g1).trans (hf a i g1))

theorem c_renew_2 (σ : rl_S) (N : Int) (H L P : Int → Int) (hw : SW N H L P) (hN : σ 1 7 = N) (hH : S6 3 σ H) (hL : S6 4 σ L) (hP : S6 10 σ P) (a0 : 0 ≤ σ 9 4 ∧ σ 9 4 ≤ 399) (m0 : 0 ≤ σ 9 5 ∧ σ 9 5 ≤ 399) : ∀ (n : Nat) (s : Nat) (l2 l3 : Value) (σ2 : rl_S), (s : Int) + n = N → (∀ z : Int, 0 ≤ z → z < 400 → σ2 11 z.toNat = rawU H L P z s) → fr11 σ σ2 → Rn cW mX2_renew 26 [.ref 9, .int (iI s), l2, l3] [] σ2 (qV (ren σ N H L P)) := by
  intro n
  induction n with
  | zero =>
    intro s l2 l3 σ2 hs e1 hf
    have hN6 := hw.2.1
    refine r_iload_n dX2_renew_26 rfl ?_
    refine r_aload_n dX2_renew_27 rfl ?_
    refine r_get (k := 9) lfX2_21 dX2_renew_28 (Nat.le_of_ble_eq_true rfl) rfl rfl ?_
    refine r_get (k := 1) lfX2_35 dX2_renew_31 (Nat.le_of_ble_eq_true rfl) rfl rfl ?_
    rw [hf 1 7 (by decide), hN]
    refine i_icmp_ge 85 dX2_renew_34 rfl ⟨by omega, by omega⟩ ⟨by omega, by omega⟩ (fun q34 => ?_) (fun q34 => ?_)
    · skip
      refine i_const dX2_renew_85 ?_
      refine r_istore_n dX2_renew_86 (Nat.le_of_ble_eq_true rfl) ?_
      exact c_renew_3 σ N H L P hw hN hH hL hP a0 m0 400 0 _ _ σ2 (by omega) (by omega) (fun z z0 z1 => by rw [e1 z z0 z1, show N.toNat = s by omega]) (fun z z0 z1 => absurd z1 (by omega)) (fun a i g1 _ => hf a i g1)
    · exfalso
      omega
  | succ n ih =>
    intro s l2 l3 σ2 hs e1 hf
    have hN6 := hw.2.1
    refine r_iload_n dX2_renew_26 rfl ?_
    refine r_aload_n dX2_renew_27 rfl ?_
    refine r_get (k := 9) lfX2_21 dX2_renew_28 (Nat.le_of_ble_eq_true rfl) rfl rfl ?_
    refine r_get (k := 1) lfX2_35 dX2_renew_31 (Nat.le_of_ble_eq_true rfl) rfl rfl ?_
    rw [hf 1 7 (by decide), hN]
    refine i_icmp_ge 85 dX2_renew_34 rfl ⟨by omega, by omega⟩ ⟨by omega, by omega⟩ (fun q34 => ?_) (fun q34 => ?_)
    · exfalso
      omega
    · skip
      refine r_aload_n dX2_renew_37 rfl ?_
      refine r_get (k := 9) lfX2_21 dX2_renew_38 (Nat.le_of_ble_eq_true rfl) rfl rfl ?_
      refine r_iload_n dX2_renew_41 rfl ?_
      refine i_cvP (c_lengthOf_1 σ2 L (fun z z0 z1 => (hf 4 _ (by decide)).trans (hL z z0 z1)) s (by omega) (by omega)) lmX2_40 dX2_renew_42 (Nat.le_of_ble_eq_true rfl) rfl ⟨_, _, rfl⟩ (by decide) (by decide) rfl rfl (Nat.le_of_ble_eq_true rfl) ?_
      refine r_istore_n dX2_renew_45 (Nat.le_of_ble_eq_true rfl) ?_
      refine i_const dX2_renew_46 ?_
      refine r_istore_n dX2_renew_47 (Nat.le_of_ble_eq_true rfl) ?_
      refine c_renew_in σ N H L P hw hN hH hL hP a0 m0 s (by omega) _ (fun l3 σ3 e3 hf3 => ?_) 400 0 σ2 (by omega) (by omega) (fun z z0 z1 => absurd z1 (by omega)) (fun z z0 z1 => e1 z z0 z1) hf
      refine i_iinc dX2_renew_79 rfl (Nat.le_of_ble_eq_true rfl) ?_
      refine r_goto 26 dX2_renew_82 rfl ?_
      exact ih (s + 1) _ _ σ3 (by omega) e3 hf3
      

theorem c_renew_1 (σ : rl_S) (N : Int) (H L P : Int → Int) (hw : SW N H L P) (hN : σ 1 7 = N) (hH : S6 3 σ H) (hL : S6 4 σ L) (hP : S6 10 σ P) (a0 : 0 ≤ σ 9 4 ∧ σ 9 4 ≤ 399) (m0 : 0 ≤ σ 9 5 ∧ σ 9 5 ≤ 399) : ∀ (n : Nat) (k : Int) (l2 l3 : Value) (σ2 : rl_S), 0 ≤ k → k + n = 400 → (∀ z : Int, 0 ≤ z → z < k → σ2 11 z.toNat = (fun _ => 0) z) → fr11 σ σ2 → Rn cW mX2_renew 2 [.ref 9, .int (iI k), l2, l3] [] σ2 (qV (ren σ N H L P)) := by
  intro n
  induction n with
  | zero =>
    intro k l2 l3 σ2 h0 hk e1 hf
    refine r_iload_n dX2_renew_2 rfl ?_
    refine r_aload_n dX2_renew_3 rfl ?_
    refine r_get (k := 9) lfX2_15 dX2_renew_4 (Nat.le_of_ble_eq_true rfl) rfl rfl ?_
    refine i_alen (k := 11) dX2_renew_7 (Nat.le_of_ble_eq_true rfl) rfl rfl ?_
    refine i_icmp_ge 24 dX2_renew_8 rfl ⟨by omega, by omega⟩ ⟨by omega, by omega⟩ (fun q8 => ?_) (fun q8 => ?_)
    · skip
      refine i_const dX2_renew_24 ?_
      refine r_istore_n dX2_renew_25 (Nat.le_of_ble_eq_true rfl) ?_
      exact c_renew_2 σ N H L P hw hN hH hL hP a0 m0 N.toNat 0 _ _ σ2 (by have := hw.1; omega) (fun z z0 z1 => e1 z z0 (by omega)) hf
    · exfalso
      omega
  | succ n ih =>
    intro k l2 l3 σ2 h0 hk e1 hf
    refine r_iload_n dX2_renew_2 rfl ?_
    refine r_aload_n dX2_renew_3 rfl ?_
    refine r_get (k := 9) lfX2_15 dX2_renew_4 (Nat.le_of_ble_eq_true rfl) rfl rfl ?_
    refine i_alen (k := 11) dX2_renew_7 (Nat.le_of_ble_eq_true rfl) rfl rfl ?_
    refine i_icmp_ge 24 dX2_renew_8 rfl ⟨by omega, by omega⟩ ⟨by omega, by omega⟩ (fun q8 => ?_) (fun q8 => ?_)
    · exfalso
      omega
    · skip
      refine r_aload_n dX2_renew_11 rfl ?_
      refine r_get (k := 9) lfX2_15 dX2_renew_12 (Nat.le_of_ble_eq_true rfl) rfl rfl ?_
      refine r_iload_n dX2_renew_15 rfl ?_
      refine i_const dX2_renew_16 ?_
      refine i_ast (k := 11) dX2_renew_17 (Nat.le_of_ble_eq_true rfl) rfl rfl ⟨by omega, by omega⟩ (by decide) ?_
      refine i_iinc dX2_renew_18 rfl (Nat.le_of_ble_eq_true rfl) ?_
      refine r_goto 2 dX2_renew_21 rfl ?_
      exact ih (k + 1) _ _ _ (by omega) (by omega) (row_up e1 h0 rfl) (fun a i g1 => (sup_k _ _ _ _ _ g1).trans (hf a i g1))

set_option maxRecDepth 20000 in
theorem c_renew (σ : rl_S) (N : Int) (H L P : Int → Int) (hw : SW N H L P) (hN : σ 1 7 = N) (hH : S6 3 σ H) (hL : S6 4 σ L) (hP : S6 10 σ P) (a0 : 0 ≤ σ 9 4 ∧ σ 9 4 ≤ 399) (m0 : 0 ≤ σ 9 5 ∧ σ 9 5 ≤ 399)  : Ct cW mX2_renew [.ref 9] σ (qV (ren σ N H L P)) := by
  refine Ct.of plX2 (Nat.le_of_ble_eq_true rfl) ?_
  refine i_const dX2_renew_0 ?_
  refine r_istore_n dX2_renew_1 (Nat.le_of_ble_eq_true rfl) ?_
  exact c_renew_1 σ N H L P hw hN hH hL hP a0 m0 400 0 _ _ σ (by omega) (by omega) (fun z z0 z1 => absurd z1 (by omega)) (fun _ _ _ => rfl)

set_option maxRecDepth 20000 in
theorem c_beginAt (σ : rl_S) (N : Int) (H L P : Int → Int) (hw : SW N H L P) (hN : σ 1 7 = N) (hH : S6 3 σ H) (hL : S6 4 σ L) (hP : S6 10 σ P) (a0 : 0 ≤ σ 9 4 ∧ σ 9 4 ≤ 399) (m0 : 0 ≤ σ 9 5 ∧ σ 9 5 ≤ 399) (s v : Int) (s0 : 0 ≤ s) (s1 : s < 6) (v0 : 0 ≤ v ∧ v ≤ 98) : Ct cW mX2_beginAt [.ref 9, .int (iI s), .int (iI v)] σ (qV (ren (sup σ 10 s.toNat v) N H L (bUp P s v))) := by
  refine Ct.of plX2 (Nat.le_of_ble_eq_true rfl) ?_
  refine r_iload_n dX2_beginAt_0 rfl ?_
  refine i_if_lt 24 dX2_beginAt_1 rfl ⟨by omega, by omega⟩ (fun q1 => ?_) (fun q1 => ?_)
  · exfalso
    omega
  · skip
    refine r_iload_n dX2_beginAt_4 rfl ?_
    refine r_aload_n dX2_beginAt_5 rfl ?_
    refine r_get (k := 9) lfX2_9 dX2_beginAt_6 (Nat.le_of_ble_eq_true rfl) rfl rfl ?_
    refine i_alen (k := 10) dX2_beginAt_9 (Nat.le_of_ble_eq_true rfl) rfl rfl ?_
    refine i_icmp_ge 24 dX2_beginAt_10 rfl ⟨by omega, by omega⟩ ⟨by omega, by omega⟩ (fun q10 => ?_) (fun q10 => ?_)
    · exfalso
      omega
    · skip
      refine r_aload_n dX2_beginAt_13 rfl ?_
      refine r_get (k := 9) lfX2_9 dX2_beginAt_14 (Nat.le_of_ble_eq_true rfl) rfl rfl ?_
      refine r_iload_n dX2_beginAt_17 rfl ?_
      refine r_iload_n dX2_beginAt_18 rfl ?_
      refine i_ast (k := 10) dX2_beginAt_19 (Nat.le_of_ble_eq_true rfl) rfl rfl ⟨by omega, by omega⟩ (by decide) ?_
      refine r_aload_n dX2_beginAt_20 rfl ?_
      refine i_cvV (c_renew (sup σ 10 s.toNat v) N H L (bUp P s v) ⟨hw.1, hw.2.1, fun z z0 z1 => ⟨(hw.2.2 z z0 z1).1, (hw.2.2 z z0 z1).2.1, by
            unfold bUp
            split
            · exact v0
            · exact (hw.2.2 z z0 z1).2.2⟩⟩ ((sup_k _ _ _ _ _ (by decide)).trans hN) (row_o hH (by decide)) (row_o hL (by decide)) (fun z z0 z1 => by
            unfold bUp
            by_cases hz : z = s
            · rw [if_pos hz, hz, sup_h]
            · rw [if_neg hz, sup_i _ _ _ _ (by omega)]; exact hP z z0 z1) (by rw [sup_k _ _ _ _ _ (show 9 ≠ 10 by decide)]; exact a0) (by rw [sup_k _ _ _ _ _ (show 9 ≠ 10 by decide)]; exact m0)) lmX2_25 dX2_beginAt_21 (Nat.le_of_ble_eq_true rfl) rfl ⟨_, _, rfl⟩ (by decide) (by decide) rfl rfl (Nat.le_of_ble_eq_true rfl) (fun σ1 hu => ?_)
      refine r_vret rfl dX2_beginAt_24 ?_
      exact ⟨rfl, hu⟩

set_option maxRecDepth 20000 in
theorem c_putLee (σ : rl_S) (N : Int) (H L P : Int → Int) (hw : SW N H L P) (hN : σ 1 7 = N) (hH : S6 3 σ H) (hL : S6 4 σ L) (hP : S6 10 σ P) (a0 : 0 ≤ σ 9 4 ∧ σ 9 4 ≤ 399) (m0 : 0 ≤ σ 9 5 ∧ σ 9 5 ≤ 399) (a m : Int) (ha : 0 ≤ a ∧ a ≤ 399) (hm : 0 ≤ m ∧ m ≤ 399) : Ct cW mX2_putLee [.ref 9, .int (iI a), .int (iI m)] σ (qV (ren (sup (sup σ 9 4 a) 9 5 m) N H L P)) := by
  refine Ct.of plX2 (Nat.le_of_ble_eq_true rfl) ?_
  refine r_aload_n dX2_putLee_0 rfl ?_
  refine r_iload_n dX2_putLee_1 rfl ?_
  refine i_put (k := 9) lpX2_28 dX2_putLee_2 (Nat.le_of_ble_eq_true rfl) rfl rfl ?_
  refine r_aload_n dX2_putLee_5 rfl ?_
  refine r_iload_n dX2_putLee_6 rfl ?_
  refine i_put (k := 9) lpX2_32 dX2_putLee_7 (Nat.le_of_ble_eq_true rfl) rfl rfl ?_
  refine r_aload_n dX2_putLee_10 rfl ?_
  refine i_cvV (c_renew (sup (sup σ 9 4 a) 9 5 m) N H L P hw (by rw [sup_k _ _ _ _ _ (show 1 ≠ 9 by decide), sup_k _ _ _ _ _ (show 1 ≠ 9 by decide)]; exact hN) (row_o (row_o hH (by decide)) (by decide)) (row_o (row_o hL (by decide)) (by decide)) (row_o (row_o hP (by decide)) (by decide)) (by rw [sup_i _ _ _ _ (show 4 ≠ 5 by decide), sup_h]; exact ha) (by rw [sup_h]; exact hm)) lmX2_25 dX2_putLee_11 (Nat.le_of_ble_eq_true rfl) rfl ⟨_, _, rfl⟩ (by decide) (by decide) rfl rfl (Nat.le_of_ble_eq_true rfl) (fun σ1 hu => ?_)
  refine r_vret rfl dX2_putLee_14 ?_
  exact ⟨rfl, hu⟩
