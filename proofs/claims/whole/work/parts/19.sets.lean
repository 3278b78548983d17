/-! begins, lee, settings, what is seen -/
theorem ic_sea {M M' σ σ' : rl_S} (c : IC M σ) (hs : gSea σ' M') (f : ∀ k i, (k < 9 ∨ 13 ≤ k) → σ' k i = σ k i) (m : ∀ k, k ≠ 0 → k ≠ 5 → M' k = M k) (m12 : M' 0 12 = M 0 12) (m21 : M' 0 21 = M 0 21) : IC M' σ' := by
  obtain ⟨⟨t1, t2, t3, t4, t5, t6, t7, t8, t9, t10, t11, t12⟩, _, ⟨p1, p2⟩, g, ⟨n1, n2⟩, ⟨⟨a1, a2, a3, a4⟩, ⟨c1, c2, c3, c4⟩, ⟨d1, d2, d3, d4⟩, ⟨e1, e2, e3, e4⟩⟩, f1⟩ := c
  have eb0 : b0 M' = b0 M := by unfold b0; rw [m 2 (by decide) (by decide)]
  have eb1 : b1 M' = b1 M := by unfold b1; rw [m 2 (by decide) (by decide)]
  have em1 : M' 1 = M 1 := m 1 (by decide) (by decide)
  have en : nS M' = nS M := by unfold nS; rw [eb0, em1]
  have er : nR M' = nR M := by unfold nR; rw [eb1, em1]
  have F : ∀ {k : Nat} (i : Nat), (k < 9 ∨ 13 ≤ k) → ∀ {x : Int}, σ k i = x → σ' k i = x := fun i h1 x e => (f _ i h1).trans e
  refine ⟨⟨?_, ?_, ?_, ?_, ?_, ?_, ?_, ?_, ?_, ?_, ?_, ?_⟩, hs, ⟨?_, ?_⟩, ?_, ⟨?_, ?_⟩, ?_, ?_⟩
  · rw [eb0]; exact fun z z0 z1 => F _ (by decide) (t1 z z0 z1)
  · rw [eb1]; exact fun z z0 z1 => F _ (by decide) (t2 z z0 z1)
  · rw [em1]; exact F _ (by decide) t3
  · rw [em1]; exact F _ (by decide) t4
  · rw [eb0, em1]; exact F _ (by decide) t5
  · rw [eb1, em1]; exact F _ (by decide) t6
  · rw [en]; exact F _ (by decide) t7
  · rw [er]; exact F _ (by decide) t8
  · unfold hS; rw [eb0, en]; exact fun z z0 z1 => F _ (by decide) (t9 z z0 z1)
  · unfold lS; rw [eb0, en]; exact fun z z0 z1 => F _ (by decide) (t10 z z0 z1)
  · rw [eb1, er]; exact fun z z0 z1 => F _ (by decide) (t11 z z0 z1)
  · rw [eb1, er]; exact fun z z0 z1 => F _ (by decide) (t12 z z0 z1)
  · unfold gR; rw [eb1, er]; exact F _ (by decide) p1
  · unfold lR; rw [eb1, er]; exact F _ (by decide) p2
  · intro i hi; rw [m 6 (by decide) (by decide)]; exact F _ (by decide) (g i hi)
  · rw [m12]; exact F _ (by decide) n1
  · intro i hi; rw [m 8 (by decide) (by decide), m 9 (by decide) (by decide)]; exact ⟨F _ (by decide) (n2 i hi).1, F _ (by decide) (n2 i hi).2⟩
  · unfold gSheet gSheet1
    rw [m 10 (by decide) (by decide), m 11 (by decide) (by decide), m 12 (by decide) (by decide), m 13 (by decide) (by decide)]
    exact ⟨⟨F _ (by decide) a1, F _ (by decide) a2, F _ (by decide) a3, fun i hi => F _ (by decide) (a4 i hi)⟩, ⟨F _ (by decide) c1, F _ (by decide) c2, F _ (by decide) c3, fun i hi => F _ (by decide) (c4 i hi)⟩, ⟨F _ (by decide) d1, F _ (by decide) d2, F _ (by decide) d3, fun i hi => F _ (by decide) (d4 i hi)⟩, ⟨F _ (by decide) e1, F _ (by decide) e2, F _ (by decide) e3, fun i hi => F _ (by decide) (e4 i hi)⟩⟩
  · rw [m21]; exact F _ (by decide) f1
def s_begins (M : rl_S) (s v : Int) : Int × rl_S := if (0 ≤ s ∧ s < 6) ∧ 0 ≤ v ∧ v ≤ 98 then (pS M s, sup M 5 s.toNat v) else (-2, M)
def s_lee (M : rl_S) (w v : Int) : Int × rl_S := if (w = 0 ∨ w = 1) ∧ 0 ≤ v ∧ v ≤ 399 then (if w = 0 then (M 0 7, sup M 0 7 v) else (M 0 8, sup M 0 8 v)) else (-2, M)
def s_set (M : rl_S) (t v : Int) : Int × rl_S := if alw t v = true then (M 6 t.toNat, sup M 6 t.toNat v) else (-2, M)
def s_seen (M : rl_S) (t v : Int) : Int × rl_S := if (0 ≤ t ∧ t ≤ 399) ∧ 0 ≤ v ∧ v ≤ 3000 then (if 8 ≤ M 0 12 then (-4, M) else (M 0 12 + 1, sup (sup (sup M 8 (M 0 12).toNat t) 9 (M 0 12).toNat v) 0 12 (M 0 12 + 1))) else (-2, M)
def s_forget (M : rl_S) : Int × rl_S := (M 0 12, sup M 0 12 0)
theorem wf_begins {M : rl_S} (h : WF M) (s v : Int) : WF (s_begins M s v).2 := by
  unfold s_begins
  split
  · rename_i hc
    obtain ⟨h1, h2, h3, h4, h5, h6⟩ := h
    refine ⟨h1, h2, h3, h4, fun z z0 z1 => ?_, h6⟩
    dsimp only
    rw [pS_up M v hc.1.1]
    unfold bUp
    split
    · exact hc.2
    · exact h5 z z0 z1
  · exact h
theorem wf_lee {M : rl_S} (h : WF M) (w v : Int) : WF (s_lee M w v).2 := by
  unfold s_lee
  split
  · rename_i hc
    obtain ⟨h1, h2, h3, h4, h5, h6, h7, h8⟩ := h
    split
    · exact ⟨h1, h2, h3, h4, h5, hc.2, h7, h8⟩
    · exact ⟨h1, h2, h3, h4, h5, h6, hc.2, h8⟩
  · exact h
theorem wf_sset {M : rl_S} (h : WF M) (t v : Int) : WF (s_set M t v).2 := by
  unfold s_set
  split
  · rename_i hc
    have hc := of_decide_eq_true hc
    obtain ⟨h1, h2, h3, h4, h5, h6, h7, h8, h9⟩ := h
    refine ⟨h1, h2, h3, h4, h5, h6, h7, fun i hi => ?_, h9⟩
    by_cases hz : i = t.toNat
    · subst hz; dsimp only; rw [sup_h]; exact hc.2.2
    · dsimp only; rw [sup_i _ _ _ _ hz]; exact h8 i hi
  · exact h
theorem wf_sseen {M : rl_S} (h : WF M) (t v : Int) : WF (s_seen M t v).2 := by
  unfold s_seen
  split
  · rename_i hc
    split
    · exact h
    · rename_i h12
      obtain ⟨h1, h2, h3, h4, h5, h6, h7, h8, h9, h10, h11⟩ := h
      refine ⟨h1, h2, h3, h4, h5, h6, h7, h8, ?_, fun i hi => ?_, h11⟩
      · show 0 ≤ M 0 12 + 1 ∧ M 0 12 + 1 ≤ 8; omega
      · by_cases hz : i = (M 0 12).toNat
        · subst hz
          dsimp only
          rw [sup_k _ _ _ _ _ (show 8 ≠ 0 by decide), sup_k _ _ _ _ _ (show 8 ≠ 9 by decide), sup_h, sup_k _ _ _ _ _ (show 9 ≠ 0 by decide), sup_h]
          exact hc
        · dsimp only
          rw [sup_k _ _ _ _ _ (show 8 ≠ 0 by decide), sup_k _ _ _ _ _ (show 8 ≠ 9 by decide), sup_i _ _ _ _ hz, sup_k _ _ _ _ _ (show 9 ≠ 0 by decide), sup_i _ _ _ _ hz, sup_k _ _ _ _ _ (show 9 ≠ 8 by decide)]
          exact h10 i hi
  · exact h
theorem wf_forget {M : rl_S} (h : WF M) : WF (s_forget M).2 := by
  obtain ⟨h1, h2, h3, h4, h5, h6, h7, h8, h9, h10, h11⟩ := h
  exact ⟨h1, h2, h3, h4, h5, h6, h7, h8, by show (0 : Int) ≤ 0 ∧ (0 : Int) ≤ 8; decide, h10, h11⟩
theorem ic_set {M σ : rl_S} (c : IC M σ) (i : Nat) (v : Int) : IC (sup M 6 i v) (sup σ 15 i v) := by
  obtain ⟨t, s, p, g, n, sh, f⟩ := c
  refine ⟨t, s, p, fun j hj => ?_, n, sh, f⟩
  by_cases hz : j = i
  · subst hz; rw [sup_h, sup_h]
  · rw [sup_i _ _ _ _ hz, sup_i _ _ _ _ hz]; exact g j hj
theorem ic_seen {M σ : rl_S} (c : IC M σ) (n : Nat) (t v m : Int) : IC (sup (sup (sup M 8 n t) 9 n v) 0 12 m) (sup (sup (sup σ 18 n t) 19 n v) 17 2 m) := by
  obtain ⟨t1, s, p, g, ⟨n1, n2⟩, sh, f⟩ := c
  refine ⟨t1, s, p, g, ⟨?_, fun j hj => ?_⟩, sh, f⟩
  · rw [sup_h, sup_h]
  · obtain ⟨q1, q2⟩ := n2 j hj
    by_cases hz : j = n
    · subst hz
      constructor
      · exact ((sup_k _ _ _ _ _ (by decide)).trans ((sup_k _ _ _ _ _ (by decide)).trans (sup_h _ _ _ _))).trans ((sup_k _ _ _ _ _ (by decide)).trans ((sup_k _ _ _ _ _ (by decide)).trans (sup_h _ _ _ _))).symm
      · exact ((sup_k _ _ _ _ _ (by decide)).trans (sup_h _ _ _ _)).trans ((sup_k _ _ _ _ _ (by decide)).trans (sup_h _ _ _ _)).symm
    · constructor
      · exact ((sup_k _ _ _ _ _ (by decide)).trans ((sup_k _ _ _ _ _ (by decide)).trans (sup_i _ _ _ _ hz))).trans (q1.trans ((sup_k _ _ _ _ _ (by decide)).trans ((sup_k _ _ _ _ _ (by decide)).trans (sup_i _ _ _ _ hz))).symm)
      · exact ((sup_k _ _ _ _ _ (by decide)).trans ((sup_i _ _ _ _ hz).trans (sup_k _ _ _ _ _ (by decide)))).trans (q2.trans ((sup_k _ _ _ _ _ (by decide)).trans ((sup_i _ _ _ _ hz).trans (sup_k _ _ _ _ _ (by decide)))).symm)
theorem ic_n {M σ : rl_S} (c : IC M σ) (m : Int) : IC (sup M 0 12 m) (sup σ 17 2 m) := by
  obtain ⟨t1, s, p, g, ⟨n1, n2⟩, sh, f⟩ := c
  exact ⟨t1, s, p, g, ⟨by rw [sup_h, sup_h], n2⟩, sh, f⟩
theorem ic_find {M σ : rl_S} (c : IC M σ) (m : Int) : IC (sup M 0 21 m) (sup σ 0 9 m) := by
  obtain ⟨t1, s, p, g, n, sh, f⟩ := c
  exact ⟨t1, s, p, g, n, sh, by rw [sup_h, sup_h]⟩
theorem wf_find {M : rl_S} (h : WF M) {m : Int} (h0 : 0 ≤ m ∧ m ≤ 5) : WF (sup M 0 21 m) := by
  obtain ⟨h1, h2, h3, h4, h5, h6, h7, h8, h9, h10, h11, h12⟩ := h
  exact ⟨h1, h2, h3, h4, h5, h6, h7, h8, h9, h10, h11, by rw [sup_h]; exact h0⟩
set_option maxRecDepth 20000 in
theorem c_begins (M σ : rl_S) (c : IC M σ) (hw : WF M) (s v : Int) (hs : -2147483648 ≤ s ∧ s < 2147483648) (hv : -2147483648 ≤ v ∧ v < 2147483648) : Ct cW mX8_begins [.ref 0, .int (iI s), .int (iI v)] σ (qI (fun z σ' => z = (s_begins M s v).1 ∧ IC (s_begins M s v).2 σ')) := by
  refine Ct.of plX8 (Nat.le_of_ble_eq_true rfl) ?_
  obtain ⟨gt, gs, gp, gg, gn, gh1, gf⟩ := id c
  have hb := wf_hb hw
  have hh := gs.2.2.2.2
  have w1 := wf_1 hw
  refine r_iload_n dX8_begins_0 rfl ?_
  refine i_if_lt 20 dX8_begins_1 rfl ⟨by omega, by omega⟩ (fun q1 => ?_) (fun q1 => ?_)
  · skip
    refine i_bipush dX8_begins_20 (by decide) ?_
    refine r_iret rfl dX8_begins_22 ?_
    exact ⟨_, rfl, by unfold s_begins; rw [if_neg (by omega)], by unfold s_begins; rw [if_neg (by omega)]; exact c⟩
  · skip
    refine r_iload_n dX8_begins_4 rfl ?_
    refine i_bipush dX8_begins_5 (by decide) ?_
    refine i_icmp_ge 20 dX8_begins_7 rfl ⟨by omega, by omega⟩ ⟨by omega, by omega⟩ (fun q7 => ?_) (fun q7 => ?_)
    · skip
      refine i_bipush dX8_begins_20 (by decide) ?_
      refine r_iret rfl dX8_begins_22 ?_
      exact ⟨_, rfl, by unfold s_begins; rw [if_neg (by omega)], by unfold s_begins; rw [if_neg (by omega)]; exact c⟩
    · skip
      refine r_iload_n dX8_begins_10 rfl ?_
      refine i_if_lt 20 dX8_begins_11 rfl ⟨by omega, by omega⟩ (fun q11 => ?_) (fun q11 => ?_)
      · skip
        refine i_bipush dX8_begins_20 (by decide) ?_
        refine r_iret rfl dX8_begins_22 ?_
        exact ⟨_, rfl, by unfold s_begins; rw [if_neg (by omega)], by unfold s_begins; rw [if_neg (by omega)]; exact c⟩
      · skip
        refine r_iload_n dX8_begins_14 rfl ?_
        refine i_bipush dX8_begins_15 (by decide) ?_
        refine i_icmp_le 23 dX8_begins_17 rfl ⟨by omega, by omega⟩ ⟨by omega, by omega⟩ (fun q17 => ?_) (fun q17 => ?_)
        · skip
          refine r_aload_n dX8_begins_23 rfl ?_
          refine r_get (k := 0) lfX8_26 dX8_begins_24 (Nat.le_of_ble_eq_true rfl) rfl rfl ?_
          refine r_iload_n dX8_begins_27 rfl ?_
          refine i_cvP (c_beginOf σ (pS M) gs.1 s (by omega) (by omega)) lmX8_116 dX8_begins_28 (Nat.le_of_ble_eq_true rfl) rfl ⟨_, _, rfl⟩ (by decide) (by decide) rfl rfl (Nat.le_of_ble_eq_true rfl) ?_
          refine r_istore_n dX8_begins_31 (Nat.le_of_ble_eq_true rfl) ?_
          refine r_aload_n dX8_begins_32 rfl ?_
          refine r_get (k := 0) lfX8_26 dX8_begins_33 (Nat.le_of_ble_eq_true rfl) rfl rfl ?_
          refine r_iload_n dX8_begins_36 rfl ?_
          refine r_iload_n dX8_begins_37 rfl ?_
          refine i_cvV (c_beginAt σ (nS M) (hS M) (lS M) (pS M) (wf_sw hw) gt.2.2.2.2.2.2.1 gt.2.2.2.2.2.2.2.2.1 gt.2.2.2.2.2.2.2.2.2.1 gs.1 (by rw [gs.2.1]; exact w1.1) (by rw [gs.2.2.1]; exact w1.2) s v (by omega) (by omega) ⟨by omega, by omega⟩) lmX8_119 dX8_begins_38 (Nat.le_of_ble_eq_true rfl) rfl ⟨_, _, rfl⟩ (by decide) (by decide) rfl rfl (Nat.le_of_ble_eq_true rfl) (fun σ1 hr => ?_)
          refine r_iload_n dX8_begins_41 rfl ?_
          refine r_iret rfl dX8_begins_42 ?_
          obtain ⟨r1, r2, r3⟩ := hr
          have e1 : s_begins M s v = (pS M s, sup M 5 s.toNat v) := by unfold s_begins; rw [if_pos ⟨⟨by omega, by omega⟩, by omega, by omega⟩]
          have ep := pS_up M (n := s) v (by omega)
          have er : raw (sup M 5 s.toNat v) = fun t => rawU (hS M) (lS M) (bUp (pS M) s v) t (nS M).toNat := by unfold raw; rw [ep]; rfl
          refine ⟨_, rfl, by rw [e1], ?_⟩
          rw [e1]
          refine ic_sea c ⟨?_, ?_, ?_, ?_, ?_⟩ (fun k i h => (r3 k i (by omega) (by omega)).trans (sup_k _ _ _ _ _ (by omega))) (fun k _ h5 => sup_ne _ _ _ h5) rfl rfl
          · dsimp only; rw [ep]
            intro z z0 z1
            rw [r3 10 _ (by decide) (by decide)]
            unfold bUp
            by_cases hz : z = s
            · rw [if_pos hz, hz, sup_h]
            · rw [if_neg hz, sup_i _ _ _ _ (by omega)]; exact gs.1 z z0 z1
          · exact (r3 9 4 (by decide) (by decide)).trans ((sup_k _ _ _ _ _ (by decide)).trans gs.2.1)
          · exact (r3 9 5 (by decide) (by decide)).trans ((sup_k _ _ _ _ _ (by decide)).trans gs.2.2.1)
          · dsimp only; rw [er]; exact r1
          · dsimp only; unfold hi; rw [er]
            rw [sup_k _ _ _ _ _ (show 9 ≠ 10 by decide), sup_k _ _ _ _ _ (show 9 ≠ 10 by decide), gs.2.1, gs.2.2.1] at r2
            exact r2
        · skip
          refine i_bipush dX8_begins_20 (by decide) ?_
          refine r_iret rfl dX8_begins_22 ?_
          exact ⟨_, rfl, by unfold s_begins; rw [if_neg (by omega)], by unfold s_begins; rw [if_neg (by omega)]; exact c⟩

set_option maxRecDepth 20000 in
theorem c_lee (M σ : rl_S) (c : IC M σ) (hw : WF M) (w v : Int) (hw2 : -2147483648 ≤ w ∧ w < 2147483648) (hv : -2147483648 ≤ v ∧ v < 2147483648) : Ct cW mX8_lee [.ref 0, .int (iI w), .int (iI v)] σ (qI (fun z σ' => z = (s_lee M w v).1 ∧ IC (s_lee M w v).2 σ')) := by
  refine Ct.of plX8 (Nat.le_of_ble_eq_true rfl) ?_
  obtain ⟨gt, gs, gp, gg, gn, gh1, gf⟩ := id c
  have hb := wf_hb hw
  have hh := gs.2.2.2.2
  have w1 := wf_1 hw
  have ob2 := ob_bd (decide (0 ≤ v ∧ v ≤ 399))
  rcases (show w = 0 ∨ w = 1 ∨ (w ≠ 0 ∧ w ≠ 1) by omega) with rfl | rfl | ⟨n0, n1⟩
  · have ob1 := ob_bd (decide ((0 : Int) = 0 ∨ (0 : Int) = 1))
    refine r_iload_n dX8_lee_0 rfl ?_
    refine i_csP (c_isEither σ 0 hw2) lmX8_103 dX8_lee_1 (by decide) (by decide) rfl rfl (Nat.le_of_ble_eq_true rfl) ?_
    refine i_if_eq 14 dX8_lee_4 rfl ⟨by omega, by omega⟩ (fun q4 => ?_) (fun q4 => ?_)
    · have e4 := ob_df q4
      refine i_bipush dX8_lee_14 (by decide) ?_
      refine r_iret rfl dX8_lee_16 ?_
      exact ⟨_, rfl, by unfold s_lee; rw [if_neg (by omega)], by unfold s_lee; rw [if_neg (by omega)]; exact c⟩
    · have e4 := ob_dt q4
      refine r_iload_n dX8_lee_7 rfl ?_
      refine i_csP (c_isTenth σ v hv) lmX8_122 dX8_lee_8 (by decide) (by decide) rfl rfl (Nat.le_of_ble_eq_true rfl) ?_
      refine i_if_ne 17 dX8_lee_11 rfl ⟨by omega, by omega⟩ (fun q11 => ?_) (fun q11 => ?_)
      · have e11 := ob_dt q11
        refine r_iload_n dX8_lee_17 rfl ?_
        refine i_if_ne 31 dX8_lee_18 rfl ⟨by omega, by omega⟩ (fun q18 => ?_) (fun q18 => ?_)
        · exfalso
          omega
        · skip
          refine r_aload_n dX8_lee_21 rfl ?_
          refine r_get (k := 0) lfX8_26 dX8_lee_22 (Nat.le_of_ble_eq_true rfl) rfl rfl ?_
          refine r_get (k := 9) lfX8_125 dX8_lee_25 (Nat.le_of_ble_eq_true rfl) rfl rfl ?_
          refine r_goto 38 dX8_lee_28 rfl ?_
          skip
          refine r_istore_n dX8_lee_38 (Nat.le_of_ble_eq_true rfl) ?_
          refine r_iload_n dX8_lee_39 rfl ?_
          refine i_if_ne 61 dX8_lee_40 rfl ⟨by omega, by omega⟩ (fun q40 => ?_) (fun q40 => ?_)
          · exfalso
            omega
          · skip
            refine r_aload_n dX8_lee_43 rfl ?_
            refine r_get (k := 0) lfX8_26 dX8_lee_44 (Nat.le_of_ble_eq_true rfl) rfl rfl ?_
            refine r_iload_n dX8_lee_47 rfl ?_
            refine r_aload_n dX8_lee_48 rfl ?_
            refine r_get (k := 0) lfX8_26 dX8_lee_49 (Nat.le_of_ble_eq_true rfl) rfl rfl ?_
            refine r_get (k := 9) lfX8_128 dX8_lee_52 (Nat.le_of_ble_eq_true rfl) rfl rfl ?_
            rw [gs.2.2.1]
            refine i_cvV (c_putLee σ (nS M) (hS M) (lS M) (pS M) (wf_sw hw) gt.2.2.2.2.2.2.1 gt.2.2.2.2.2.2.2.2.1 gt.2.2.2.2.2.2.2.2.2.1 gs.1 (by rw [gs.2.1]; exact w1.1) (by rw [gs.2.2.1]; exact w1.2) v (M 0 8) ⟨by omega, by omega⟩ ⟨by omega, by omega⟩) lmX8_131 dX8_lee_55 (Nat.le_of_ble_eq_true rfl) rfl ⟨_, _, rfl⟩ (by decide) (by decide) rfl rfl (Nat.le_of_ble_eq_true rfl) (fun σ1 hr => ?_)
            refine r_goto 76 dX8_lee_58 rfl ?_
            refine r_iload_n dX8_lee_76 rfl ?_
            refine r_iret rfl dX8_lee_77 ?_
            obtain ⟨r1, r2, r3⟩ := hr
            have e1 : s_lee M 0 v = (M 0 7, (sup M 0 7 v)) := by unfold s_lee; rw [if_pos ⟨by omega, by omega, by omega⟩]; rfl
            refine ⟨_, rfl, by rw [e1, gs.2.1], ?_⟩
            rw [e1]
            refine ic_sea c ⟨?_, ?_, ?_, ?_, ?_⟩ (fun k i h => (r3 k i (by omega) (by omega)).trans ((sup_k _ _ _ _ _ (by omega)).trans (sup_k _ _ _ _ _ (by omega)))) (fun k h0 _ => sup_ne _ _ _ h0) rfl rfl
            · exact fun z z0 z1 => (r3 10 _ (by decide) (by decide)).trans ((sup_k _ _ _ _ _ (by decide)).trans ((sup_k _ _ _ _ _ (by decide)).trans (gs.1 z z0 z1)))
            · exact (r3 9 4 (by decide) (by decide)).trans ((sup_i _ _ _ _ (by decide)).trans (sup_h _ _ _ _))
            · exact (r3 9 5 (by decide) (by decide)).trans (sup_h _ _ _ _)
            · exact r1
            · rw [sup_i _ _ _ _ (show 4 ≠ 5 by decide), sup_h, sup_h] at r2
              exact r2
      · have e11 := ob_df q11
        refine i_bipush dX8_lee_14 (by decide) ?_
        refine r_iret rfl dX8_lee_16 ?_
        exact ⟨_, rfl, by unfold s_lee; rw [if_neg (by omega)], by unfold s_lee; rw [if_neg (by omega)]; exact c⟩
  · have ob1 := ob_bd (decide ((1 : Int) = 0 ∨ (1 : Int) = 1))
    refine r_iload_n dX8_lee_0 rfl ?_
    refine i_csP (c_isEither σ 1 hw2) lmX8_103 dX8_lee_1 (by decide) (by decide) rfl rfl (Nat.le_of_ble_eq_true rfl) ?_
    refine i_if_eq 14 dX8_lee_4 rfl ⟨by omega, by omega⟩ (fun q4 => ?_) (fun q4 => ?_)
    · have e4 := ob_df q4
      refine i_bipush dX8_lee_14 (by decide) ?_
      refine r_iret rfl dX8_lee_16 ?_
      exact ⟨_, rfl, by unfold s_lee; rw [if_neg (by omega)], by unfold s_lee; rw [if_neg (by omega)]; exact c⟩
    · have e4 := ob_dt q4
      refine r_iload_n dX8_lee_7 rfl ?_
      refine i_csP (c_isTenth σ v hv) lmX8_122 dX8_lee_8 (by decide) (by decide) rfl rfl (Nat.le_of_ble_eq_true rfl) ?_
      refine i_if_ne 17 dX8_lee_11 rfl ⟨by omega, by omega⟩ (fun q11 => ?_) (fun q11 => ?_)
      · have e11 := ob_dt q11
        refine r_iload_n dX8_lee_17 rfl ?_
        refine i_if_ne 31 dX8_lee_18 rfl ⟨by omega, by omega⟩ (fun q18 => ?_) (fun q18 => ?_)
        · skip
          refine r_aload_n dX8_lee_31 rfl ?_
          refine r_get (k := 0) lfX8_26 dX8_lee_32 (Nat.le_of_ble_eq_true rfl) rfl rfl ?_
          refine r_get (k := 9) lfX8_128 dX8_lee_35 (Nat.le_of_ble_eq_true rfl) rfl rfl ?_
          skip
          refine r_istore_n dX8_lee_38 (Nat.le_of_ble_eq_true rfl) ?_
          refine r_iload_n dX8_lee_39 rfl ?_
          refine i_if_ne 61 dX8_lee_40 rfl ⟨by omega, by omega⟩ (fun q40 => ?_) (fun q40 => ?_)
          · skip
            refine r_aload_n dX8_lee_61 rfl ?_
            refine r_get (k := 0) lfX8_26 dX8_lee_62 (Nat.le_of_ble_eq_true rfl) rfl rfl ?_
            refine r_aload_n dX8_lee_65 rfl ?_
            refine r_get (k := 0) lfX8_26 dX8_lee_66 (Nat.le_of_ble_eq_true rfl) rfl rfl ?_
            refine r_get (k := 9) lfX8_125 dX8_lee_69 (Nat.le_of_ble_eq_true rfl) rfl rfl ?_
            rw [gs.2.1]
            refine r_iload_n dX8_lee_72 rfl ?_
            refine i_cvV (c_putLee σ (nS M) (hS M) (lS M) (pS M) (wf_sw hw) gt.2.2.2.2.2.2.1 gt.2.2.2.2.2.2.2.2.1 gt.2.2.2.2.2.2.2.2.2.1 gs.1 (by rw [gs.2.1]; exact w1.1) (by rw [gs.2.2.1]; exact w1.2) (M 0 7) v ⟨by omega, by omega⟩ ⟨by omega, by omega⟩) lmX8_131 dX8_lee_73 (Nat.le_of_ble_eq_true rfl) rfl ⟨_, _, rfl⟩ (by decide) (by decide) rfl rfl (Nat.le_of_ble_eq_true rfl) (fun σ1 hr => ?_)
            refine r_iload_n dX8_lee_76 rfl ?_
            refine r_iret rfl dX8_lee_77 ?_
            obtain ⟨r1, r2, r3⟩ := hr
            have e1 : s_lee M 1 v = (M 0 8, (sup M 0 8 v)) := by unfold s_lee; rw [if_pos ⟨by omega, by omega, by omega⟩]; rfl
            refine ⟨_, rfl, by rw [e1, gs.2.2.1], ?_⟩
            rw [e1]
            refine ic_sea c ⟨?_, ?_, ?_, ?_, ?_⟩ (fun k i h => (r3 k i (by omega) (by omega)).trans ((sup_k _ _ _ _ _ (by omega)).trans (sup_k _ _ _ _ _ (by omega)))) (fun k h0 _ => sup_ne _ _ _ h0) rfl rfl
            · exact fun z z0 z1 => (r3 10 _ (by decide) (by decide)).trans ((sup_k _ _ _ _ _ (by decide)).trans ((sup_k _ _ _ _ _ (by decide)).trans (gs.1 z z0 z1)))
            · exact (r3 9 4 (by decide) (by decide)).trans ((sup_i _ _ _ _ (by decide)).trans (sup_h _ _ _ _))
            · exact (r3 9 5 (by decide) (by decide)).trans (sup_h _ _ _ _)
            · exact r1
            · rw [sup_i _ _ _ _ (show 4 ≠ 5 by decide), sup_h, sup_h] at r2
              exact r2
          · exfalso
            omega
        · exfalso
          omega
      · have e11 := ob_df q11
        refine i_bipush dX8_lee_14 (by decide) ?_
        refine r_iret rfl dX8_lee_16 ?_
        exact ⟨_, rfl, by unfold s_lee; rw [if_neg (by omega)], by unfold s_lee; rw [if_neg (by omega)]; exact c⟩
  · have ob1 := ob_bd (decide (w = 0 ∨ w = 1))
    refine r_iload_n dX8_lee_0 rfl ?_
    refine i_csP (c_isEither σ w hw2) lmX8_103 dX8_lee_1 (by decide) (by decide) rfl rfl (Nat.le_of_ble_eq_true rfl) ?_
    refine i_if_eq 14 dX8_lee_4 rfl ⟨by omega, by omega⟩ (fun q4 => ?_) (fun q4 => ?_)
    · have e4 := ob_df q4
      refine i_bipush dX8_lee_14 (by decide) ?_
      refine r_iret rfl dX8_lee_16 ?_
      exact ⟨_, rfl, by unfold s_lee; rw [if_neg (by omega)], by unfold s_lee; rw [if_neg (by omega)]; exact c⟩
    · exact absurd (ob_dt q4) (by omega)

set_option maxRecDepth 20000 in
theorem c_set (M σ : rl_S) (c : IC M σ) (hw : WF M) (t v : Int) (ht : -2147483648 ≤ t ∧ t < 2147483648) (hv : -2147483648 ≤ v ∧ v < 2147483648) : Ct cW mX8_set [.ref 0, .int (iI t), .int (iI v)] σ (qI (fun z σ' => z = (s_set M t v).1 ∧ IC (s_set M t v).2 σ')) := by
  refine Ct.of plX8 (Nat.le_of_ble_eq_true rfl) ?_
  obtain ⟨gt, gs, gp, gg, gn, gh1, gf⟩ := id c
  have hb := wf_hb hw
  have hh := gs.2.2.2.2
  have ob1 := ob_bd (alw t v)
  refine r_aload_n dX8_set_0 rfl ?_
  refine r_get (k := 0) lfX8_40 dX8_set_1 (Nat.le_of_ble_eq_true rfl) rfl rfl ?_
  refine r_iload_n dX8_set_4 rfl ?_
  refine r_iload_n dX8_set_5 rfl ?_
  refine i_cvP (c_allows σ t v ht hv) lmX8_134 dX8_set_6 (Nat.le_of_ble_eq_true rfl) rfl ⟨_, _, rfl⟩ (by decide) (by decide) rfl rfl (Nat.le_of_ble_eq_true rfl) ?_
  refine i_if_ne 15 dX8_set_9 rfl ⟨by omega, by omega⟩ (fun q9 => ?_) (fun q9 => ?_)
  · skip
    have al := of_decide_eq_true (ob_t q9)
    refine r_aload_n dX8_set_15 rfl ?_
    refine r_get (k := 0) lfX8_40 dX8_set_16 (Nat.le_of_ble_eq_true rfl) rfl rfl ?_
    refine r_iload_n dX8_set_19 rfl ?_
    refine i_cvP (c_of σ t (by omega) (by omega)) lmX8_138 dX8_set_20 (Nat.le_of_ble_eq_true rfl) rfl ⟨_, _, rfl⟩ (by decide) (by decide) rfl rfl (Nat.le_of_ble_eq_true rfl) ?_
    refine r_istore_n dX8_set_23 (Nat.le_of_ble_eq_true rfl) ?_
    refine r_aload_n dX8_set_24 rfl ?_
    refine r_get (k := 0) lfX8_40 dX8_set_25 (Nat.le_of_ble_eq_true rfl) rfl rfl ?_
    refine r_iload_n dX8_set_28 rfl ?_
    refine r_iload_n dX8_set_29 rfl ?_
    refine i_cvV (c_change σ t v (by omega) (by omega)) lmX8_141 dX8_set_30 (Nat.le_of_ble_eq_true rfl) rfl ⟨_, _, rfl⟩ (by decide) (by decide) rfl rfl (Nat.le_of_ble_eq_true rfl) (fun σ1 hr => ?_)
    refine r_iload_n dX8_set_33 rfl ?_
    refine r_iret rfl dX8_set_34 ?_
    subst hr
    have e1 : s_set M t v = (M 6 t.toNat, sup M 6 t.toNat v) := by unfold s_set; rw [if_pos (ob_t q9)]
    exact ⟨_, rfl, by rw [e1, gg t.toNat (by omega)], by rw [e1]; exact ic_set c _ v⟩
  · skip
    refine i_bipush dX8_set_12 (by decide) ?_
    refine r_iret rfl dX8_set_14 ?_
    exact ⟨_, rfl, by unfold s_set; rw [if_neg (by rw [ob_f q9]; decide)], by unfold s_set; rw [if_neg (by rw [ob_f q9]; decide)]; exact c⟩

set_option maxRecDepth 20000 in
theorem c_seen (M σ : rl_S) (c : IC M σ) (hw : WF M) (t v : Int) (ht : -2147483648 ≤ t ∧ t < 2147483648) (hv : -2147483648 ≤ v ∧ v < 2147483648) : Ct cW mX8_seen [.ref 0, .int (iI t), .int (iI v)] σ (qI (fun z σ' => z = (s_seen M t v).1 ∧ IC (s_seen M t v).2 σ')) := by
  refine Ct.of plX8 (Nat.le_of_ble_eq_true rfl) ?_
  obtain ⟨gt, gs, gp, gg, gn, gh1, gf⟩ := id c
  have hb := wf_hb hw
  have hh := gs.2.2.2.2
  have w9 := wf_seen9 hw
  have ob1 := ob_bd (decide (0 ≤ t ∧ t ≤ 399))
  have en := gn.1
  refine r_iload_n dX8_seen_0 rfl ?_
  refine i_csP (c_isTenth σ t ht) lmX8_122 dX8_seen_1 (by decide) (by decide) rfl rfl (Nat.le_of_ble_eq_true rfl) ?_
  refine i_if_eq 18 dX8_seen_4 rfl ⟨by omega, by omega⟩ (fun q4 => ?_) (fun q4 => ?_)
  · have e4 := ob_df q4
    refine i_bipush dX8_seen_18 (by decide) ?_
    refine r_iret rfl dX8_seen_20 ?_
    exact ⟨_, rfl, by unfold s_seen; rw [if_neg (by omega)], by unfold s_seen; rw [if_neg (by omega)]; exact c⟩
  · have e4 := ob_dt q4
    refine r_iload_n dX8_seen_7 rfl ?_
    refine i_if_lt 18 dX8_seen_8 rfl ⟨by omega, by omega⟩ (fun q8 => ?_) (fun q8 => ?_)
    · skip
      refine i_bipush dX8_seen_18 (by decide) ?_
      refine r_iret rfl dX8_seen_20 ?_
      exact ⟨_, rfl, by unfold s_seen; rw [if_neg (by omega)], by unfold s_seen; rw [if_neg (by omega)]; exact c⟩
    · skip
      refine r_iload_n dX8_seen_11 rfl ?_
      refine i_sipush dX8_seen_12 (by decide) ?_
      refine i_icmp_le 21 dX8_seen_15 rfl ⟨by omega, by omega⟩ ⟨by omega, by omega⟩ (fun q15 => ?_) (fun q15 => ?_)
      · skip
        refine r_aload_n dX8_seen_21 rfl ?_
        refine r_get (k := 0) lfX8_56 dX8_seen_22 (Nat.le_of_ble_eq_true rfl) rfl rfl ?_
        refine r_get (k := 17) lfX8_220 dX8_seen_25 (Nat.le_of_ble_eq_true rfl) rfl rfl ?_
        refine i_bipush dX8_seen_28 (by decide) ?_
        refine i_icmp_lt 36 dX8_seen_30 rfl ⟨by omega, by omega⟩ ⟨by omega, by omega⟩ (fun q30 => ?_) (fun q30 => ?_)
        · skip
          refine r_aload_n dX8_seen_36 rfl ?_
          refine r_get (k := 0) lfX8_56 dX8_seen_37 (Nat.le_of_ble_eq_true rfl) rfl rfl ?_
          refine r_iload_n dX8_seen_40 rfl ?_
          refine r_iload_n dX8_seen_41 rfl ?_
          refine i_cvV (c_seenAppend σ (by omega) (by omega) t v) lmX8_221 dX8_seen_42 (Nat.le_of_ble_eq_true rfl) rfl ⟨_, _, rfl⟩ (by decide) (by decide) rfl rfl (Nat.le_of_ble_eq_true rfl) (fun σ1 hr => ?_)
          refine r_aload_n dX8_seen_45 rfl ?_
          refine r_get (k := 0) lfX8_56 dX8_seen_46 (Nat.le_of_ble_eq_true rfl) rfl rfl ?_
          refine r_get (k := 17) lfX8_220 dX8_seen_49 (Nat.le_of_ble_eq_true rfl) rfl rfl ?_
          subst hr
          rw [sup_h]
          refine r_iret rfl dX8_seen_52 ?_
          have e1 : s_seen M t v = (M 0 12 + 1, sup (sup (sup M 8 (M 0 12).toNat t) 9 (M 0 12).toNat v) 0 12 (M 0 12 + 1)) := by unfold s_seen; rw [if_pos ⟨by omega, by omega⟩, if_neg (by omega)]
          rw [en]
          exact ⟨_, rfl, by rw [e1], by rw [e1]; exact ic_seen c _ t v _⟩
        · skip
          refine i_bipush dX8_seen_33 (by decide) ?_
          refine r_iret rfl dX8_seen_35 ?_
          have e1 : s_seen M t v = (-4, M) := by unfold s_seen; rw [if_pos ⟨by omega, by omega⟩, if_pos (by omega)]
          exact ⟨_, rfl, by rw [e1], by rw [e1]; exact c⟩
      · skip
        refine i_bipush dX8_seen_18 (by decide) ?_
        refine r_iret rfl dX8_seen_20 ?_
        exact ⟨_, rfl, by unfold s_seen; rw [if_neg (by omega)], by unfold s_seen; rw [if_neg (by omega)]; exact c⟩

set_option maxRecDepth 20000 in
theorem c_forget (M σ : rl_S) (c : IC M σ) (hw : WF M)  : Ct cW mX8_forget [.ref 0] σ (qI (fun z σ' => z = (s_forget M).1 ∧ IC (s_forget M).2 σ')) := by
  refine Ct.of plX8 (Nat.le_of_ble_eq_true rfl) ?_
  obtain ⟨gt, gs, gp, gg, gn, gh1, gf⟩ := id c
  have hb := wf_hb hw
  have hh := gs.2.2.2.2
  refine r_aload_n dX8_forget_0 rfl ?_
  refine r_get (k := 0) lfX8_56 dX8_forget_1 (Nat.le_of_ble_eq_true rfl) rfl rfl ?_
  refine r_get (k := 17) lfX8_220 dX8_forget_4 (Nat.le_of_ble_eq_true rfl) rfl rfl ?_
  refine r_istore_n dX8_forget_7 (Nat.le_of_ble_eq_true rfl) ?_
  refine r_aload_n dX8_forget_8 rfl ?_
  refine r_get (k := 0) lfX8_56 dX8_forget_9 (Nat.le_of_ble_eq_true rfl) rfl rfl ?_
  refine i_const dX8_forget_12 ?_
  refine i_put (k := 17) lpX8_220 dX8_forget_13 (Nat.le_of_ble_eq_true rfl) rfl rfl ?_
  refine r_iload_n dX8_forget_16 rfl ?_
  refine r_iret rfl dX8_forget_17 ?_
  exact ⟨_, rfl, by rw [gn.1]; rfl, ic_n c 0⟩
