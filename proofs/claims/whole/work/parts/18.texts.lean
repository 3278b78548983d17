/-! what calls change -/
theorem b0_up (M : rl_S) {n : Int} (v : Int) (n0 : 0 ≤ n) (n1 : n < 23) : b0 (sup M 2 n.toNat v) = bUp (b0 M) n v := by
  funext z
  unfold b0 bUp
  dsimp only
  by_cases hz : z = n
  · subst hz; rw [if_pos ⟨n0, n1⟩, if_pos rfl, sup_h]
  · rw [if_neg hz]
    by_cases h : 0 ≤ z ∧ z < 23
    · rw [if_pos h, if_pos h, sup_i _ _ _ _ (by omega)]
    · rw [if_neg h, if_neg h]
theorem b1_up (M : rl_S) {n : Int} (v : Int) (n0 : 0 ≤ n) (n1 : n < 23) : b1 (sup M 2 (23 + n.toNat) v) = bUp (b1 M) n v := by
  funext z
  unfold b1 bUp
  dsimp only
  by_cases hz : z = n
  · subst hz; rw [if_pos ⟨n0, n1⟩, if_pos rfl, sup_h]
  · rw [if_neg hz]
    by_cases h : 0 ≤ z ∧ z < 23
    · rw [if_pos h, if_pos h, sup_i _ _ _ _ (by omega)]
    · rw [if_neg h, if_neg h]
theorem b1_o (M : rl_S) {n : Int} (v : Int) (n0 : 0 ≤ n) (n1 : n < 23) : b1 (sup M 2 n.toNat v) = b1 M := by
  funext z
  unfold b1
  by_cases h : 0 ≤ z ∧ z < 23
  · rw [if_pos h, if_pos h, sup_i _ _ _ _ (by omega)]
  · rw [if_neg h, if_neg h]
theorem b0_o (M : rl_S) {n : Int} (v : Int) (n0 : 0 ≤ n) (n1 : n < 23) : b0 (sup M 2 (23 + n.toNat) v) = b0 M := by
  funext z
  unfold b0
  by_cases h : 0 ≤ z ∧ z < 23
  · rw [if_pos h, if_pos h, sup_i _ _ _ _ (by omega)]
  · rw [if_neg h, if_neg h]
theorem pS_up (M : rl_S) {n : Int} (v : Int) (n0 : 0 ≤ n) : pS (sup M 5 n.toNat v) = bUp (pS M) n v := by
  funext z
  unfold pS bUp
  dsimp only
  by_cases hz : z = n
  · subst hz; rw [if_pos n0, if_pos rfl, sup_h]
  · rw [if_neg hz]
    by_cases h : 0 ≤ z
    · rw [if_pos h, if_pos h, sup_i _ _ _ _ (by omega)]
    · rw [if_neg h, if_neg h]
theorem BB_up {b : Int → Int} (h : BB b) {n v : Int} (v0 : 0 ≤ v ∧ v ≤ 255) : BB (bUp b n v) := fun z z0 z1 => by
  unfold bUp
  split
  · exact v0
  · exact h z z0 z1
/-- a state whose texts alone are others -/
theorem wf_text {M M' : rl_S} (h : WF M) (h0 : 0 ≤ M' 1 0 ∧ M' 1 0 ≤ 23) (h1 : 0 ≤ M' 1 1 ∧ M' 1 1 ≤ 3) (c0 : BB (b0 M')) (c1 : BB (b1 M')) (m : ∀ k, k ≠ 1 → k ≠ 2 → M' k = M k) : WF M' := by
  obtain ⟨_, _, _, _, g1, g2, g3, g4, g5, g6, g7, g8⟩ := h
  refine ⟨h0, h1, c0, c1, ?_, ?_, ?_, ?_, ?_, ?_, ?_, ?_⟩
  · unfold pS; rw [m 5 (by decide) (by decide)]; exact g1
  · rw [m 0 (by decide) (by decide)]; exact g2
  · rw [m 0 (by decide) (by decide)]; exact g3
  · rw [m 6 (by decide) (by decide)]; exact g4
  · rw [m 0 (by decide) (by decide)]; exact g5
  · rw [m 8 (by decide) (by decide), m 9 (by decide) (by decide)]; exact g6
  · rw [m 10 (by decide) (by decide), m 11 (by decide) (by decide), m 12 (by decide) (by decide), m 13 (by decide) (by decide)]; exact g7
  · rw [m 0 (by decide) (by decide)]; exact g8
theorem ic_text {M M' σ σ' : rl_S} (c : IC M σ) (ht : gText σ' M') (hs : gSea σ' M') (hp : gShip σ' M') (f : ∀ k i, 14 ≤ k → σ' k i = σ k i) (f0 : σ' 0 9 = σ 0 9) (m : ∀ k, 6 ≤ k → M' k = M k) (m0 : M' 0 = M 0) : IC M' σ' := by
  obtain ⟨_, _, _, g, ⟨n1, n2⟩, ⟨⟨a1, a2, a3, a4⟩, ⟨c1, c2, c3, c4⟩, ⟨d1, d2, d3, d4⟩, ⟨e1, e2, e3, e4⟩⟩, f1⟩ := c
  refine ⟨ht, hs, hp, ?_, ⟨?_, ?_⟩, ?_, ?_⟩
  · intro i hi; rw [f 15 i (by decide), m 6 (by decide)]; exact g i hi
  · rw [f 17 2 (by decide), m0]; exact n1
  · intro i hi; rw [f 18 i (by decide), f 19 i (by decide), m 8 (by decide), m 9 (by decide)]; exact n2 i hi
  · unfold gSheet gSheet1
    rw [m 10 (by decide), m 11 (by decide), m 12 (by decide), m 13 (by decide)]
    refine ⟨⟨?_, ?_, ?_, fun i hi => ?_⟩, ⟨?_, ?_, ?_, fun i hi => ?_⟩, ⟨?_, ?_, ?_, fun i hi => ?_⟩, ⟨?_, ?_, ?_, fun i hi => ?_⟩⟩ <;> rw [f _ _ (by decide)] <;> first | assumption | exact a4 i hi | exact c4 i hi | exact d4 i hi | exact e4 i hi
  · rw [f0, m0]; exact f1
def s_type (M : rl_S) (t b : Int) : Int × rl_S := if (t = 0 ∨ t = 1) ∧ 0 ≤ b ∧ b ≤ 255 then (if (if t = 0 then 23 else 3) ≤ M 1 t.toNat then (-4, M) else (M 1 t.toNat + 1, sup (sup M 2 (23 * t.toNat + (M 1 t.toNat).toNat) b) 1 t.toNat (M 1 t.toNat + 1))) else (-2, M)
def s_wipe (M : rl_S) (t : Int) : Int × rl_S := if t = 0 ∨ t = 1 then (M 1 t.toNat, sup M 1 t.toNat 0) else (-2, M)
def s_undo (M : rl_S) (t : Int) : Int × rl_S := if t = 0 ∨ t = 1 then (if M 1 t.toNat = 0 then (-3, M) else (M 1 t.toNat - 1, sup M 1 t.toNat (M 1 t.toNat - 1))) else (-2, M)
theorem wf_type {M : rl_S} (h : WF M) (t b : Int) : WF (s_type M t b).2 := by
  obtain ⟨h0, h1⟩ := wf_0 h
  have hb0 := h.2.2.1
  have hb1 := h.2.2.2.1
  unfold s_type
  split
  · rename_i hc
    obtain ⟨hc1, hc2⟩ := hc
    rcases hc1 with rfl | rfl
    · by_cases h3 : 23 ≤ M 1 0
      · rw [if_pos (show (if (0 : Int) = 0 then 23 else 3) ≤ M 1 (0 : Int).toNat from h3)]; exact h
      · rw [if_neg (show ¬ (if (0 : Int) = 0 then 23 else 3) ≤ M 1 (0 : Int).toNat from h3)]
        have e : (23 * (0 : Int).toNat + (M 1 (0 : Int).toNat).toNat) = (M 1 0).toNat := by show 0 + (M 1 0).toNat = _; omega
        dsimp only
        rw [e]
        refine wf_text h ?_ ?_ ?_ ?_ (fun k k1 k2 => ?_)
        · show 0 ≤ M 1 0 + 1 ∧ M 1 0 + 1 ≤ 23; omega
        · exact h1
        · exact (b0_up M b h0.1 (by omega)).symm ▸ BB_up hb0 hc2
        · exact (b1_o M b h0.1 (by omega)).symm ▸ hb1
        · rw [sup_ne _ _ _ k1, sup_ne _ _ _ k2]
    · by_cases h3 : 3 ≤ M 1 1
      · rw [if_pos (show (if (1 : Int) = 0 then 23 else 3) ≤ M 1 (1 : Int).toNat from h3)]; exact h
      · rw [if_neg (show ¬ (if (1 : Int) = 0 then 23 else 3) ≤ M 1 (1 : Int).toNat from h3)]
        have e : (23 * (1 : Int).toNat + (M 1 (1 : Int).toNat).toNat) = 23 + (M 1 1).toNat := rfl
        dsimp only
        rw [e]
        refine wf_text h ?_ ?_ ?_ ?_ (fun k k1 k2 => ?_)
        · exact h0
        · show 0 ≤ M 1 1 + 1 ∧ M 1 1 + 1 ≤ 3; omega
        · exact (b0_o M b h1.1 (by omega)).symm ▸ hb0
        · exact (b1_up M b h1.1 (by omega)).symm ▸ BB_up hb1 hc2
        · rw [sup_ne _ _ _ k1, sup_ne _ _ _ k2]
  · exact h
theorem wf_size {M : rl_S} (h : WF M) (t : Nat) (v : Int) (ht : t = 0 ∨ t = 1) (v0 : 0 ≤ v) (v1 : v ≤ M 1 t) : WF (sup M 1 t v) := by
  obtain ⟨h0, h1⟩ := wf_0 h
  rcases ht with rfl | rfl
  · exact wf_text h (by rw [sup_h]; omega) (by rw [sup_i _ _ _ _ (by decide)]; exact h1) h.2.2.1 h.2.2.2.1 (fun k k1 _ => sup_ne _ _ _ k1)
  · exact wf_text h (by rw [sup_i _ _ _ _ (by decide)]; exact h0) (by rw [sup_h]; omega) h.2.2.1 h.2.2.2.1 (fun k k1 _ => sup_ne _ _ _ k1)
theorem wf_wipe {M : rl_S} (h : WF M) (t : Int) : WF (s_wipe M t).2 := by
  obtain ⟨h0, h1⟩ := wf_0 h
  unfold s_wipe
  split
  · rename_i hc
    rcases hc with rfl | rfl
    · exact wf_size h 0 0 (Or.inl rfl) (by decide) h0.1
    · exact wf_size h 1 0 (Or.inr rfl) (by decide) h1.1
  · exact h
theorem wf_undo {M : rl_S} (h : WF M) (t : Int) : WF (s_undo M t).2 := by
  obtain ⟨h0, h1⟩ := wf_0 h
  unfold s_undo
  split
  · rename_i hc
    split
    · exact h
    · rename_i hz
      rcases hc with rfl | rfl
      · change ¬ M 1 0 = 0 at hz
        exact wf_size h 0 (M 1 0 - 1) (Or.inl rfl) (by omega) (by omega)
      · change ¬ M 1 1 = 0 at hz
        exact wf_size h 1 (M 1 1 - 1) (Or.inr rfl) (by omega) (by omega)
  · exact h
/-- texts understood anew -/
theorem und1_g {M M' σ σ1 σ2 : rl_S} (g : gText σ M) (u : und_1 σ1 (b0 M') σ2) (f1 : ∀ k i, k ≠ 2 → (k = 1 → i ≠ 5) → σ1 k i = σ k i) (hs : SB 2 σ1 (b0 M')) (h5 : σ1 1 5 = M' 1 0) (e1 : b1 M' = b1 M) (e2 : M' 1 1 = M 1 1) : gText σ2 M' := by
  obtain ⟨u1, u2, u3, u4, u5⟩ := u
  obtain ⟨t1, t2, t3, t4, t5, t6, t7, t8, t9, t10, t11, t12⟩ := g
  have er : nR M' = nR M := by unfold nR; rw [e1, e2]
  have F : ∀ k i, 5 ≤ k → σ2 k i = σ k i := fun k i h => (u5 k i (by omega) (by omega) (by omega)).trans (f1 k i (by omega) (by omega))
  rw [h5] at u1 u2 u3 u4
  refine ⟨fun z z0 z1 => (u5 2 _ (by decide) (by decide) (fun q => absurd q (by decide))).trans (hs z z0 z1), ?_, (u5 1 5 (by decide) (by decide) (fun _ => by decide)).trans h5, ?_, u1, ?_, u2, ?_, u3, u4, ?_, ?_⟩
  · intro z z0 z1; rw [e1, F 6 _ (by decide)]; exact t2 z z0 z1
  · rw [F 5 5 (by decide), e2]; exact t4
  · rw [F 5 6 (by decide), e1, e2]; exact t6
  · rw [F 5 7 (by decide), er]; exact t8
  · intro z z0 z1; rw [e1, er, F 7 _ (by decide)]; exact t11 z z0 z1
  · intro z z0 z1; rw [e1, er, F 8 _ (by decide)]; exact t12 z z0 z1
theorem und5_g {M M' σ σ1 σ2 : rl_S} (g : gText σ M) (u : und_5 σ1 (b1 M') σ2) (f1 : ∀ k i, k ≠ 6 → (k = 5 → i ≠ 5) → σ1 k i = σ k i) (hs : SB 6 σ1 (b1 M')) (h5 : σ1 5 5 = M' 1 1) (e1 : b0 M' = b0 M) (e2 : M' 1 0 = M 1 0) : gText σ2 M' := by
  obtain ⟨u1, u2, u3, u4, u5⟩ := u
  obtain ⟨t1, t2, t3, t4, t5, t6, t7, t8, t9, t10, t11, t12⟩ := g
  have er : nS M' = nS M := by unfold nS; rw [e1, e2]
  have F : ∀ k i, k < 5 → σ2 k i = σ k i := fun k i h => (u5 k i (by omega) (by omega) (by omega)).trans (f1 k i (by omega) (by omega))
  rw [h5] at u1 u2 u3 u4
  refine ⟨?_, fun z z0 z1 => (u5 6 _ (by decide) (by decide) (fun q => absurd q (by decide))).trans (hs z z0 z1), ?_, (u5 5 5 (by decide) (by decide) (fun _ => by decide)).trans h5, ?_, u1, ?_, u2, ?_, ?_, u3, u4⟩
  · intro z z0 z1; rw [e1, F 2 _ (by decide)]; exact t1 z z0 z1
  · rw [F 1 5 (by decide), e2]; exact t3
  · rw [F 1 6 (by decide), e1, e2]; exact t5
  · rw [F 1 7 (by decide), er]; exact t7
  · intro z z0 z1; unfold hS; rw [e1, er, F 3 _ (by decide)]; exact t9 z z0 z1
  · intro z z0 z1; unfold lS; rw [e1, er, F 4 _ (by decide)]; exact t10 z z0 z1
/-- what taking up the texts does -/
def tku (σ M : rl_S) : rl_S → Prop := fun σ' => gText σ' M ∧ gSea σ' M ∧ gShip σ' M ∧ (∀ k i, 14 ≤ k → σ' k i = σ k i) ∧ σ' 0 9 = σ 0 9
set_option maxRecDepth 20000 in
theorem c_takeUp (M σ : rl_S) (hw : WF M) (gt : gText σ M) (p : S6 10 σ (pS M)) (e4 : σ 9 4 = M 0 7) (e5 : σ 9 5 = M 0 8) : Ct cW mX8_takeUpTexts [.ref 0] σ (qV (tku σ M)) := by
  refine Ct.of plX8 (Nat.le_of_ble_eq_true rfl) ?_
  have w1 := wf_1 hw
  refine r_aload_n dX8_takeUpTexts_0 rfl ?_
  refine r_get (k := 0) lfX8_26 dX8_takeUpTexts_1 (Nat.le_of_ble_eq_true rfl) rfl rfl ?_
  refine i_cvV (c_renew σ (nS M) (hS M) (lS M) (pS M) (wf_sw hw) gt.2.2.2.2.2.2.1 gt.2.2.2.2.2.2.2.2.1 gt.2.2.2.2.2.2.2.2.2.1 p (by rw [e4]; exact w1.1) (by rw [e5]; exact w1.2)) lmX8_360 dX8_takeUpTexts_4 (Nat.le_of_ble_eq_true rfl) rfl ⟨_, _, rfl⟩ (by decide) (by decide) rfl rfl (Nat.le_of_ble_eq_true rfl) (fun σ1 hr => ?_)
  refine r_aload_n dX8_takeUpTexts_7 rfl ?_
  refine r_get (k := 0) lfX8_33 dX8_takeUpTexts_8 (Nat.le_of_ble_eq_true rfl) rfl rfl ?_
  refine i_cvV (c_shipRenew σ1 _ _ (fun z z0 z1 => (hr.2.2 7 _ (by decide) (by decide)).trans (gt.2.2.2.2.2.2.2.2.2.2.1 z z0 z1)) (fun z z0 z1 => (hr.2.2 8 _ (by decide) (by decide)).trans (gt.2.2.2.2.2.2.2.2.2.2.2 z z0 z1))) lmX8_363 dX8_takeUpTexts_11 (Nat.le_of_ble_eq_true rfl) rfl ⟨_, _, rfl⟩ (by decide) (by decide) rfl rfl (Nat.le_of_ble_eq_true rfl) (fun σ2 hp => ?_)
  refine r_vret rfl dX8_takeUpTexts_14 ?_
  obtain ⟨r1, r2, r3⟩ := hr
  subst hp
  have F : ∀ k i, k ≠ 11 → k ≠ 12 → k ≠ 13 → sup (sup σ1 13 1 (gR M)) 13 2 (lR M) k i = σ k i := fun k i h1 h2 h3 => (sup_k _ _ _ _ _ h3).trans ((sup_k _ _ _ _ _ h3).trans (r3 k i h1 h2))
  obtain ⟨t1, t2, t3, t4, t5, t6, t7, t8, t9, t10, t11, t12⟩ := gt
  refine ⟨rfl, ⟨?_, ?_, ?_, ?_, ?_, ?_, ?_, ?_, ?_, ?_, ?_, ?_⟩, ⟨?_, ?_, ?_, ?_, ?_⟩, ⟨?_, ?_⟩, ?_, ?_⟩
  · exact fun z z0 z1 => (F 2 _ (by decide) (by decide) (by decide)).trans (t1 z z0 z1)
  · exact fun z z0 z1 => (F 6 _ (by decide) (by decide) (by decide)).trans (t2 z z0 z1)
  · exact (F 1 5 (by decide) (by decide) (by decide)).trans t3
  · exact (F 5 5 (by decide) (by decide) (by decide)).trans t4
  · exact (F 1 6 (by decide) (by decide) (by decide)).trans t5
  · exact (F 5 6 (by decide) (by decide) (by decide)).trans t6
  · exact (F 1 7 (by decide) (by decide) (by decide)).trans t7
  · exact (F 5 7 (by decide) (by decide) (by decide)).trans t8
  · exact fun z z0 z1 => (F 3 _ (by decide) (by decide) (by decide)).trans (t9 z z0 z1)
  · exact fun z z0 z1 => (F 4 _ (by decide) (by decide) (by decide)).trans (t10 z z0 z1)
  · exact fun z z0 z1 => (F 7 _ (by decide) (by decide) (by decide)).trans (t11 z z0 z1)
  · exact fun z z0 z1 => (F 8 _ (by decide) (by decide) (by decide)).trans (t12 z z0 z1)
  · exact fun z z0 z1 => (F 10 _ (by decide) (by decide) (by decide)).trans (p z z0 z1)
  · exact (F 9 4 (by decide) (by decide) (by decide)).trans e4
  · exact (F 9 5 (by decide) (by decide) (by decide)).trans e5
  · exact fun z z0 z1 => (sup_k _ _ _ _ _ (by decide)).trans ((sup_k _ _ _ _ _ (by decide)).trans (r1 z z0 z1))
  · refine fun z z0 z1 => (sup_k _ _ _ _ _ (by decide)).trans ((sup_k _ _ _ _ _ (by decide)).trans ?_)
    rw [r2 z z0 z1, e4, e5]; rfl
  · exact (sup_i _ _ _ _ (by decide)).trans (sup_h _ _ _ _)
  · exact sup_h _ _ _ _
  · exact fun k i h => F k i (by omega) (by omega) (by omega)
  · exact F 0 9 (by decide) (by decide) (by decide)

set_option maxRecDepth 20000 in
theorem c_type (M σ : rl_S) (c : IC M σ) (hw : WF M) (t b : Int) (ht : -2147483648 ≤ t ∧ t < 2147483648) (hbb : -2147483648 ≤ b ∧ b < 2147483648) : Ct cW mX8_type [.ref 0, .int (iI t), .int (iI b)] σ (qI (fun z σ' => z = (s_type M t b).1 ∧ IC (s_type M t b).2 σ')) := by
  refine Ct.of plX8 (Nat.le_of_ble_eq_true rfl) ?_
  obtain ⟨gt, gs, gp, gg, gn, gh1, gf⟩ := id c
  have hb := wf_hb hw
  have hh := gs.2.2.2.2
  have h01 := wf_0 hw
  have e15 := gt.2.2.1
  have e55 := gt.2.2.2.1
  rcases (show t = 0 ∨ t = 1 ∨ (t ≠ 0 ∧ t ≠ 1) by omega) with rfl | rfl | ⟨n0, n1⟩
  · skip
    refine r_aload_n dX8_type_0 rfl ?_
    refine r_iload_n dX8_type_1 rfl ?_
    refine i_cvP (c_textOf_0 σ) lmX8_74 dX8_type_2 (Nat.le_of_ble_eq_true rfl) rfl ⟨_, _, rfl⟩ (by decide) (by decide) rfl rfl (Nat.le_of_ble_eq_true rfl) ?_
    refine r_astore_n dX8_type_5 (Nat.le_of_ble_eq_true rfl) ?_
    refine r_aload_n dX8_type_6 rfl ?_
    refine r_ifnull dX8_type_7 ?_
    refine r_iload_n dX8_type_10 rfl ?_
    refine i_if_lt 21 dX8_type_11 rfl ⟨by omega, by omega⟩ (fun q11 => ?_) (fun q11 => ?_)
    · skip
      refine i_bipush dX8_type_21 (by decide) ?_
      refine r_iret rfl dX8_type_23 ?_
      exact ⟨_, rfl, by unfold s_type; rw [if_neg (by omega)], by unfold s_type; rw [if_neg (by omega)]; exact c⟩
    · skip
      refine r_iload_n dX8_type_14 rfl ?_
      refine i_sipush dX8_type_15 (by decide) ?_
      refine i_icmp_le 24 dX8_type_18 rfl ⟨by omega, by omega⟩ ⟨by omega, by omega⟩ (fun q18 => ?_) (fun q18 => ?_)
      · skip
        refine r_aload_n dX8_type_24 rfl ?_
        refine i_cvP (c_isFull_1 σ (by omega) (by omega)) lmX8_78 dX8_type_25 (Nat.le_of_ble_eq_true rfl) rfl ⟨_, _, rfl⟩ (by decide) (by decide) rfl rfl (Nat.le_of_ble_eq_true rfl) ?_
        have ob1 := ob_bd (decide (23 ≤ σ 1 5))
        refine i_if_eq 34 dX8_type_28 rfl ⟨by omega, by omega⟩ (fun q28 => ?_) (fun q28 => ?_)
        · have e28 := ob_df q28
          refine r_aload_n dX8_type_34 rfl ?_
          refine r_iload_n dX8_type_35 rfl ?_
          refine i_cvV (c_append_1 σ (b0 M) gt.1 hw.2.2.1 b ⟨by omega, by omega⟩ (by omega) (by omega)) lmX8_82 dX8_type_36 (Nat.le_of_ble_eq_true rfl) rfl ⟨_, _, rfl⟩ (by decide) (by decide) rfl rfl (Nat.le_of_ble_eq_true rfl) (fun σ1 hu => ?_)
          have hb2 : 0 ≤ b ∧ b ≤ 255 := ⟨by omega, by omega⟩
          have e1 : s_type M 0 b = (M 1 0 + 1, (sup (sup M 2 (M 1 0).toNat b) 1 0 (M 1 0 + 1))) := by
            unfold s_type
            rw [if_pos ⟨by omega, hb2⟩, if_neg (show ¬ (if (0 : Int) = 0 then 23 else 3) ≤ M 1 (0 : Int).toNat from (show ¬ (23 : Int) ≤ M 1 0 by omega))]
            rw [show (23 * (0 : Int).toNat + (M 1 (0 : Int).toNat).toNat) = (M 1 0).toNat by show 0 + (M 1 0).toNat = _; omega]; rfl
          have hw1 : WF (sup (sup M 2 (M 1 0).toNat b) 1 0 (M 1 0 + 1)) := by have := wf_type hw 0 b; rw [e1] at this; exact this
          have ebb : b0 (sup (sup M 2 (M 1 0).toNat b) 1 0 (M 1 0 + 1)) = bUp (b0 M) (M 1 0) b := b0_up M b (by omega) (by omega)
          have ebo : b1 (sup (sup M 2 (M 1 0).toNat b) 1 0 (M 1 0 + 1)) = b1 M := b1_o M b (by omega) (by omega)
          rw [e15, ← ebb] at hu
          have gT : gText σ1 (sup (sup M 2 (M 1 0).toNat b) 1 0 (M 1 0 + 1)) := und1_g gt hu (fun k i h1 h2 => by
              by_cases hk : k = 1
              · subst hk; rw [sup_i _ _ _ _ (h2 rfl), sup_k _ _ _ _ _ h1]
              · rw [sup_k _ _ _ _ _ hk, sup_k _ _ _ _ _ h1])
            (fun z z0 z1 => by
              rw [sup_k _ _ _ _ _ (show 2 ≠ 1 by decide), ebb]
              unfold bUp
              by_cases hz : z = M 1 0
              · rw [if_pos hz, hz, sup_h]
              · rw [if_neg hz, sup_i _ _ _ _ (by omega)]; exact gt.1 z z0 z1)
            (by rw [sup_h]; rfl) ebo rfl
          have F1 : ∀ k i, 9 ≤ k → σ1 k i = σ k i := fun k i h => (hu.2.2.2.2 k i (by omega) (by omega) (by omega)).trans (by rw [sup_k _ _ _ _ _ (by omega), sup_k _ _ _ _ _ (by omega)])
          have F0 : σ1 0 9 = σ 0 9 := (hu.2.2.2.2 0 9 (by decide) (by decide) (by decide)).trans (by rw [sup_k _ _ _ _ _ (by decide), sup_k _ _ _ _ _ (by decide)])
          refine r_aload_n dX8_type_39 rfl ?_
          refine i_cvV (c_takeUp (sup (sup M 2 (M 1 0).toNat b) 1 0 (M 1 0 + 1)) σ1 hw1 gT (fun z z0 z1 => (F1 10 _ (by decide)).trans (gs.1 z z0 z1)) ((F1 9 4 (by decide)).trans gs.2.1) ((F1 9 5 (by decide)).trans gs.2.2.1)) lmX8_86 dX8_type_40 (Nat.le_of_ble_eq_true rfl) rfl ⟨_, _, rfl⟩ (by decide) (by decide) rfl rfl (Nat.le_of_ble_eq_true rfl) (fun σ2 ht => ?_)
          refine r_aload_n dX8_type_43 rfl ?_
          refine r_get (k := 1) lfX8_89 dX8_type_44 (Nat.le_of_ble_eq_true rfl) rfl rfl ?_
          refine r_iret rfl dX8_type_47 ?_
          refine ⟨_, rfl, ?_, ?_⟩
          · rw [e1, ht.1.2.2.1]; rfl
          · rw [e1]; exact ic_text c ht.1 ht.2.1 ht.2.2.1 (fun k i h => (ht.2.2.2.1 k i h).trans (F1 k i (by omega))) (ht.2.2.2.2.trans F0) (fun k h => by dsimp only; rw [sup_ne _ _ _ (show k ≠ 1 by omega), sup_ne _ _ _ (show k ≠ 2 by omega)]) rfl
        · have e28 := ob_dt q28
          refine i_bipush dX8_type_31 (by decide) ?_
          refine r_iret rfl dX8_type_33 ?_
          have e9 : s_type M 0 b = (-4, M) := by unfold s_type; rw [if_pos ⟨by omega, by omega⟩, if_pos (show (if (0 : Int) = 0 then 23 else 3) ≤ M 1 (0 : Int).toNat from (show (23 : Int) ≤ M 1 0 by omega))]
          exact ⟨_, rfl, by rw [e9], by rw [e9]; exact c⟩
      · skip
        refine i_bipush dX8_type_21 (by decide) ?_
        refine r_iret rfl dX8_type_23 ?_
        exact ⟨_, rfl, by unfold s_type; rw [if_neg (by omega)], by unfold s_type; rw [if_neg (by omega)]; exact c⟩
  · skip
    refine r_aload_n dX8_type_0 rfl ?_
    refine r_iload_n dX8_type_1 rfl ?_
    refine i_cvP (c_textOf_1 σ) lmX8_74 dX8_type_2 (Nat.le_of_ble_eq_true rfl) rfl ⟨_, _, rfl⟩ (by decide) (by decide) rfl rfl (Nat.le_of_ble_eq_true rfl) ?_
    refine r_astore_n dX8_type_5 (Nat.le_of_ble_eq_true rfl) ?_
    refine r_aload_n dX8_type_6 rfl ?_
    refine r_ifnull dX8_type_7 ?_
    refine r_iload_n dX8_type_10 rfl ?_
    refine i_if_lt 21 dX8_type_11 rfl ⟨by omega, by omega⟩ (fun q11 => ?_) (fun q11 => ?_)
    · skip
      refine i_bipush dX8_type_21 (by decide) ?_
      refine r_iret rfl dX8_type_23 ?_
      exact ⟨_, rfl, by unfold s_type; rw [if_neg (by omega)], by unfold s_type; rw [if_neg (by omega)]; exact c⟩
    · skip
      refine r_iload_n dX8_type_14 rfl ?_
      refine i_sipush dX8_type_15 (by decide) ?_
      refine i_icmp_le 24 dX8_type_18 rfl ⟨by omega, by omega⟩ ⟨by omega, by omega⟩ (fun q18 => ?_) (fun q18 => ?_)
      · skip
        refine r_aload_n dX8_type_24 rfl ?_
        refine i_cvP (c_isFull_5 σ (by omega) (by omega)) lmX8_78 dX8_type_25 (Nat.le_of_ble_eq_true rfl) rfl ⟨_, _, rfl⟩ (by decide) (by decide) rfl rfl (Nat.le_of_ble_eq_true rfl) ?_
        have ob1 := ob_bd (decide (3 ≤ σ 5 5))
        refine i_if_eq 34 dX8_type_28 rfl ⟨by omega, by omega⟩ (fun q28 => ?_) (fun q28 => ?_)
        · have e28 := ob_df q28
          refine r_aload_n dX8_type_34 rfl ?_
          refine r_iload_n dX8_type_35 rfl ?_
          refine i_cvV (c_append_5 σ (b1 M) gt.2.1 hw.2.2.2.1 b ⟨by omega, by omega⟩ (by omega) (by omega)) lmX8_82 dX8_type_36 (Nat.le_of_ble_eq_true rfl) rfl ⟨_, _, rfl⟩ (by decide) (by decide) rfl rfl (Nat.le_of_ble_eq_true rfl) (fun σ1 hu => ?_)
          have hb2 : 0 ≤ b ∧ b ≤ 255 := ⟨by omega, by omega⟩
          have e1 : s_type M 1 b = (M 1 1 + 1, (sup (sup M 2 (23 + (M 1 1).toNat) b) 1 1 (M 1 1 + 1))) := by
            unfold s_type
            rw [if_pos ⟨by omega, hb2⟩, if_neg (show ¬ (if (1 : Int) = 0 then 23 else 3) ≤ M 1 (1 : Int).toNat from (show ¬ (3 : Int) ≤ M 1 1 by omega))]
            rfl
          have hw1 : WF (sup (sup M 2 (23 + (M 1 1).toNat) b) 1 1 (M 1 1 + 1)) := by have := wf_type hw 1 b; rw [e1] at this; exact this
          have ebb : b1 (sup (sup M 2 (23 + (M 1 1).toNat) b) 1 1 (M 1 1 + 1)) = bUp (b1 M) (M 1 1) b := b1_up M b (by omega) (by omega)
          have ebo : b0 (sup (sup M 2 (23 + (M 1 1).toNat) b) 1 1 (M 1 1 + 1)) = b0 M := b0_o M b (by omega) (by omega)
          rw [e55, ← ebb] at hu
          have gT : gText σ1 (sup (sup M 2 (23 + (M 1 1).toNat) b) 1 1 (M 1 1 + 1)) := und5_g gt hu (fun k i h1 h2 => by
              by_cases hk : k = 5
              · subst hk; rw [sup_i _ _ _ _ (h2 rfl), sup_k _ _ _ _ _ h1]
              · rw [sup_k _ _ _ _ _ hk, sup_k _ _ _ _ _ h1])
            (fun z z0 z1 => by
              rw [sup_k _ _ _ _ _ (show 6 ≠ 5 by decide), ebb]
              unfold bUp
              by_cases hz : z = M 1 1
              · rw [if_pos hz, hz, sup_h]
              · rw [if_neg hz, sup_i _ _ _ _ (by omega)]; exact gt.2.1 z z0 z1)
            (by rw [sup_h]; rfl) ebo rfl
          have F1 : ∀ k i, 9 ≤ k → σ1 k i = σ k i := fun k i h => (hu.2.2.2.2 k i (by omega) (by omega) (by omega)).trans (by rw [sup_k _ _ _ _ _ (by omega), sup_k _ _ _ _ _ (by omega)])
          have F0 : σ1 0 9 = σ 0 9 := (hu.2.2.2.2 0 9 (by decide) (by decide) (by decide)).trans (by rw [sup_k _ _ _ _ _ (by decide), sup_k _ _ _ _ _ (by decide)])
          refine r_aload_n dX8_type_39 rfl ?_
          refine i_cvV (c_takeUp (sup (sup M 2 (23 + (M 1 1).toNat) b) 1 1 (M 1 1 + 1)) σ1 hw1 gT (fun z z0 z1 => (F1 10 _ (by decide)).trans (gs.1 z z0 z1)) ((F1 9 4 (by decide)).trans gs.2.1) ((F1 9 5 (by decide)).trans gs.2.2.1)) lmX8_86 dX8_type_40 (Nat.le_of_ble_eq_true rfl) rfl ⟨_, _, rfl⟩ (by decide) (by decide) rfl rfl (Nat.le_of_ble_eq_true rfl) (fun σ2 ht => ?_)
          refine r_aload_n dX8_type_43 rfl ?_
          refine r_get (k := 5) lfX8_89 dX8_type_44 (Nat.le_of_ble_eq_true rfl) rfl rfl ?_
          refine r_iret rfl dX8_type_47 ?_
          refine ⟨_, rfl, ?_, ?_⟩
          · rw [e1, ht.1.2.2.2.1]; rfl
          · rw [e1]; exact ic_text c ht.1 ht.2.1 ht.2.2.1 (fun k i h => (ht.2.2.2.1 k i h).trans (F1 k i (by omega))) (ht.2.2.2.2.trans F0) (fun k h => by dsimp only; rw [sup_ne _ _ _ (show k ≠ 1 by omega), sup_ne _ _ _ (show k ≠ 2 by omega)]) rfl
        · have e28 := ob_dt q28
          refine i_bipush dX8_type_31 (by decide) ?_
          refine r_iret rfl dX8_type_33 ?_
          have e9 : s_type M 1 b = (-4, M) := by unfold s_type; rw [if_pos ⟨by omega, by omega⟩, if_pos (show (if (1 : Int) = 0 then 23 else 3) ≤ M 1 (1 : Int).toNat from (show (3 : Int) ≤ M 1 1 by omega))]
          exact ⟨_, rfl, by rw [e9], by rw [e9]; exact c⟩
      · skip
        refine i_bipush dX8_type_21 (by decide) ?_
        refine r_iret rfl dX8_type_23 ?_
        exact ⟨_, rfl, by unfold s_type; rw [if_neg (by omega)], by unfold s_type; rw [if_neg (by omega)]; exact c⟩
  · skip
    refine r_aload_n dX8_type_0 rfl ?_
    refine r_iload_n dX8_type_1 rfl ?_
    refine i_cvP (c_textOf_n σ t ht n0 n1) lmX8_74 dX8_type_2 (Nat.le_of_ble_eq_true rfl) rfl ⟨_, _, rfl⟩ (by decide) (by decide) rfl rfl (Nat.le_of_ble_eq_true rfl) ?_
    refine r_astore_nN dX8_type_5 (Nat.le_of_ble_eq_true rfl) ?_
    refine r_aload_nN dX8_type_6 rfl ?_
    refine r_ifnullN 21 dX8_type_7 rfl ?_
    refine i_bipush dX8_type_21 (by decide) ?_
    refine r_iret rfl dX8_type_23 ?_
    exact ⟨_, rfl, by unfold s_type; rw [if_neg (by omega)], by unfold s_type; rw [if_neg (by omega)]; exact c⟩

set_option maxRecDepth 20000 in
theorem c_wipe (M σ : rl_S) (c : IC M σ) (hw : WF M) (t : Int) (ht : -2147483648 ≤ t ∧ t < 2147483648) : Ct cW mX8_wipe [.ref 0, .int (iI t)] σ (qI (fun z σ' => z = (s_wipe M t).1 ∧ IC (s_wipe M t).2 σ')) := by
  refine Ct.of plX8 (Nat.le_of_ble_eq_true rfl) ?_
  obtain ⟨gt, gs, gp, gg, gn, gh1, gf⟩ := id c
  have hb := wf_hb hw
  have hh := gs.2.2.2.2
  have h01 := wf_0 hw
  have e15 := gt.2.2.1
  have e55 := gt.2.2.2.1
  rcases (show t = 0 ∨ t = 1 ∨ (t ≠ 0 ∧ t ≠ 1) by omega) with rfl | rfl | ⟨n0, n1⟩
  · skip
    refine r_aload_n dX8_wipe_0 rfl ?_
    refine r_iload_n dX8_wipe_1 rfl ?_
    refine i_cvP (c_textOf_0 σ) lmX8_74 dX8_wipe_2 (Nat.le_of_ble_eq_true rfl) rfl ⟨_, _, rfl⟩ (by decide) (by decide) rfl rfl (Nat.le_of_ble_eq_true rfl) ?_
    refine r_astore_n dX8_wipe_5 (Nat.le_of_ble_eq_true rfl) ?_
    refine r_aload_n dX8_wipe_6 rfl ?_
    refine r_ifnonnull 13 dX8_wipe_7 rfl ?_
    refine r_aload_n dX8_wipe_13 rfl ?_
    refine r_get (k := 1) lfX8_89 dX8_wipe_14 (Nat.le_of_ble_eq_true rfl) rfl rfl ?_
    refine r_istore_n dX8_wipe_17 (Nat.le_of_ble_eq_true rfl) ?_
    refine r_aload_n dX8_wipe_18 rfl ?_
    refine i_const dX8_wipe_19 ?_
    refine i_cvV (c_shorten_1 σ (b0 M) gt.1 hw.2.2.1 0 (by omega) (by omega)) lmX8_93 dX8_wipe_20 (Nat.le_of_ble_eq_true rfl) rfl ⟨_, _, rfl⟩ (by decide) (by decide) rfl rfl (Nat.le_of_ble_eq_true rfl) (fun σ1 hu => ?_)
    have e1 : s_wipe M 0 = (M 1 0, (sup M 1 0 0)) := by unfold s_wipe; rw [if_pos (by omega)]; rfl
    have hw1 : WF (sup M 1 0 0) := by have := wf_wipe hw 0; rw [e1] at this; exact this
    have gT : gText σ1 (sup M 1 0 0) := und1_g gt hu (fun k i h1 h2 => by
        by_cases hk : k = 1
        · subst hk; rw [sup_i _ _ _ _ (h2 rfl)]
        · rw [sup_k _ _ _ _ _ hk])
      (fun z z0 z1 => (sup_k _ _ _ _ _ (by decide)).trans (gt.1 z z0 z1))
      (by rw [sup_h]; rfl) rfl rfl
    have F1 : ∀ k i, 9 ≤ k → σ1 k i = σ k i := fun k i h => (hu.2.2.2.2 k i (by omega) (by omega) (by omega)).trans (by rw [sup_k _ _ _ _ _ (by omega)])
    have F0 : σ1 0 9 = σ 0 9 := (hu.2.2.2.2 0 9 (by decide) (by decide) (by decide)).trans (by rw [sup_k _ _ _ _ _ (by decide)])
    refine r_aload_n dX8_wipe_23 rfl ?_
    refine i_cvV (c_takeUp (sup M 1 0 0) σ1 hw1 gT (fun z z0 z1 => (F1 10 _ (by decide)).trans (gs.1 z z0 z1)) ((F1 9 4 (by decide)).trans gs.2.1) ((F1 9 5 (by decide)).trans gs.2.2.1)) lmX8_86 dX8_wipe_24 (Nat.le_of_ble_eq_true rfl) rfl ⟨_, _, rfl⟩ (by decide) (by decide) rfl rfl (Nat.le_of_ble_eq_true rfl) (fun σ2 ht => ?_)
    refine r_iload_n dX8_wipe_27 rfl ?_
    refine r_iret rfl dX8_wipe_28 ?_
    refine ⟨_, rfl, ?_, ?_⟩
    · rw [e1, e15]
    · rw [e1]; exact ic_text c ht.1 ht.2.1 ht.2.2.1 (fun k i h => (ht.2.2.2.1 k i h).trans (F1 k i (by omega))) (ht.2.2.2.2.trans F0) (fun k h => by dsimp only; rw [sup_ne _ _ _ (show k ≠ 1 by omega)]) rfl
  · skip
    refine r_aload_n dX8_wipe_0 rfl ?_
    refine r_iload_n dX8_wipe_1 rfl ?_
    refine i_cvP (c_textOf_1 σ) lmX8_74 dX8_wipe_2 (Nat.le_of_ble_eq_true rfl) rfl ⟨_, _, rfl⟩ (by decide) (by decide) rfl rfl (Nat.le_of_ble_eq_true rfl) ?_
    refine r_astore_n dX8_wipe_5 (Nat.le_of_ble_eq_true rfl) ?_
    refine r_aload_n dX8_wipe_6 rfl ?_
    refine r_ifnonnull 13 dX8_wipe_7 rfl ?_
    refine r_aload_n dX8_wipe_13 rfl ?_
    refine r_get (k := 5) lfX8_89 dX8_wipe_14 (Nat.le_of_ble_eq_true rfl) rfl rfl ?_
    refine r_istore_n dX8_wipe_17 (Nat.le_of_ble_eq_true rfl) ?_
    refine r_aload_n dX8_wipe_18 rfl ?_
    refine i_const dX8_wipe_19 ?_
    refine i_cvV (c_shorten_5 σ (b1 M) gt.2.1 hw.2.2.2.1 0 (by omega) (by omega)) lmX8_93 dX8_wipe_20 (Nat.le_of_ble_eq_true rfl) rfl ⟨_, _, rfl⟩ (by decide) (by decide) rfl rfl (Nat.le_of_ble_eq_true rfl) (fun σ1 hu => ?_)
    have e1 : s_wipe M 1 = (M 1 1, (sup M 1 1 0)) := by unfold s_wipe; rw [if_pos (by omega)]; rfl
    have hw1 : WF (sup M 1 1 0) := by have := wf_wipe hw 1; rw [e1] at this; exact this
    have gT : gText σ1 (sup M 1 1 0) := und5_g gt hu (fun k i h1 h2 => by
        by_cases hk : k = 5
        · subst hk; rw [sup_i _ _ _ _ (h2 rfl)]
        · rw [sup_k _ _ _ _ _ hk])
      (fun z z0 z1 => (sup_k _ _ _ _ _ (by decide)).trans (gt.2.1 z z0 z1))
      (by rw [sup_h]; rfl) rfl rfl
    have F1 : ∀ k i, 9 ≤ k → σ1 k i = σ k i := fun k i h => (hu.2.2.2.2 k i (by omega) (by omega) (by omega)).trans (by rw [sup_k _ _ _ _ _ (by omega)])
    have F0 : σ1 0 9 = σ 0 9 := (hu.2.2.2.2 0 9 (by decide) (by decide) (by decide)).trans (by rw [sup_k _ _ _ _ _ (by decide)])
    refine r_aload_n dX8_wipe_23 rfl ?_
    refine i_cvV (c_takeUp (sup M 1 1 0) σ1 hw1 gT (fun z z0 z1 => (F1 10 _ (by decide)).trans (gs.1 z z0 z1)) ((F1 9 4 (by decide)).trans gs.2.1) ((F1 9 5 (by decide)).trans gs.2.2.1)) lmX8_86 dX8_wipe_24 (Nat.le_of_ble_eq_true rfl) rfl ⟨_, _, rfl⟩ (by decide) (by decide) rfl rfl (Nat.le_of_ble_eq_true rfl) (fun σ2 ht => ?_)
    refine r_iload_n dX8_wipe_27 rfl ?_
    refine r_iret rfl dX8_wipe_28 ?_
    refine ⟨_, rfl, ?_, ?_⟩
    · rw [e1, e55]
    · rw [e1]; exact ic_text c ht.1 ht.2.1 ht.2.2.1 (fun k i h => (ht.2.2.2.1 k i h).trans (F1 k i (by omega))) (ht.2.2.2.2.trans F0) (fun k h => by dsimp only; rw [sup_ne _ _ _ (show k ≠ 1 by omega)]) rfl
  · skip
    refine r_aload_n dX8_wipe_0 rfl ?_
    refine r_iload_n dX8_wipe_1 rfl ?_
    refine i_cvP (c_textOf_n σ t ht n0 n1) lmX8_74 dX8_wipe_2 (Nat.le_of_ble_eq_true rfl) rfl ⟨_, _, rfl⟩ (by decide) (by decide) rfl rfl (Nat.le_of_ble_eq_true rfl) ?_
    refine r_astore_nN dX8_wipe_5 (Nat.le_of_ble_eq_true rfl) ?_
    refine r_aload_nN dX8_wipe_6 rfl ?_
    refine r_ifnonnullN dX8_wipe_7 ?_
    refine i_bipush dX8_wipe_10 (by decide) ?_
    refine r_iret rfl dX8_wipe_12 ?_
    exact ⟨_, rfl, by unfold s_wipe; rw [if_neg (by omega)], by unfold s_wipe; rw [if_neg (by omega)]; exact c⟩

set_option maxRecDepth 20000 in
theorem c_undo (M σ : rl_S) (c : IC M σ) (hw : WF M) (t : Int) (ht : -2147483648 ≤ t ∧ t < 2147483648) : Ct cW mX8_undo [.ref 0, .int (iI t)] σ (qI (fun z σ' => z = (s_undo M t).1 ∧ IC (s_undo M t).2 σ')) := by
  refine Ct.of plX8 (Nat.le_of_ble_eq_true rfl) ?_
  obtain ⟨gt, gs, gp, gg, gn, gh1, gf⟩ := id c
  have hb := wf_hb hw
  have hh := gs.2.2.2.2
  have h01 := wf_0 hw
  have e15 := gt.2.2.1
  have e55 := gt.2.2.2.1
  rcases (show t = 0 ∨ t = 1 ∨ (t ≠ 0 ∧ t ≠ 1) by omega) with rfl | rfl | ⟨n0, n1⟩
  · skip
    refine r_aload_n dX8_undo_0 rfl ?_
    refine r_iload_n dX8_undo_1 rfl ?_
    refine i_cvP (c_textOf_0 σ) lmX8_74 dX8_undo_2 (Nat.le_of_ble_eq_true rfl) rfl ⟨_, _, rfl⟩ (by decide) (by decide) rfl rfl (Nat.le_of_ble_eq_true rfl) ?_
    refine r_astore_n dX8_undo_5 (Nat.le_of_ble_eq_true rfl) ?_
    refine r_aload_n dX8_undo_6 rfl ?_
    refine r_ifnonnull 13 dX8_undo_7 rfl ?_
    refine r_aload_n dX8_undo_13 rfl ?_
    refine r_get (k := 1) lfX8_89 dX8_undo_14 (Nat.le_of_ble_eq_true rfl) rfl rfl ?_
    refine i_if_ne 23 dX8_undo_17 rfl ⟨by omega, by omega⟩ (fun q17 => ?_) (fun q17 => ?_)
    · skip
      refine r_aload_n dX8_undo_23 rfl ?_
      refine r_aload_n dX8_undo_24 rfl ?_
      refine r_get (k := 1) lfX8_89 dX8_undo_25 (Nat.le_of_ble_eq_true rfl) rfl rfl ?_
      refine i_const dX8_undo_28 ?_
      refine i_isub dX8_undo_29 ?_
      refine i_cvV (c_shorten_1 σ (b0 M) gt.1 hw.2.2.1 (σ 1 5 - 1) (by omega) (by omega)) lmX8_93 dX8_undo_30 (Nat.le_of_ble_eq_true rfl) rfl ⟨_, _, rfl⟩ (by decide) (by decide) rfl rfl (Nat.le_of_ble_eq_true rfl) (fun σ1 hu => ?_)
      have e1 : s_undo M 0 = (M 1 0 - 1, (sup M 1 0 (M 1 0 - 1))) := by unfold s_undo; rw [if_pos (by omega), if_neg (show ¬ M 1 (0 : Int).toNat = 0 from (show ¬ M 1 0 = 0 by omega))]; rfl
      have hw1 : WF (sup M 1 0 (M 1 0 - 1)) := by have := wf_undo hw 0; rw [e1] at this; exact this
      have gT : gText σ1 (sup M 1 0 (M 1 0 - 1)) := und1_g gt hu (fun k i h1 h2 => by
          by_cases hk : k = 1
          · subst hk; rw [sup_i _ _ _ _ (h2 rfl)]
          · rw [sup_k _ _ _ _ _ hk])
        (fun z z0 z1 => (sup_k _ _ _ _ _ (by decide)).trans (gt.1 z z0 z1))
        (by rw [sup_h]; rw [e15]; rfl) rfl rfl
      have F1 : ∀ k i, 9 ≤ k → σ1 k i = σ k i := fun k i h => (hu.2.2.2.2 k i (by omega) (by omega) (by omega)).trans (by rw [sup_k _ _ _ _ _ (by omega)])
      have F0 : σ1 0 9 = σ 0 9 := (hu.2.2.2.2 0 9 (by decide) (by decide) (by decide)).trans (by rw [sup_k _ _ _ _ _ (by decide)])
      refine r_aload_n dX8_undo_33 rfl ?_
      refine i_cvV (c_takeUp (sup M 1 0 (M 1 0 - 1)) σ1 hw1 gT (fun z z0 z1 => (F1 10 _ (by decide)).trans (gs.1 z z0 z1)) ((F1 9 4 (by decide)).trans gs.2.1) ((F1 9 5 (by decide)).trans gs.2.2.1)) lmX8_86 dX8_undo_34 (Nat.le_of_ble_eq_true rfl) rfl ⟨_, _, rfl⟩ (by decide) (by decide) rfl rfl (Nat.le_of_ble_eq_true rfl) (fun σ2 ht => ?_)
      refine r_aload_n dX8_undo_37 rfl ?_
      refine r_get (k := 1) lfX8_89 dX8_undo_38 (Nat.le_of_ble_eq_true rfl) rfl rfl ?_
      refine r_iret rfl dX8_undo_41 ?_
      refine ⟨_, rfl, ?_, ?_⟩
      · rw [e1, ht.1.2.2.1]; rfl
      · rw [e1]; exact ic_text c ht.1 ht.2.1 ht.2.2.1 (fun k i h => (ht.2.2.2.1 k i h).trans (F1 k i (by omega))) (ht.2.2.2.2.trans F0) (fun k h => by dsimp only; rw [sup_ne _ _ _ (show k ≠ 1 by omega)]) rfl
    · skip
      refine i_bipush dX8_undo_20 (by decide) ?_
      refine r_iret rfl dX8_undo_22 ?_
      have e9 : s_undo M 0 = (-3, M) := by unfold s_undo; rw [if_pos (by omega), if_pos (show M 1 (0 : Int).toNat = 0 from (show M 1 0 = 0 by omega))]
      exact ⟨_, rfl, by rw [e9], by rw [e9]; exact c⟩
  · skip
    refine r_aload_n dX8_undo_0 rfl ?_
    refine r_iload_n dX8_undo_1 rfl ?_
    refine i_cvP (c_textOf_1 σ) lmX8_74 dX8_undo_2 (Nat.le_of_ble_eq_true rfl) rfl ⟨_, _, rfl⟩ (by decide) (by decide) rfl rfl (Nat.le_of_ble_eq_true rfl) ?_
    refine r_astore_n dX8_undo_5 (Nat.le_of_ble_eq_true rfl) ?_
    refine r_aload_n dX8_undo_6 rfl ?_
    refine r_ifnonnull 13 dX8_undo_7 rfl ?_
    refine r_aload_n dX8_undo_13 rfl ?_
    refine r_get (k := 5) lfX8_89 dX8_undo_14 (Nat.le_of_ble_eq_true rfl) rfl rfl ?_
    refine i_if_ne 23 dX8_undo_17 rfl ⟨by omega, by omega⟩ (fun q17 => ?_) (fun q17 => ?_)
    · skip
      refine r_aload_n dX8_undo_23 rfl ?_
      refine r_aload_n dX8_undo_24 rfl ?_
      refine r_get (k := 5) lfX8_89 dX8_undo_25 (Nat.le_of_ble_eq_true rfl) rfl rfl ?_
      refine i_const dX8_undo_28 ?_
      refine i_isub dX8_undo_29 ?_
      refine i_cvV (c_shorten_5 σ (b1 M) gt.2.1 hw.2.2.2.1 (σ 5 5 - 1) (by omega) (by omega)) lmX8_93 dX8_undo_30 (Nat.le_of_ble_eq_true rfl) rfl ⟨_, _, rfl⟩ (by decide) (by decide) rfl rfl (Nat.le_of_ble_eq_true rfl) (fun σ1 hu => ?_)
      have e1 : s_undo M 1 = (M 1 1 - 1, (sup M 1 1 (M 1 1 - 1))) := by unfold s_undo; rw [if_pos (by omega), if_neg (show ¬ M 1 (1 : Int).toNat = 0 from (show ¬ M 1 1 = 0 by omega))]; rfl
      have hw1 : WF (sup M 1 1 (M 1 1 - 1)) := by have := wf_undo hw 1; rw [e1] at this; exact this
      have gT : gText σ1 (sup M 1 1 (M 1 1 - 1)) := und5_g gt hu (fun k i h1 h2 => by
          by_cases hk : k = 5
          · subst hk; rw [sup_i _ _ _ _ (h2 rfl)]
          · rw [sup_k _ _ _ _ _ hk])
        (fun z z0 z1 => (sup_k _ _ _ _ _ (by decide)).trans (gt.2.1 z z0 z1))
        (by rw [sup_h]; rw [e55]; rfl) rfl rfl
      have F1 : ∀ k i, 9 ≤ k → σ1 k i = σ k i := fun k i h => (hu.2.2.2.2 k i (by omega) (by omega) (by omega)).trans (by rw [sup_k _ _ _ _ _ (by omega)])
      have F0 : σ1 0 9 = σ 0 9 := (hu.2.2.2.2 0 9 (by decide) (by decide) (by decide)).trans (by rw [sup_k _ _ _ _ _ (by decide)])
      refine r_aload_n dX8_undo_33 rfl ?_
      refine i_cvV (c_takeUp (sup M 1 1 (M 1 1 - 1)) σ1 hw1 gT (fun z z0 z1 => (F1 10 _ (by decide)).trans (gs.1 z z0 z1)) ((F1 9 4 (by decide)).trans gs.2.1) ((F1 9 5 (by decide)).trans gs.2.2.1)) lmX8_86 dX8_undo_34 (Nat.le_of_ble_eq_true rfl) rfl ⟨_, _, rfl⟩ (by decide) (by decide) rfl rfl (Nat.le_of_ble_eq_true rfl) (fun σ2 ht => ?_)
      refine r_aload_n dX8_undo_37 rfl ?_
      refine r_get (k := 5) lfX8_89 dX8_undo_38 (Nat.le_of_ble_eq_true rfl) rfl rfl ?_
      refine r_iret rfl dX8_undo_41 ?_
      refine ⟨_, rfl, ?_, ?_⟩
      · rw [e1, ht.1.2.2.2.1]; rfl
      · rw [e1]; exact ic_text c ht.1 ht.2.1 ht.2.2.1 (fun k i h => (ht.2.2.2.1 k i h).trans (F1 k i (by omega))) (ht.2.2.2.2.trans F0) (fun k h => by dsimp only; rw [sup_ne _ _ _ (show k ≠ 1 by omega)]) rfl
    · skip
      refine i_bipush dX8_undo_20 (by decide) ?_
      refine r_iret rfl dX8_undo_22 ?_
      have e9 : s_undo M 1 = (-3, M) := by unfold s_undo; rw [if_pos (by omega), if_pos (show M 1 (1 : Int).toNat = 0 from (show M 1 1 = 0 by omega))]
      exact ⟨_, rfl, by rw [e9], by rw [e9]; exact c⟩
  · skip
    refine r_aload_n dX8_undo_0 rfl ?_
    refine r_iload_n dX8_undo_1 rfl ?_
    refine i_cvP (c_textOf_n σ t ht n0 n1) lmX8_74 dX8_undo_2 (Nat.le_of_ble_eq_true rfl) rfl ⟨_, _, rfl⟩ (by decide) (by decide) rfl rfl (Nat.le_of_ble_eq_true rfl) ?_
    refine r_astore_nN dX8_undo_5 (Nat.le_of_ble_eq_true rfl) ?_
    refine r_aload_nN dX8_undo_6 rfl ?_
    refine r_ifnonnullN dX8_undo_7 ?_
    refine i_bipush dX8_undo_10 (by decide) ?_
    refine r_iret rfl dX8_undo_12 ?_
    exact ⟨_, rfl, by unfold s_undo; rw [if_neg (by omega)], by unfold s_undo; rw [if_neg (by omega)]; exact c⟩
