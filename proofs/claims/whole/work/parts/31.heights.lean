/-! reads: what the texts tell -/
def RD (M σ : rl_S) : Prop := σ 0 2 = nS M ∧ σ 0 5 = nR M ∧ (∀ z : Int, 0 ≤ z → z < nS M → σ 3 z.toNat = hS M z ∧ σ 4 z.toNat = lS M z) ∧ (¬ nR M = 0 → σ 3 6 = gR M ∧ σ 4 6 = lR M)
def IR (M σ : rl_S) : Prop := IM M σ ∧ RD M σ
def SM (σ : rl_S) (h : Int → Int) : Prop := ∀ z : Int, 0 ≤ z → z < 400 → σ 7 z.toNat = h z
def IH (M σ : rl_S) : Prop := IR M σ ∧ SM σ (hi M)
abbrev pM (M : rl_S) (z : Int) : Option Value → rl_S → Prop := qI (fun y σ' => y = z ∧ IM M σ')
abbrev pD (M : rl_S) (z : Int) : Option Value → rl_S → Prop := qI (fun y σ' => y = z ∧ IR M σ')
abbrev pH (M : rl_S) (z : Int) : Option Value → rl_S → Prop := qI (fun y σ' => y = z ∧ IH M σ')
theorem ih_k {M σ σ' : rl_S} (h : IH M σ) (f : ∀ k i, (k = 0 → i ≠ 11 ∧ i ≠ 15) → k ≠ 14 → σ' k i = σ k i) : IH M σ' := by
  obtain ⟨⟨h1, h2, h3, h4, h5⟩, h6⟩ := h
  refine ⟨⟨im_scr h1 (fun k i g3 g4 g7 g14 g0 => f k i (fun q => ⟨(g0 q).2.2.1, (g0 q).2.2.2⟩) g14), ?_, ?_, fun z z0 z1 => ⟨?_, ?_⟩, fun q => ⟨?_, ?_⟩⟩, fun z z0 z1 => ?_⟩
  · rw [f 0 2 (fun _ => by decide) (by decide)]; exact h2
  · rw [f 0 5 (fun _ => by decide) (by decide)]; exact h3
  · rw [f 3 _ (fun q => absurd q (by decide)) (by decide)]; exact (h4 z z0 z1).1
  · rw [f 4 _ (fun q => absurd q (by decide)) (by decide)]; exact (h4 z z0 z1).2
  · rw [f 3 _ (fun q => absurd q (by decide)) (by decide)]; exact (h5 q).1
  · rw [f 4 _ (fun q => absurd q (by decide)) (by decide)]; exact (h5 q).2
  · rw [f 7 _ (fun q => absurd q (by decide)) (by decide)]; exact h6 z z0 z1
theorem wf_nR {M : rl_S} (h : WF M) : 0 ≤ nR M ∧ nR M ≤ 1 := ⟨(nF_bd _ _ h.2.1.1).1, nF_m h.2.1.1 (by decide)⟩
theorem wf_nS {M : rl_S} (h : WF M) : 0 ≤ nS M ∧ nS M ≤ 6 := ⟨(wf_sw h).1, (wf_sw h).2.1⟩
theorem wf_lR2 {M : rl_S} (h : WF M) (q : ¬ nR M = 0) : 2 ≤ lR M ∧ lR M ≤ 99 := (told (b := b1 M) (m := 1) h.2.1.1 (s := 0) (by decide) (by have := wf_nR h; change 0 < nR M; omega)).2.1
theorem gR_0 {M : rl_S} (q : nR M = 0) : gR M = 0 := by unfold gR hF; rw [q]; rfl
theorem im_b0 {M σ : rl_S} (c : IM M σ) : ∀ z : Int, 0 ≤ z → z < 23 → σ 2 (0 + z.toNat) = b0 M z := fun z z0 z1 => by
  rw [Nat.zero_add, c.1 2 _ (by omega)]; unfold b0; rw [if_pos ⟨z0, z1⟩]
theorem im_b1 {M σ : rl_S} (c : IM M σ) : ∀ z : Int, 0 ≤ z → z < 23 → σ 2 (23 + z.toNat) = b1 M z := fun z z0 z1 => by
  rw [c.1 2 _ (by omega)]; unfold b1; rw [if_pos ⟨z0, z1⟩]
theorem rd_of {M σ σ1 σ2 : rl_S} (c : IM M σ) (hw : WF M) (h1 : rt_0 σ (b0 M) (M 1 0) σ1) (h2 : rt_1 σ1 (b1 M) (M 1 1) σ2) : IR M σ2 := by
  obtain ⟨a1, a2, a3⟩ := h1
  obtain ⟨e1, e2, e3⟩ := h2
  have c1 : IM M σ1 := im_scr c (fun k i g3 g4 g7 g14 g0 => a3 k i g3 g4 (fun q => (g0 q).1))
  have c2 : IM M σ2 := im_scr c1 (fun k i g3 g4 g7 g14 g0 => e3 k i (fun q => absurd q g3) (fun q => absurd q g4) (fun q => (g0 q).2.1))
  have nb := wf_nS hw
  have rb := wf_nR hw
  refine ⟨c2, (e3 0 2 (by decide) (by decide) (fun _ => by decide)).trans a1, e1, fun z z0 z1 => ?_, fun q => ?_⟩
  · have := a2 z z0 z1
    rw [e3 3 _ (fun _ => by omega) (fun q => absurd q (by decide)) (fun q => absurd q (by decide)), e3 4 _ (fun q => absurd q (by decide)) (fun _ => by omega) (fun q => absurd q (by decide)), this.1, this.2]
    unfold hS lS hF lF
    rw [if_pos z1, if_pos z1]
    exact ⟨rfl, rfl⟩
  · have := e2 q
    rw [this.1, this.2]
    unfold gR lR hF lF
    rw [if_pos (by omega), if_pos (by omega)]
    exact ⟨rfl, rfl⟩
set_option maxRecDepth 20000 in
theorem m_faultOf (M σ : rl_S) (c : IM M σ) (hw : WF M) (t : Int) (ht : t = 0 ∨ t = 1) : Ct mW mX9_faultOf [.ref 0, .int (iI t)] σ (pD M (q_fault M t)) := by
  refine Ct.of plX9 (Nat.le_of_ble_eq_true rfl) ?_
  have w0 := wf_0 hw
  refine r_aload_n dX9_faultOf_0 rfl ?_
  refine i_const dX9_faultOf_1 ?_
  refine i_cvI (m_readsText_0 σ (b0 M) (im_b0 c) hw.2.2.1 (M 1 0) (c.1 1 0 (by decide)) w0.1) lmX9_74 dX9_faultOf_2 (Nat.le_of_ble_eq_true rfl) rfl ⟨_, _, rfl⟩ (by decide) (by decide) rfl rfl (Nat.le_of_ble_eq_true rfl) (fun z1 σ1 hr => ?_)
  obtain ⟨rfl, hr⟩ := hr
  have c1 : IM M σ1 := im_scr c (fun k i g3 g4 g7 g14 g0 => hr.2.2 k i g3 g4 (fun q => (g0 q).1))
  refine r_istore_n dX9_faultOf_5 (Nat.le_of_ble_eq_true rfl) ?_
  refine r_aload_n dX9_faultOf_6 rfl ?_
  refine i_const dX9_faultOf_7 ?_
  refine i_cvI (m_readsText_1 σ1 (b1 M) (im_b1 c1) hw.2.2.2.1 (M 1 1) (c1.1 1 1 (by decide)) w0.2) lmX9_74 dX9_faultOf_8 (Nat.le_of_ble_eq_true rfl) rfl ⟨_, _, rfl⟩ (by decide) (by decide) rfl rfl (Nat.le_of_ble_eq_true rfl) (fun z2 σ2 hr2 => ?_)
  obtain ⟨rfl, hr2⟩ := hr2
  refine r_istore_n dX9_faultOf_11 (Nat.le_of_ble_eq_true rfl) ?_
  refine r_iload_n dX9_faultOf_12 rfl ?_
  refine i_if_ne 20 dX9_faultOf_13 rfl ⟨by omega, by omega⟩ (fun q13 => ?_) (fun q13 => ?_)
  · skip
    refine r_iload_n dX9_faultOf_20 rfl ?_
    refine r_iret rfl dX9_faultOf_21 ?_
    exact ⟨_, rfl, by unfold q_fault; first | (rw [if_pos (by omega)]; done) | (rw [if_neg (by omega), if_pos (by omega)]; done), rd_of c hw hr hr2⟩
  · skip
    refine r_iload_n dX9_faultOf_16 rfl ?_
    refine r_goto 21 dX9_faultOf_17 rfl ?_
    refine r_iret rfl dX9_faultOf_21 ?_
    exact ⟨_, rfl, by unfold q_fault; first | (rw [if_pos (by omega)]; done) | (rw [if_neg (by omega), if_pos (by omega)]; done), rd_of c hw hr hr2⟩

set_option maxRecDepth 20000 in
theorem m_reads (M σ : rl_S) (c : IM M σ) (hw : WF M)  : Ct mW mX9_reads [.ref 0] σ (qV (IR M)) := by
  refine Ct.of plX9 (Nat.le_of_ble_eq_true rfl) ?_
  refine r_aload_n dX9_reads_0 rfl ?_
  refine i_const dX9_reads_1 ?_
  refine i_cvI (m_faultOf M σ c hw 0 (by decide)) lmX9_78 dX9_reads_2 (Nat.le_of_ble_eq_true rfl) rfl ⟨_, _, rfl⟩ (by decide) (by decide) rfl rfl (Nat.le_of_ble_eq_true rfl) (fun z1 σ1 hd => ?_)
  refine r_istore_n dX9_reads_5 (Nat.le_of_ble_eq_true rfl) ?_
  refine r_vret rfl dX9_reads_6 ?_
  exact ⟨rfl, hd.2⟩

set_option maxRecDepth 20000 in
theorem m_fault (M σ : rl_S) (c : IM M σ) (hw : WF M) (t : Int) (ht : -2147483648 ≤ t ∧ t < 2147483648) : Ct mW mX9_fault [.ref 0, .int (iI t)] σ (pM M (q_fault M t)) := by
  refine Ct.of plX9 (Nat.le_of_ble_eq_true rfl) ?_
  have ob1 := ob_bd (decide (0 ≤ t ∧ t ≤ 1))
  refine r_iload_n dX9_fault_0 rfl ?_
  refine i_csP (m_isText σ t ht) lmX9_59 dX9_fault_1 (by decide) (by decide) rfl rfl (Nat.le_of_ble_eq_true rfl) ?_
  refine i_if_eq 15 dX9_fault_4 rfl (ob_i32 _) (fun q4 => ?_) (fun q4 => ?_)
  · have e4 := ob_df q4
    refine i_bipush dX9_fault_15 (by decide) ?_
    refine r_iret rfl dX9_fault_17 ?_
    first
      | exact ⟨_, rfl, hd.1, hd.2.1⟩
      | exact ⟨_, rfl, by unfold q_fault; rw [if_neg (by omega), if_neg (by omega)], c⟩
  · have e4 := ob_dt q4
    refine r_aload_n dX9_fault_7 rfl ?_
    refine r_iload_n dX9_fault_8 rfl ?_
    refine i_cvI (m_faultOf M σ c hw t (by omega)) lmX9_78 dX9_fault_9 (Nat.le_of_ble_eq_true rfl) rfl ⟨_, _, rfl⟩ (by decide) (by decide) rfl rfl (Nat.le_of_ble_eq_true rfl) (fun z1 σ1 hd => ?_)
    refine r_goto 17 dX9_fault_12 rfl ?_
    refine r_iret rfl dX9_fault_17 ?_
    first
      | exact ⟨_, rfl, hd.1, hd.2.1⟩
      | exact ⟨_, rfl, by unfold q_fault; rw [if_neg (by omega), if_neg (by omega)], c⟩

set_option maxRecDepth 20000 in
theorem m_isSwell (M σ : rl_S) (c : IM M σ) (hw : WF M) (s : Int) (hs : -2147483648 ≤ s ∧ s < 2147483648) : Ct mW mX9_isSwell [.ref 0, .int (iI s)] σ (pD M (ob (decide (0 ≤ s ∧ s ≤ nS M - 1)))) := by
  refine Ct.of plX9 (Nat.le_of_ble_eq_true rfl) ?_
  have nb := wf_nS hw
  refine r_aload_n dX9_isSwell_0 rfl ?_
  refine i_cvV (m_reads M σ c hw) lmX9_81 dX9_isSwell_1 (Nat.le_of_ble_eq_true rfl) rfl ⟨_, _, rfl⟩ (by decide) (by decide) rfl rfl (Nat.le_of_ble_eq_true rfl) (fun σ1 hd => ?_)
  refine r_iload_n dX9_isSwell_4 rfl ?_
  refine i_const dX9_isSwell_5 ?_
  refine r_aload_n dX9_isSwell_6 rfl ?_
  refine r_get (k := 0) lfX9_63 dX9_isSwell_7 (Nat.le_of_ble_eq_true rfl) rfl rfl ?_
  rw [hd.2.1]
  refine i_const dX9_isSwell_10 ?_
  refine i_isub dX9_isSwell_11 ?_
  refine i_csP (m_in σ1 s 0 _ hs (by decide) (by omega)) lmX9_55 dX9_isSwell_12 (by decide) (by decide) rfl rfl (Nat.le_of_ble_eq_true rfl) ?_
  refine r_zret rfl dX9_isSwell_15 (by first | rfl | exact ob_nar _) ?_
  exact ⟨_, rfl, rfl, hd⟩

set_option maxRecDepth 20000 in
theorem m_swell (M σ : rl_S) (c : IM M σ) (hw : WF M) (s w : Int) (hs : -2147483648 ≤ s ∧ s < 2147483648) (hw2 : -2147483648 ≤ w ∧ w < 2147483648) : Ct mW mX9_swell [.ref 0, .int (iI s), .int (iI w)] σ (pM M (q_swell M s w)) := by
  refine Ct.of plX9 (Nat.le_of_ble_eq_true rfl) ?_
  have nb := wf_nS hw
  have ob1 := ob_bd (decide (0 ≤ s ∧ s ≤ nS M - 1))
  have ob2 := ob_bd (decide (0 ≤ w ∧ w ≤ 1))
  refine r_aload_n dX9_swell_0 rfl ?_
  refine r_iload_n dX9_swell_1 rfl ?_
  refine i_cvI (m_isSwell M σ c hw s hs) lmX9_84 dX9_swell_2 (Nat.le_of_ble_eq_true rfl) rfl ⟨_, _, rfl⟩ (by decide) (by decide) rfl rfl (Nat.le_of_ble_eq_true rfl) (fun z1 σ1 hd => ?_)
  obtain ⟨rfl, hd⟩ := hd
  refine i_if_eq 39 dX9_swell_5 rfl (ob_i32 _) (fun q5 => ?_) (fun q5 => ?_)
  · have e5 := ob_df q5
    refine i_bipush dX9_swell_39 (by decide) ?_
    refine r_iret rfl dX9_swell_41 ?_
    first
      | exact ⟨_, rfl, by unfold q_swell; rw [if_pos (by omega), if_pos (by omega)]; exact (hd.2.2.2.1 s (by omega) (by omega)).1, hd.1⟩
      | exact ⟨_, rfl, by unfold q_swell; rw [if_pos (by omega), if_neg (by omega)]; exact (hd.2.2.2.1 s (by omega) (by omega)).2, hd.1⟩
      | exact ⟨_, rfl, by unfold q_swell; rw [if_neg (by omega)], hd.1⟩
  · have e5 := ob_dt q5
    refine r_iload_n dX9_swell_8 rfl ?_
    refine i_const dX9_swell_9 ?_
    refine i_const dX9_swell_10 ?_
    refine i_csP (m_in σ1 w 0 1 hw2 (by decide) (by decide)) lmX9_55 dX9_swell_11 (by decide) (by decide) rfl rfl (Nat.le_of_ble_eq_true rfl) ?_
    refine i_if_eq 39 dX9_swell_14 rfl (ob_i32 _) (fun q14 => ?_) (fun q14 => ?_)
    · have e14 := ob_df q14
      refine i_bipush dX9_swell_39 (by decide) ?_
      refine r_iret rfl dX9_swell_41 ?_
      first
        | exact ⟨_, rfl, by unfold q_swell; rw [if_pos (by omega), if_pos (by omega)]; exact (hd.2.2.2.1 s (by omega) (by omega)).1, hd.1⟩
        | exact ⟨_, rfl, by unfold q_swell; rw [if_pos (by omega), if_neg (by omega)]; exact (hd.2.2.2.1 s (by omega) (by omega)).2, hd.1⟩
        | exact ⟨_, rfl, by unfold q_swell; rw [if_neg (by omega)], hd.1⟩
    · have e14 := ob_dt q14
      refine r_iload_n dX9_swell_17 rfl ?_
      refine i_if_ne 30 dX9_swell_18 rfl ⟨by omega, by omega⟩ (fun q18 => ?_) (fun q18 => ?_)
      · skip
        refine r_aload_n dX9_swell_30 rfl ?_
        refine r_get (k := 0) lfX9_19 dX9_swell_31 (Nat.le_of_ble_eq_true rfl) rfl rfl ?_
        refine r_iload_n dX9_swell_34 rfl ?_
        refine i_ald (k := 4) dX9_swell_35 (Nat.le_of_ble_eq_true rfl) rfl rfl ⟨by omega, by omega⟩ (by decide) ?_
        refine r_goto 41 dX9_swell_36 rfl ?_
        refine r_iret rfl dX9_swell_41 ?_
        first
          | exact ⟨_, rfl, by unfold q_swell; rw [if_pos (by omega), if_pos (by omega)]; exact (hd.2.2.2.1 s (by omega) (by omega)).1, hd.1⟩
          | exact ⟨_, rfl, by unfold q_swell; rw [if_pos (by omega), if_neg (by omega)]; exact (hd.2.2.2.1 s (by omega) (by omega)).2, hd.1⟩
          | exact ⟨_, rfl, by unfold q_swell; rw [if_neg (by omega)], hd.1⟩
      · skip
        refine r_aload_n dX9_swell_21 rfl ?_
        refine r_get (k := 0) lfX9_16 dX9_swell_22 (Nat.le_of_ble_eq_true rfl) rfl rfl ?_
        refine r_iload_n dX9_swell_25 rfl ?_
        refine i_ald (k := 3) dX9_swell_26 (Nat.le_of_ble_eq_true rfl) rfl rfl ⟨by omega, by omega⟩ (by decide) ?_
        refine r_goto 41 dX9_swell_27 rfl ?_
        refine r_iret rfl dX9_swell_41 ?_
        first
          | exact ⟨_, rfl, by unfold q_swell; rw [if_pos (by omega), if_pos (by omega)]; exact (hd.2.2.2.1 s (by omega) (by omega)).1, hd.1⟩
          | exact ⟨_, rfl, by unfold q_swell; rw [if_pos (by omega), if_neg (by omega)]; exact (hd.2.2.2.1 s (by omega) (by omega)).2, hd.1⟩
          | exact ⟨_, rfl, by unfold q_swell; rw [if_neg (by omega)], hd.1⟩

set_option maxRecDepth 20000 in
theorem m_rollOf (M σ : rl_S) (c : IM M σ) (hw : WF M) (w : Int) (hw2 : w = 0 ∨ w = 1) : Ct mW mX9_rollOf [.ref 0, .int (iI w)] σ (pD M (q_roll M w)) := by
  refine Ct.of plX9 (Nat.le_of_ble_eq_true rfl) ?_
  have nb := wf_nR hw
  refine r_aload_n dX9_rollOf_0 rfl ?_
  refine i_cvV (m_reads M σ c hw) lmX9_81 dX9_rollOf_1 (Nat.le_of_ble_eq_true rfl) rfl ⟨_, _, rfl⟩ (by decide) (by decide) rfl rfl (Nat.le_of_ble_eq_true rfl) (fun σ1 hd => ?_)
  refine r_aload_n dX9_rollOf_4 rfl ?_
  refine r_get (k := 0) lfX9_67 dX9_rollOf_5 (Nat.le_of_ble_eq_true rfl) rfl rfl ?_
  rw [hd.2.2.1]
  refine i_if_ne 15 dX9_rollOf_8 rfl ⟨by omega, by omega⟩ (fun q8 => ?_) (fun q8 => ?_)
  · skip
    refine r_iload_n dX9_rollOf_15 rfl ?_
    refine i_if_ne 29 dX9_rollOf_16 rfl ⟨by omega, by omega⟩ (fun q16 => ?_) (fun q16 => ?_)
    · skip
      refine r_aload_n dX9_rollOf_29 rfl ?_
      refine r_get (k := 0) lfX9_19 dX9_rollOf_30 (Nat.le_of_ble_eq_true rfl) rfl rfl ?_
      refine i_bipush dX9_rollOf_33 (by decide) ?_
      refine i_ald (k := 4) dX9_rollOf_35 (Nat.le_of_ble_eq_true rfl) rfl rfl ⟨by omega, by omega⟩ (by decide) ?_
      refine r_iret rfl dX9_rollOf_36 ?_
      first
        | exact ⟨_, rfl, by unfold q_roll; rw [if_pos (by omega), if_pos (by omega)], hd⟩
        | exact ⟨_, rfl, by unfold q_roll; rw [if_pos (by omega), if_neg (by omega), if_pos (by omega)]; exact (hd.2.2.2.2 (by omega)).1, hd⟩
        | exact ⟨_, rfl, by unfold q_roll; rw [if_pos (by omega), if_neg (by omega), if_neg (by omega)]; exact (hd.2.2.2.2 (by omega)).2, hd⟩
    · skip
      refine r_aload_n dX9_rollOf_19 rfl ?_
      refine r_get (k := 0) lfX9_16 dX9_rollOf_20 (Nat.le_of_ble_eq_true rfl) rfl rfl ?_
      refine i_bipush dX9_rollOf_23 (by decide) ?_
      refine i_ald (k := 3) dX9_rollOf_25 (Nat.le_of_ble_eq_true rfl) rfl rfl ⟨by omega, by omega⟩ (by decide) ?_
      refine r_goto 36 dX9_rollOf_26 rfl ?_
      refine r_iret rfl dX9_rollOf_36 ?_
      first
        | exact ⟨_, rfl, by unfold q_roll; rw [if_pos (by omega), if_pos (by omega)], hd⟩
        | exact ⟨_, rfl, by unfold q_roll; rw [if_pos (by omega), if_neg (by omega), if_pos (by omega)]; exact (hd.2.2.2.2 (by omega)).1, hd⟩
        | exact ⟨_, rfl, by unfold q_roll; rw [if_pos (by omega), if_neg (by omega), if_neg (by omega)]; exact (hd.2.2.2.2 (by omega)).2, hd⟩
  · skip
    refine i_const dX9_rollOf_11 ?_
    refine r_goto 36 dX9_rollOf_12 rfl ?_
    refine r_iret rfl dX9_rollOf_36 ?_
    first
      | exact ⟨_, rfl, by unfold q_roll; rw [if_pos (by omega), if_pos (by omega)], hd⟩
      | exact ⟨_, rfl, by unfold q_roll; rw [if_pos (by omega), if_neg (by omega), if_pos (by omega)]; exact (hd.2.2.2.2 (by omega)).1, hd⟩
      | exact ⟨_, rfl, by unfold q_roll; rw [if_pos (by omega), if_neg (by omega), if_neg (by omega)]; exact (hd.2.2.2.2 (by omega)).2, hd⟩

set_option maxRecDepth 20000 in
theorem m_roll (M σ : rl_S) (c : IM M σ) (hw : WF M) (w : Int) (hw2 : -2147483648 ≤ w ∧ w < 2147483648) : Ct mW mX9_roll [.ref 0, .int (iI w)] σ (pM M (q_roll M w)) := by
  refine Ct.of plX9 (Nat.le_of_ble_eq_true rfl) ?_
  have ob1 := ob_bd (decide (0 ≤ w ∧ w ≤ 1))
  refine r_iload_n dX9_roll_0 rfl ?_
  refine i_const dX9_roll_1 ?_
  refine i_const dX9_roll_2 ?_
  refine i_csP (m_in σ w 0 1 hw2 (by decide) (by decide)) lmX9_55 dX9_roll_3 (by decide) (by decide) rfl rfl (Nat.le_of_ble_eq_true rfl) ?_
  refine i_if_eq 17 dX9_roll_6 rfl (ob_i32 _) (fun q6 => ?_) (fun q6 => ?_)
  · have e6 := ob_df q6
    refine i_bipush dX9_roll_17 (by decide) ?_
    refine r_iret rfl dX9_roll_19 ?_
    first
      | exact ⟨_, rfl, hd.1, hd.2.1⟩
      | exact ⟨_, rfl, by unfold q_roll; rw [if_neg (by omega)], c⟩
  · have e6 := ob_dt q6
    refine r_aload_n dX9_roll_9 rfl ?_
    refine r_iload_n dX9_roll_10 rfl ?_
    refine i_cvI (m_rollOf M σ c hw w (by omega)) lmX9_87 dX9_roll_11 (Nat.le_of_ble_eq_true rfl) rfl ⟨_, _, rfl⟩ (by decide) (by decide) rfl rfl (Nat.le_of_ble_eq_true rfl) (fun z1 σ1 hd => ?_)
    refine r_goto 19 dX9_roll_14 rfl ?_
    refine r_iret rfl dX9_roll_19 ?_
    first
      | exact ⟨_, rfl, hd.1, hd.2.1⟩
      | exact ⟨_, rfl, by unfold q_roll; rw [if_neg (by omega)], c⟩

/-! heights -/
def RH (σ : rl_S) (N : Int) (H L P : Int → Int) : Prop := σ 0 2 = N ∧ SW N H L P ∧ ∀ z : Int, 0 ≤ z → z < N → σ 3 z.toNat = H z ∧ σ 4 z.toNat = L z ∧ σ 5 z.toNat = P z
theorem ir_rh {M σ : rl_S} (c : IR M σ) (hw : WF M) : RH σ (nS M) (hS M) (lS M) (pS M) := ⟨c.2.1, wf_sw hw, fun z z0 z1 => ⟨(c.2.2.2.1 z z0 z1).1, (c.2.2.2.1 z z0 z1).2, by rw [c.1.1 5 _ (by omega)]; unfold pS; rw [if_pos z0]⟩⟩
set_option maxRecDepth 20000 in
theorem m_isLee (σ : rl_S) (a m : Int) (ea : σ 0 7 = a) (em : σ 0 8 = m) (a0 : 0 ≤ a ∧ a ≤ 399) (m0 : 0 ≤ m ∧ m ≤ 399) (t : Int) (t0 : 0 ≤ t) (t1 : t < 400) : Ct mW mX9_isLee [.ref 0, .int (iI t)] σ (pR (.int (iI (ob (decide (a ≤ t ∧ t < a + m))))) σ) := by
  refine Ct.of plX9 (Nat.le_of_ble_eq_true rfl) ?_
  refine r_iload_n dX9_isLee_0 rfl ?_
  refine r_aload_n dX9_isLee_1 rfl ?_
  refine r_get (k := 0) lfX9_93 dX9_isLee_2 (Nat.le_of_ble_eq_true rfl) rfl rfl ?_
  rw [ea]
  refine i_icmp_lt 25 dX9_isLee_5 rfl ⟨by omega, by omega⟩ ⟨by omega, by omega⟩ (fun q5 => ?_) (fun q5 => ?_)
  · skip
    refine i_const dX9_isLee_25 ?_
    refine r_zret rfl dX9_isLee_26 (by first | rfl | exact ob_nar _) ?_
    first
      | exact ⟨by rw [decide_eq_true (by omega)]; rfl, rfl⟩
      | exact ⟨by rw [decide_eq_false (by omega)]; rfl, rfl⟩
  · skip
    refine r_iload_n dX9_isLee_8 rfl ?_
    refine r_aload_n dX9_isLee_9 rfl ?_
    refine r_get (k := 0) lfX9_93 dX9_isLee_10 (Nat.le_of_ble_eq_true rfl) rfl rfl ?_
    refine r_aload_n dX9_isLee_13 rfl ?_
    refine r_get (k := 0) lfX9_96 dX9_isLee_14 (Nat.le_of_ble_eq_true rfl) rfl rfl ?_
    rw [ea, em]
    refine i_iadd dX9_isLee_17 ?_
    refine i_icmp_ge 25 dX9_isLee_18 rfl ⟨by omega, by omega⟩ ⟨by omega, by omega⟩ (fun q18 => ?_) (fun q18 => ?_)
    · skip
      refine i_const dX9_isLee_25 ?_
      refine r_zret rfl dX9_isLee_26 (by first | rfl | exact ob_nar _) ?_
      first
        | exact ⟨by rw [decide_eq_true (by omega)]; rfl, rfl⟩
        | exact ⟨by rw [decide_eq_false (by omega)]; rfl, rfl⟩
    · skip
      refine i_const dX9_isLee_21 ?_
      refine r_goto 26 dX9_isLee_22 rfl ?_
      refine r_zret rfl dX9_isLee_26 (by first | rfl | exact ob_nar _) ?_
      first
        | exact ⟨by rw [decide_eq_true (by omega)]; rfl, rfl⟩
        | exact ⟨by rw [decide_eq_false (by omega)]; rfl, rfl⟩

theorem m_raw_l (σ : rl_S) (N : Int) (H L P : Int → Int) (rh : RH σ N H L P) (t : Int) (t0 : 0 ≤ t) (t1 : t < 400) : ∀ (n : Nat) (k : Nat) (l4 : Value), (k : Int) + n = N → Rn mW mX9_rawHigh 4 [.ref 0, .int (iI t), .int (iI (rawU H L P t k)), .int (iI (k : Int)), l4] [] σ (pR (.int (iI (rawU H L P t N.toNat))) σ) := by
  intro n
  obtain ⟨r0, r1, r2⟩ := rh
  have rb := r1.2.1
  induction n with
  | zero =>
    intro k l4 hk
    refine r_iload_n dX9_rawHigh_4 rfl ?_
    refine r_aload_n dX9_rawHigh_5 rfl ?_
    refine r_get (k := 0) lfX9_63 dX9_rawHigh_6 (Nat.le_of_ble_eq_true rfl) rfl rfl ?_
    rw [r0]
    refine i_icmp_ge 72 dX9_rawHigh_9 rfl ⟨by omega, by omega⟩ ⟨by omega, by omega⟩ (fun q9 => ?_) (fun q9 => ?_)
    · skip
      refine r_iload_n dX9_rawHigh_72 rfl ?_
      refine r_iret rfl dX9_rawHigh_73 ?_
      exact ⟨by rw [show N.toNat = k by omega], rfl⟩
    · exfalso
      omega
  | succ n ih =>
    intro k l4 hk
    obtain ⟨b1, b2, b3⟩ := r1.2.2 k (by omega) (by omega)
    have b2 := b2 (by omega)
    obtain ⟨e1, e2, e3⟩ := r2 k (by omega) (by omega)
    have m1 := Int.emod_nonneg (t + P k) (show L k ≠ 0 by omega)
    have m2 := Int.emod_lt_of_pos (t + P k) (show 0 < L k by omega)
    have es : rawU H L P t (k + 1) = rawU H L P t k + H k * tri ((t + P k) % L k) (L k) := rfl
    refine r_iload_n dX9_rawHigh_4 rfl ?_
    refine r_aload_n dX9_rawHigh_5 rfl ?_
    refine r_get (k := 0) lfX9_63 dX9_rawHigh_6 (Nat.le_of_ble_eq_true rfl) rfl rfl ?_
    rw [r0]
    refine i_icmp_ge 72 dX9_rawHigh_9 rfl ⟨by omega, by omega⟩ ⟨by omega, by omega⟩ (fun q9 => ?_) (fun q9 => ?_)
    · exfalso
      omega
    · skip
      refine r_iload_n dX9_rawHigh_12 rfl ?_
      refine r_aload_n dX9_rawHigh_13 rfl ?_
      refine r_get (k := 0) lfX9_22 dX9_rawHigh_14 (Nat.le_of_ble_eq_true rfl) rfl rfl ?_
      refine r_iload_n dX9_rawHigh_17 rfl ?_
      refine i_ald (k := 5) dX9_rawHigh_18 (Nat.le_of_ble_eq_true rfl) rfl rfl ⟨by omega, by omega⟩ (by decide) ?_
      rw [e3]
      refine i_iadd dX9_rawHigh_19 ?_
      refine r_aload_n dX9_rawHigh_20 rfl ?_
      refine r_get (k := 0) lfX9_19 dX9_rawHigh_21 (Nat.le_of_ble_eq_true rfl) rfl rfl ?_
      refine r_iload_n dX9_rawHigh_24 rfl ?_
      refine i_ald (k := 4) dX9_rawHigh_25 (Nat.le_of_ble_eq_true rfl) rfl rfl ⟨by omega, by omega⟩ (by decide) ?_
      rw [e2]
      refine i_irem dX9_rawHigh_26 ⟨by omega, by omega⟩ ⟨by omega, by omega⟩ ?_
      refine r_istore dX9_rawHigh_27 (Nat.le_of_ble_eq_true rfl) ?_
      refine r_iload_n dX9_rawHigh_29 rfl ?_
      refine r_aload_n dX9_rawHigh_30 rfl ?_
      refine r_get (k := 0) lfX9_16 dX9_rawHigh_31 (Nat.le_of_ble_eq_true rfl) rfl rfl ?_
      refine r_iload_n dX9_rawHigh_34 rfl ?_
      refine i_ald (k := 3) dX9_rawHigh_35 (Nat.le_of_ble_eq_true rfl) rfl rfl ⟨by omega, by omega⟩ (by decide) ?_
      rw [e1]
      refine i_const dX9_rawHigh_36 ?_
      refine r_iload dX9_rawHigh_37 rfl ?_
      refine i_imul dX9_rawHigh_39 ?_
      refine r_aload_n dX9_rawHigh_40 rfl ?_
      refine r_get (k := 0) lfX9_19 dX9_rawHigh_41 (Nat.le_of_ble_eq_true rfl) rfl rfl ?_
      refine r_iload_n dX9_rawHigh_44 rfl ?_
      refine i_ald (k := 4) dX9_rawHigh_45 (Nat.le_of_ble_eq_true rfl) rfl rfl ⟨by omega, by omega⟩ (by decide) ?_
      rw [e2]
      refine i_icmp_ge 54 dX9_rawHigh_46 rfl ⟨by omega, by omega⟩ ⟨by omega, by omega⟩ (fun q46 => ?_) (fun q46 => ?_)
      · skip
        refine r_aload_n dX9_rawHigh_54 rfl ?_
        refine r_get (k := 0) lfX9_19 dX9_rawHigh_55 (Nat.le_of_ble_eq_true rfl) rfl rfl ?_
        refine r_iload_n dX9_rawHigh_58 rfl ?_
        refine i_ald (k := 4) dX9_rawHigh_59 (Nat.le_of_ble_eq_true rfl) rfl rfl ⟨by omega, by omega⟩ (by decide) ?_
        rw [e2]
        refine r_iload dX9_rawHigh_60 rfl ?_
        refine i_isub dX9_rawHigh_62 ?_
        refine i_imul dX9_rawHigh_63 ?_
        refine i_iadd dX9_rawHigh_64 ?_
        refine r_istore_n dX9_rawHigh_65 (Nat.le_of_ble_eq_true rfl) ?_
        refine i_iinc dX9_rawHigh_66 rfl (Nat.le_of_ble_eq_true rfl) ?_
        refine r_goto 4 dX9_rawHigh_69 rfl ?_
        have et : tri ((t + P k) % L k) (L k) = min ((t + P k) % L k) (L k - (t + P k) % L k) := rfl
        rw [show (k : Int) + 1 = ((k + 1 : Nat) : Int) by omega]
        first
          | (have ex : rawU H L P t k + H k * ((t + P k) % L k) = rawU H L P t (k + 1) := by rw [es, show tri ((t + P k) % L k) (L k) = (t + P k) % L k by omega]
             rw [ex]
             exact ih (k + 1) _ (by omega))
          | (have ex : rawU H L P t k + H k * (L k - (t + P k) % L k) = rawU H L P t (k + 1) := by rw [es, show tri ((t + P k) % L k) (L k) = L k - (t + P k) % L k by omega]
             rw [ex]
             exact ih (k + 1) _ (by omega))
      · skip
        refine r_iload dX9_rawHigh_49 rfl ?_
        refine r_goto 63 dX9_rawHigh_51 rfl ?_
        refine i_imul dX9_rawHigh_63 ?_
        refine i_iadd dX9_rawHigh_64 ?_
        refine r_istore_n dX9_rawHigh_65 (Nat.le_of_ble_eq_true rfl) ?_
        refine i_iinc dX9_rawHigh_66 rfl (Nat.le_of_ble_eq_true rfl) ?_
        refine r_goto 4 dX9_rawHigh_69 rfl ?_
        have et : tri ((t + P k) % L k) (L k) = min ((t + P k) % L k) (L k - (t + P k) % L k) := rfl
        rw [show (k : Int) + 1 = ((k + 1 : Nat) : Int) by omega]
        first
          | (have ex : rawU H L P t k + H k * ((t + P k) % L k) = rawU H L P t (k + 1) := by rw [es, show tri ((t + P k) % L k) (L k) = (t + P k) % L k by omega]
             rw [ex]
             exact ih (k + 1) _ (by omega))
          | (have ex : rawU H L P t k + H k * (L k - (t + P k) % L k) = rawU H L P t (k + 1) := by rw [es, show tri ((t + P k) % L k) (L k) = L k - (t + P k) % L k by omega]
             rw [ex]
             exact ih (k + 1) _ (by omega))

set_option maxRecDepth 20000 in
theorem m_rawHigh (σ : rl_S) (N : Int) (H L P : Int → Int) (rh : RH σ N H L P) (t : Int) (t0 : 0 ≤ t) (t1 : t < 400) : Ct mW mX9_rawHigh [.ref 0, .int (iI t)] σ (pR (.int (iI (rawU H L P t N.toNat))) σ) := by
  refine Ct.of plX9 (Nat.le_of_ble_eq_true rfl) ?_
  have rb := rh.2.1.1
  refine i_const dX9_rawHigh_0 ?_
  refine r_istore_n dX9_rawHigh_1 (Nat.le_of_ble_eq_true rfl) ?_
  refine i_const dX9_rawHigh_2 ?_
  refine r_istore_n dX9_rawHigh_3 (Nat.le_of_ble_eq_true rfl) ?_
  exact m_raw_l σ N H L P rh t t0 t1 N.toNat 0 _ (by omega)

set_option maxRecDepth 20000 in
theorem m_highBy (σ : rl_S) (N : Int) (H L P : Int → Int) (rh : RH σ N H L P) (a m : Int) (ea : σ 0 7 = a) (em : σ 0 8 = m) (a0 : 0 ≤ a ∧ a ≤ 399) (m0 : 0 ≤ m ∧ m ≤ 399) (t : Int) (t0 : 0 ≤ t) (t1 : t < 400) : Ct mW mX9_highBy [.ref 0, .int (iI t)] σ (pR (.int (iI (cut a m t (rawU H L P t N.toNat)))) σ) := by
  refine Ct.of plX9 (Nat.le_of_ble_eq_true rfl) ?_
  have ob1 := ob_bd (decide (a ≤ t ∧ t < a + m))
  have rb := rawU_bd rh.2.1 t t0 N.toNat (by have := rh.2.1.1; omega)
  have rb2 := rh.2.1.2.1
  refine r_aload_n dX9_highBy_0 rfl ?_
  refine r_iload_n dX9_highBy_1 rfl ?_
  refine i_cvP (m_isLee σ a m ea em a0 m0 t t0 t1) lmX9_105 dX9_highBy_2 (Nat.le_of_ble_eq_true rfl) rfl ⟨_, _, rfl⟩ (by decide) (by decide) rfl rfl (Nat.le_of_ble_eq_true rfl) ?_
  refine i_if_eq 18 dX9_highBy_5 rfl (ob_i32 _) (fun q5 => ?_) (fun q5 => ?_)
  · have e5 := ob_df q5
    refine r_aload_n dX9_highBy_18 rfl ?_
    refine r_iload_n dX9_highBy_19 rfl ?_
    refine i_cvP (m_rawHigh σ N H L P rh t t0 t1) lmX9_108 dX9_highBy_20 (Nat.le_of_ble_eq_true rfl) rfl ⟨_, _, rfl⟩ (by decide) (by decide) rfl rfl (Nat.le_of_ble_eq_true rfl) ?_
    refine r_iret rfl dX9_highBy_23 ?_
    refine ⟨?_, rfl⟩
    unfold cut
    first
      | (rw [if_pos (by omega)])
      | (rw [if_neg (by omega)])
  · have e5 := ob_dt q5
    refine r_aload_n dX9_highBy_8 rfl ?_
    refine r_iload_n dX9_highBy_9 rfl ?_
    refine i_cvP (m_rawHigh σ N H L P rh t t0 t1) lmX9_108 dX9_highBy_10 (Nat.le_of_ble_eq_true rfl) rfl ⟨_, _, rfl⟩ (by decide) (by decide) rfl rfl (Nat.le_of_ble_eq_true rfl) ?_
    refine i_const dX9_highBy_13 ?_
    refine i_idiv dX9_highBy_14 ⟨by omega, by omega⟩ ⟨by omega, by omega⟩ ?_
    refine r_goto 23 dX9_highBy_15 rfl ?_
    refine r_iret rfl dX9_highBy_23 ?_
    refine ⟨?_, rfl⟩
    unfold cut
    first
      | (rw [if_pos (by omega)])
      | (rw [if_neg (by omega)])

theorem m_lays_l (M : rl_S) (hw : WF M) : ∀ (n : Nat) (t : Int) (σ1 : rl_S), t + n = 400 → 0 ≤ t → IR M σ1 → (∀ z : Int, 0 ≤ z → z < t → σ1 7 z.toNat = hi M z) → Rn mW mX9_lays 6 [.ref 0, .int (iI t)] [] σ1 (qV (IH M)) := by
  intro n
  have w1 := wf_1 hw
  induction n with
  | zero =>
    intro t σ1 ht t0 c1 er
    refine r_iload_n dX9_lays_6 rfl ?_
    refine i_sipush dX9_lays_7 (by decide) ?_
    refine i_icmp_ge 30 dX9_lays_10 rfl ⟨by omega, by omega⟩ ⟨by omega, by omega⟩ (fun q10 => ?_) (fun q10 => ?_)
    · skip
      refine r_vret rfl dX9_lays_30 ?_
      exact ⟨rfl, c1, fun z z0 z1 => er z z0 (by omega)⟩
    · exfalso
      omega
  | succ n ih =>
    intro t σ1 ht t0 c1 er
    refine r_iload_n dX9_lays_6 rfl ?_
    refine i_sipush dX9_lays_7 (by decide) ?_
    refine i_icmp_ge 30 dX9_lays_10 rfl ⟨by omega, by omega⟩ ⟨by omega, by omega⟩ (fun q10 => ?_) (fun q10 => ?_)
    · exfalso
      omega
    · skip
      refine r_aload_n dX9_lays_13 rfl ?_
      refine r_get (k := 0) lfX9_28 dX9_lays_14 (Nat.le_of_ble_eq_true rfl) rfl rfl ?_
      refine r_iload_n dX9_lays_17 rfl ?_
      refine r_aload_n dX9_lays_18 rfl ?_
      refine r_iload_n dX9_lays_19 rfl ?_
      refine i_cvP (m_highBy σ1 (nS M) (hS M) (lS M) (pS M) (ir_rh c1 hw) (M 0 7) (M 0 8) c1.1.2.1 c1.1.2.2.1 w1.1 w1.2 t t0 (by omega)) lmX9_111 dX9_lays_20 (Nat.le_of_ble_eq_true rfl) rfl ⟨_, _, rfl⟩ (by decide) (by decide) rfl rfl (Nat.le_of_ble_eq_true rfl) ?_
      refine i_ast (k := 7) dX9_lays_23 (Nat.le_of_ble_eq_true rfl) rfl rfl ⟨by omega, by omega⟩ (by decide) ?_
      refine i_iinc dX9_lays_24 rfl (Nat.le_of_ble_eq_true rfl) ?_
      refine r_goto 6 dX9_lays_27 rfl ?_
      refine ih (t + 1) _ (by omega) (by omega) ?_ (row_up er t0 rfl)
      obtain ⟨a1, a2, a3, a4, a5⟩ := c1
      exact ⟨im_scr a1 (fun k i g3 g4 g7 g14 g0 => sup_k _ _ _ _ _ g7), (sup_k _ _ _ _ _ (by decide)).trans a2, (sup_k _ _ _ _ _ (by decide)).trans a3, fun z z0 z1 => ⟨(sup_k _ _ _ _ _ (by decide)).trans (a4 z z0 z1).1, (sup_k _ _ _ _ _ (by decide)).trans (a4 z z0 z1).2⟩, fun q => ⟨(sup_k _ _ _ _ _ (by decide)).trans (a5 q).1, (sup_k _ _ _ _ _ (by decide)).trans (a5 q).2⟩⟩

set_option maxRecDepth 20000 in
theorem m_lays (M σ : rl_S) (c : IM M σ) (hw : WF M)  : Ct mW mX9_lays [.ref 0] σ (qV (IH M)) := by
  refine Ct.of plX9 (Nat.le_of_ble_eq_true rfl) ?_
  refine r_aload_n dX9_lays_0 rfl ?_
  refine i_cvV (m_reads M σ c hw) lmX9_81 dX9_lays_1 (Nat.le_of_ble_eq_true rfl) rfl ⟨_, _, rfl⟩ (by decide) (by decide) rfl rfl (Nat.le_of_ble_eq_true rfl) (fun σ1 hd => ?_)
  refine i_const dX9_lays_4 ?_
  refine r_istore_n dX9_lays_5 (Nat.le_of_ble_eq_true rfl) ?_
  exact m_lays_l M hw 400 0 σ1 (by omega) (by omega) hd (fun z z0 z1 => absurd z1 (by omega))

set_option maxRecDepth 20000 in
theorem m_highOfTenth (M σ : rl_S) (c : IM M σ) (hw : WF M) (t : Int) (t0 : 0 ≤ t) (t1 : t < 400) : Ct mW mX9_highOfTenth [.ref 0, .int (iI t)] σ (pD M (hi M t)) := by
  refine Ct.of plX9 (Nat.le_of_ble_eq_true rfl) ?_
  have w1 := wf_1 hw
  refine r_aload_n dX9_highOfTenth_0 rfl ?_
  refine i_cvV (m_reads M σ c hw) lmX9_81 dX9_highOfTenth_1 (Nat.le_of_ble_eq_true rfl) rfl ⟨_, _, rfl⟩ (by decide) (by decide) rfl rfl (Nat.le_of_ble_eq_true rfl) (fun σ1 c1 => ?_)
  refine r_aload_n dX9_highOfTenth_4 rfl ?_
  refine r_iload_n dX9_highOfTenth_5 rfl ?_
  refine i_cvP (m_highBy σ1 (nS M) (hS M) (lS M) (pS M) (ir_rh c1 hw) (M 0 7) (M 0 8) c1.1.2.1 c1.1.2.2.1 w1.1 w1.2 t t0 t1) lmX9_111 dX9_highOfTenth_6 (Nat.le_of_ble_eq_true rfl) rfl ⟨_, _, rfl⟩ (by decide) (by decide) rfl rfl (Nat.le_of_ble_eq_true rfl) ?_
  refine r_iret rfl dX9_highOfTenth_9 ?_
  exact ⟨_, rfl, rfl, c1⟩

set_option maxRecDepth 20000 in
theorem m_high (M σ : rl_S) (c : IM M σ) (hw : WF M) (t : Int) (ht : -2147483648 ≤ t ∧ t < 2147483648) : Ct mW mX9_high [.ref 0, .int (iI t)] σ (pM M (q_high M t)) := by
  refine Ct.of plX9 (Nat.le_of_ble_eq_true rfl) ?_
  have ob1 := ob_bd (decide (0 ≤ t ∧ t ≤ 399))
  refine r_iload_n dX9_high_0 rfl ?_
  refine i_csP (m_isTenth _ t ht) lmX9_90 dX9_high_1 (by decide) (by decide) rfl rfl (Nat.le_of_ble_eq_true rfl) ?_
  refine i_if_eq 15 dX9_high_4 rfl (ob_i32 _) (fun q4 => ?_) (fun q4 => ?_)
  · have e4 := ob_df q4
    refine i_bipush dX9_high_15 (by decide) ?_
    refine r_iret rfl dX9_high_17 ?_
    first
      | exact ⟨_, rfl, by rw [hd.1]; unfold q_high; rw [if_pos (by omega)], hd.2.1⟩
      | exact ⟨_, rfl, by unfold q_high; rw [if_neg (by omega)], c⟩
  · have e4 := ob_dt q4
    refine r_aload_n dX9_high_7 rfl ?_
    refine r_iload_n dX9_high_8 rfl ?_
    refine i_cvI (m_highOfTenth M σ c hw t (by omega) (by omega)) lmX9_114 dX9_high_9 (Nat.le_of_ble_eq_true rfl) rfl ⟨_, _, rfl⟩ (by decide) (by decide) rfl rfl (Nat.le_of_ble_eq_true rfl) (fun z1 σ1 hd => ?_)
    refine r_goto 17 dX9_high_12 rfl ?_
    refine r_iret rfl dX9_high_17 ?_
    first
      | exact ⟨_, rfl, by rw [hd.1]; unfold q_high; rw [if_pos (by omega)], hd.2.1⟩
      | exact ⟨_, rfl, by unfold q_high; rw [if_neg (by omega)], c⟩

set_option maxRecDepth 20000 in
theorem m_doesNow (σ : rl_S) (h : Int → Int) (hh : SM σ h) (hb : HB h) (t : Int) (t0 : 0 ≤ t) (t1 : t < 400) : Ct mW mX9_doesNow [.ref 0, .int (iI t)] σ (pR (.int (iI (mv h t))) σ) := by
  refine Ct.of plX9 (Nat.le_of_ble_eq_true rfl) ?_
  refine r_iload_n dX9_doesNow_0 rfl ?_
  refine i_if_eq 11 dX9_doesNow_1 rfl ⟨by omega, by omega⟩ (fun q1 => ?_) (fun q1 => ?_)
  · skip
    refine i_const dX9_doesNow_11 ?_
    refine r_iret rfl dX9_doesNow_12 ?_
    refine ⟨?_, rfl⟩
    congr 2
    simp only [mv]
    (repeat (first | rfl | (rw [if_pos (by omega)]) | (rw [if_neg (by omega)])))
    all_goals (exfalso; omega)
  · skip
    refine r_iload_n dX9_doesNow_4 rfl ?_
    refine i_sipush dX9_doesNow_5 (by decide) ?_
    refine i_icmp_ne 13 dX9_doesNow_8 rfl ⟨by omega, by omega⟩ ⟨by omega, by omega⟩ (fun q8 => ?_) (fun q8 => ?_)
    · skip
      have b1 := hb t (by omega) (by omega)
      have b2 := hb (t + 1) (by omega) (by omega)
      have b3 := hb (t - 1) (by omega) (by omega)
      refine r_aload_n dX9_doesNow_13 rfl ?_
      refine r_get (k := 0) lfX9_28 dX9_doesNow_14 (Nat.le_of_ble_eq_true rfl) rfl rfl ?_
      refine r_iload_n dX9_doesNow_17 rfl ?_
      refine i_const dX9_doesNow_18 ?_
      refine i_isub dX9_doesNow_19 ?_
      refine i_ald (k := 7) dX9_doesNow_20 (Nat.le_of_ble_eq_true rfl) rfl rfl ⟨by omega, by omega⟩ (by decide) ?_
      rw [hh (t - 1) (by omega) (by omega)]
      refine r_aload_n dX9_doesNow_21 rfl ?_
      refine r_get (k := 0) lfX9_28 dX9_doesNow_22 (Nat.le_of_ble_eq_true rfl) rfl rfl ?_
      refine r_iload_n dX9_doesNow_25 rfl ?_
      refine i_ald (k := 7) dX9_doesNow_26 (Nat.le_of_ble_eq_true rfl) rfl rfl ⟨by omega, by omega⟩ (by decide) ?_
      rw [hh t (by omega) (by omega)]
      refine i_icmp_gt 49 dX9_doesNow_27 rfl ⟨by omega, by omega⟩ ⟨by omega, by omega⟩ (fun q27 => ?_) (fun q27 => ?_)
      · skip
        refine r_aload_n dX9_doesNow_49 rfl ?_
        refine r_get (k := 0) lfX9_28 dX9_doesNow_50 (Nat.le_of_ble_eq_true rfl) rfl rfl ?_
        refine r_iload_n dX9_doesNow_53 rfl ?_
        refine i_const dX9_doesNow_54 ?_
        refine i_iadd dX9_doesNow_55 ?_
        refine i_ald (k := 7) dX9_doesNow_56 (Nat.le_of_ble_eq_true rfl) rfl rfl ⟨by omega, by omega⟩ (by decide) ?_
        rw [hh (t + 1) (by omega) (by omega)]
        refine r_aload_n dX9_doesNow_57 rfl ?_
        refine r_get (k := 0) lfX9_28 dX9_doesNow_58 (Nat.le_of_ble_eq_true rfl) rfl rfl ?_
        refine r_iload_n dX9_doesNow_61 rfl ?_
        refine i_ald (k := 7) dX9_doesNow_62 (Nat.le_of_ble_eq_true rfl) rfl rfl ⟨by omega, by omega⟩ (by decide) ?_
        rw [hh t (by omega) (by omega)]
        refine i_icmp_le 70 dX9_doesNow_63 rfl ⟨by omega, by omega⟩ ⟨by omega, by omega⟩ (fun q63 => ?_) (fun q63 => ?_)
        · skip
          refine r_aload_n dX9_doesNow_70 rfl ?_
          refine r_get (k := 0) lfX9_28 dX9_doesNow_71 (Nat.le_of_ble_eq_true rfl) rfl rfl ?_
          refine r_iload_n dX9_doesNow_74 rfl ?_
          refine i_const dX9_doesNow_75 ?_
          refine i_iadd dX9_doesNow_76 ?_
          refine i_ald (k := 7) dX9_doesNow_77 (Nat.le_of_ble_eq_true rfl) rfl rfl ⟨by omega, by omega⟩ (by decide) ?_
          rw [hh (t + 1) (by omega) (by omega)]
          refine r_aload_n dX9_doesNow_78 rfl ?_
          refine r_get (k := 0) lfX9_28 dX9_doesNow_79 (Nat.le_of_ble_eq_true rfl) rfl rfl ?_
          refine r_iload_n dX9_doesNow_82 rfl ?_
          refine i_ald (k := 7) dX9_doesNow_83 (Nat.le_of_ble_eq_true rfl) rfl rfl ⟨by omega, by omega⟩ (by decide) ?_
          rw [hh t (by omega) (by omega)]
          refine i_icmp_ge 91 dX9_doesNow_84 rfl ⟨by omega, by omega⟩ ⟨by omega, by omega⟩ (fun q84 => ?_) (fun q84 => ?_)
          · skip
            refine i_const dX9_doesNow_91 ?_
            refine r_iret rfl dX9_doesNow_92 ?_
            refine ⟨?_, rfl⟩
            congr 2
            simp only [mv]
            (repeat (first | rfl | (rw [if_pos (by omega)]) | (rw [if_neg (by omega)])))
            all_goals (exfalso; omega)
          · skip
            refine i_const dX9_doesNow_87 ?_
            refine r_goto 92 dX9_doesNow_88 rfl ?_
            refine r_iret rfl dX9_doesNow_92 ?_
            refine ⟨?_, rfl⟩
            congr 2
            simp only [mv]
            (repeat (first | rfl | (rw [if_pos (by omega)]) | (rw [if_neg (by omega)])))
            all_goals (exfalso; omega)
        · skip
          refine i_const dX9_doesNow_66 ?_
          refine r_goto 92 dX9_doesNow_67 rfl ?_
          refine r_iret rfl dX9_doesNow_92 ?_
          refine ⟨?_, rfl⟩
          congr 2
          simp only [mv]
          (repeat (first | rfl | (rw [if_pos (by omega)]) | (rw [if_neg (by omega)])))
          all_goals (exfalso; omega)
      · skip
        refine r_aload_n dX9_doesNow_30 rfl ?_
        refine r_get (k := 0) lfX9_28 dX9_doesNow_31 (Nat.le_of_ble_eq_true rfl) rfl rfl ?_
        refine r_iload_n dX9_doesNow_34 rfl ?_
        refine i_const dX9_doesNow_35 ?_
        refine i_iadd dX9_doesNow_36 ?_
        refine i_ald (k := 7) dX9_doesNow_37 (Nat.le_of_ble_eq_true rfl) rfl rfl ⟨by omega, by omega⟩ (by decide) ?_
        rw [hh (t + 1) (by omega) (by omega)]
        refine r_aload_n dX9_doesNow_38 rfl ?_
        refine r_get (k := 0) lfX9_28 dX9_doesNow_39 (Nat.le_of_ble_eq_true rfl) rfl rfl ?_
        refine r_iload_n dX9_doesNow_42 rfl ?_
        refine i_ald (k := 7) dX9_doesNow_43 (Nat.le_of_ble_eq_true rfl) rfl rfl ⟨by omega, by omega⟩ (by decide) ?_
        rw [hh t (by omega) (by omega)]
        refine i_icmp_ge 49 dX9_doesNow_44 rfl ⟨by omega, by omega⟩ ⟨by omega, by omega⟩ (fun q44 => ?_) (fun q44 => ?_)
        · skip
          refine r_aload_n dX9_doesNow_49 rfl ?_
          refine r_get (k := 0) lfX9_28 dX9_doesNow_50 (Nat.le_of_ble_eq_true rfl) rfl rfl ?_
          refine r_iload_n dX9_doesNow_53 rfl ?_
          refine i_const dX9_doesNow_54 ?_
          refine i_iadd dX9_doesNow_55 ?_
          refine i_ald (k := 7) dX9_doesNow_56 (Nat.le_of_ble_eq_true rfl) rfl rfl ⟨by omega, by omega⟩ (by decide) ?_
          rw [hh (t + 1) (by omega) (by omega)]
          refine r_aload_n dX9_doesNow_57 rfl ?_
          refine r_get (k := 0) lfX9_28 dX9_doesNow_58 (Nat.le_of_ble_eq_true rfl) rfl rfl ?_
          refine r_iload_n dX9_doesNow_61 rfl ?_
          refine i_ald (k := 7) dX9_doesNow_62 (Nat.le_of_ble_eq_true rfl) rfl rfl ⟨by omega, by omega⟩ (by decide) ?_
          rw [hh t (by omega) (by omega)]
          refine i_icmp_le 70 dX9_doesNow_63 rfl ⟨by omega, by omega⟩ ⟨by omega, by omega⟩ (fun q63 => ?_) (fun q63 => ?_)
          · skip
            refine r_aload_n dX9_doesNow_70 rfl ?_
            refine r_get (k := 0) lfX9_28 dX9_doesNow_71 (Nat.le_of_ble_eq_true rfl) rfl rfl ?_
            refine r_iload_n dX9_doesNow_74 rfl ?_
            refine i_const dX9_doesNow_75 ?_
            refine i_iadd dX9_doesNow_76 ?_
            refine i_ald (k := 7) dX9_doesNow_77 (Nat.le_of_ble_eq_true rfl) rfl rfl ⟨by omega, by omega⟩ (by decide) ?_
            rw [hh (t + 1) (by omega) (by omega)]
            refine r_aload_n dX9_doesNow_78 rfl ?_
            refine r_get (k := 0) lfX9_28 dX9_doesNow_79 (Nat.le_of_ble_eq_true rfl) rfl rfl ?_
            refine r_iload_n dX9_doesNow_82 rfl ?_
            refine i_ald (k := 7) dX9_doesNow_83 (Nat.le_of_ble_eq_true rfl) rfl rfl ⟨by omega, by omega⟩ (by decide) ?_
            rw [hh t (by omega) (by omega)]
            refine i_icmp_ge 91 dX9_doesNow_84 rfl ⟨by omega, by omega⟩ ⟨by omega, by omega⟩ (fun q84 => ?_) (fun q84 => ?_)
            · skip
              refine i_const dX9_doesNow_91 ?_
              refine r_iret rfl dX9_doesNow_92 ?_
              refine ⟨?_, rfl⟩
              congr 2
              simp only [mv]
              (repeat (first | rfl | (rw [if_pos (by omega)]) | (rw [if_neg (by omega)])))
              all_goals (exfalso; omega)
            · skip
              refine i_const dX9_doesNow_87 ?_
              refine r_goto 92 dX9_doesNow_88 rfl ?_
              refine r_iret rfl dX9_doesNow_92 ?_
              refine ⟨?_, rfl⟩
              congr 2
              simp only [mv]
              (repeat (first | rfl | (rw [if_pos (by omega)]) | (rw [if_neg (by omega)])))
              all_goals (exfalso; omega)
          · skip
            refine i_const dX9_doesNow_66 ?_
            refine r_goto 92 dX9_doesNow_67 rfl ?_
            refine r_iret rfl dX9_doesNow_92 ?_
            refine ⟨?_, rfl⟩
            congr 2
            simp only [mv]
            (repeat (first | rfl | (rw [if_pos (by omega)]) | (rw [if_neg (by omega)])))
            all_goals (exfalso; omega)
        · skip
          refine i_const dX9_doesNow_47 ?_
          refine r_iret rfl dX9_doesNow_48 ?_
          refine ⟨?_, rfl⟩
          congr 2
          simp only [mv]
          (repeat (first | rfl | (rw [if_pos (by omega)]) | (rw [if_neg (by omega)])))
          all_goals (exfalso; omega)
    · skip
      refine i_const dX9_doesNow_11 ?_
      refine r_iret rfl dX9_doesNow_12 ?_
      refine ⟨?_, rfl⟩
      congr 2
      simp only [mv]
      (repeat (first | rfl | (rw [if_pos (by omega)]) | (rw [if_neg (by omega)])))
      all_goals (exfalso; omega)

set_option maxRecDepth 20000 in
theorem m_doesOf (M σ : rl_S) (c : IM M σ) (hw : WF M) (t : Int) (t0 : 0 ≤ t) (t1 : t < 400) : Ct mW mX9_doesOf [.ref 0, .int (iI t)] σ (pH M (mv (hi M) t)) := by
  refine Ct.of plX9 (Nat.le_of_ble_eq_true rfl) ?_
  refine r_aload_n dX9_doesOf_0 rfl ?_
  refine i_cvV (m_lays M σ c hw) lmX9_117 dX9_doesOf_1 (Nat.le_of_ble_eq_true rfl) rfl ⟨_, _, rfl⟩ (by decide) (by decide) rfl rfl (Nat.le_of_ble_eq_true rfl) (fun σ1 c1 => ?_)
  refine r_aload_n dX9_doesOf_4 rfl ?_
  refine r_iload_n dX9_doesOf_5 rfl ?_
  refine i_cvP (m_doesNow σ1 (hi M) c1.2 (wf_hb hw) t t0 t1) lmX9_120 dX9_doesOf_6 (Nat.le_of_ble_eq_true rfl) rfl ⟨_, _, rfl⟩ (by decide) (by decide) rfl rfl (Nat.le_of_ble_eq_true rfl) ?_
  refine r_iret rfl dX9_doesOf_9 ?_
  exact ⟨_, rfl, rfl, c1⟩

set_option maxRecDepth 20000 in
theorem m_does (M σ : rl_S) (c : IM M σ) (hw : WF M) (t : Int) (ht : -2147483648 ≤ t ∧ t < 2147483648) : Ct mW mX9_does [.ref 0, .int (iI t)] σ (pM M (q_does M t)) := by
  refine Ct.of plX9 (Nat.le_of_ble_eq_true rfl) ?_
  have ob1 := ob_bd (decide (0 ≤ t ∧ t ≤ 399))
  refine r_iload_n dX9_does_0 rfl ?_
  refine i_csP (m_isTenth _ t ht) lmX9_90 dX9_does_1 (by decide) (by decide) rfl rfl (Nat.le_of_ble_eq_true rfl) ?_
  refine i_if_eq 15 dX9_does_4 rfl (ob_i32 _) (fun q4 => ?_) (fun q4 => ?_)
  · have e4 := ob_df q4
    refine i_bipush dX9_does_15 (by decide) ?_
    refine r_iret rfl dX9_does_17 ?_
    first
      | exact ⟨_, rfl, by rw [hd.1]; unfold q_does; rw [if_pos (by omega)], hd.2.1.1⟩
      | exact ⟨_, rfl, by unfold q_does; rw [if_neg (by omega)], c⟩
  · have e4 := ob_dt q4
    refine r_aload_n dX9_does_7 rfl ?_
    refine r_iload_n dX9_does_8 rfl ?_
    refine i_cvI (m_doesOf M σ c hw t (by omega) (by omega)) lmX9_123 dX9_does_9 (Nat.le_of_ble_eq_true rfl) rfl ⟨_, _, rfl⟩ (by decide) (by decide) rfl rfl (Nat.le_of_ble_eq_true rfl) (fun z1 σ1 hd => ?_)
    refine r_goto 17 dX9_does_12 rfl ?_
    refine r_iret rfl dX9_does_17 ?_
    first
      | exact ⟨_, rfl, by rw [hd.1]; unfold q_does; rw [if_pos (by omega)], hd.2.1.1⟩
      | exact ⟨_, rfl, by unfold q_does; rw [if_neg (by omega)], c⟩

set_option maxRecDepth 20000 in
theorem m_leansNow (M σ : rl_S) (c : IR M σ) (hw : WF M) (t : Int) (t0 : 0 ≤ t) (t1 : t < 400) : Ct mW mX9_leansNow [.ref 0, .int (iI t)] σ (pR (.int (iI (len M t))) σ) := by
  refine Ct.of plX9 (Nat.le_of_ble_eq_true rfl) ?_
  have nb := wf_nR hw
  have lb := wf_lR2 hw
  have gb := wf_gR hw
  have g0 := gR_0 (M := M)
  obtain ⟨c1, r1, r2, r3, r4⟩ := id c
  have m1 : 0 < lR M → 0 ≤ t % lR M ∧ t % lR M < lR M := fun q => ⟨Int.emod_nonneg _ (by omega), Int.emod_lt_of_pos _ q⟩
  refine r_aload_n dX9_leansNow_0 rfl ?_
  refine r_get (k := 0) lfX9_67 dX9_leansNow_1 (Nat.le_of_ble_eq_true rfl) rfl rfl ?_
  rw [r2]
  refine i_if_eq 17 dX9_leansNow_4 rfl ⟨by omega, by omega⟩ (fun q4 => ?_) (fun q4 => ?_)
  · skip
    refine i_const dX9_leansNow_17 ?_
    refine r_iret rfl dX9_leansNow_18 ?_
    refine ⟨?_, rfl⟩
    unfold len ln
    (repeat (first | rfl | (rw [if_pos (by omega)]) | (rw [if_neg (by omega)])))
  · skip
    refine r_aload_n dX9_leansNow_7 rfl ?_
    refine r_get (k := 0) lfX9_16 dX9_leansNow_8 (Nat.le_of_ble_eq_true rfl) rfl rfl ?_
    refine i_bipush dX9_leansNow_11 (by decide) ?_
    refine i_ald (k := 3) dX9_leansNow_13 (Nat.le_of_ble_eq_true rfl) rfl rfl ⟨by omega, by omega⟩ (by decide) ?_
    rw [show (6 : Int).toNat = 6 from rfl, (r4 q4).1]
    refine i_if_ne 19 dX9_leansNow_14 rfl ⟨by omega, by omega⟩ (fun q14 => ?_) (fun q14 => ?_)
    · skip
      refine i_const dX9_leansNow_19 ?_
      refine r_iload_n dX9_leansNow_20 rfl ?_
      refine r_aload_n dX9_leansNow_21 rfl ?_
      refine r_get (k := 0) lfX9_19 dX9_leansNow_22 (Nat.le_of_ble_eq_true rfl) rfl rfl ?_
      refine i_bipush dX9_leansNow_25 (by decide) ?_
      refine i_ald (k := 4) dX9_leansNow_27 (Nat.le_of_ble_eq_true rfl) rfl rfl ⟨by omega, by omega⟩ (by decide) ?_
      rw [show (6 : Int).toNat = 6 from rfl, (r4 q4).2]
      have lb2 := lb q4
      refine i_irem dX9_leansNow_28 ⟨by omega, by omega⟩ ⟨by omega, by omega⟩ ?_
      refine i_imul dX9_leansNow_29 ?_
      refine r_istore_n dX9_leansNow_30 (Nat.le_of_ble_eq_true rfl) ?_
      refine r_iload_n dX9_leansNow_31 rfl ?_
      refine r_aload_n dX9_leansNow_32 rfl ?_
      refine r_get (k := 0) lfX9_19 dX9_leansNow_33 (Nat.le_of_ble_eq_true rfl) rfl rfl ?_
      refine i_bipush dX9_leansNow_36 (by decide) ?_
      refine i_ald (k := 4) dX9_leansNow_38 (Nat.le_of_ble_eq_true rfl) rfl rfl ⟨by omega, by omega⟩ (by decide) ?_
      rw [show (6 : Int).toNat = 6 from rfl, (r4 q4).2]
      have m2 := m1 (by omega)
      refine i_icmp_lt 55 dX9_leansNow_39 rfl ⟨by omega, by omega⟩ ⟨by omega, by omega⟩ (fun q39 => ?_) (fun q39 => ?_)
      · skip
        refine i_const dX9_leansNow_55 ?_
        refine r_goto 60 dX9_leansNow_56 rfl ?_
        refine r_iret rfl dX9_leansNow_60 ?_
        refine ⟨?_, rfl⟩
        unfold len ln
        (repeat (first | rfl | (rw [if_pos (by omega)]) | (rw [if_neg (by omega)])))
      · skip
        refine r_iload_n dX9_leansNow_42 rfl ?_
        refine i_const dX9_leansNow_43 ?_
        refine r_aload_n dX9_leansNow_44 rfl ?_
        refine r_get (k := 0) lfX9_19 dX9_leansNow_45 (Nat.le_of_ble_eq_true rfl) rfl rfl ?_
        refine i_bipush dX9_leansNow_48 (by decide) ?_
        refine i_ald (k := 4) dX9_leansNow_50 (Nat.le_of_ble_eq_true rfl) rfl rfl ⟨by omega, by omega⟩ (by decide) ?_
        rw [show (6 : Int).toNat = 6 from rfl, (r4 q4).2]
        refine i_imul dX9_leansNow_51 ?_
        refine i_icmp_lt 59 dX9_leansNow_52 rfl ⟨by omega, by omega⟩ ⟨by omega, by omega⟩ (fun q52 => ?_) (fun q52 => ?_)
        · skip
          refine i_const dX9_leansNow_59 ?_
          refine r_iret rfl dX9_leansNow_60 ?_
          refine ⟨?_, rfl⟩
          unfold len ln
          (repeat (first | rfl | (rw [if_pos (by omega)]) | (rw [if_neg (by omega)])))
        · skip
          refine i_const dX9_leansNow_55 ?_
          refine r_goto 60 dX9_leansNow_56 rfl ?_
          refine r_iret rfl dX9_leansNow_60 ?_
          refine ⟨?_, rfl⟩
          unfold len ln
          (repeat (first | rfl | (rw [if_pos (by omega)]) | (rw [if_neg (by omega)])))
    · skip
      refine i_const dX9_leansNow_17 ?_
      refine r_iret rfl dX9_leansNow_18 ?_
      refine ⟨?_, rfl⟩
      unfold len ln
      (repeat (first | rfl | (rw [if_pos (by omega)]) | (rw [if_neg (by omega)])))

set_option maxRecDepth 20000 in
theorem m_leansOf (M σ : rl_S) (c : IM M σ) (hw : WF M) (t : Int) (t0 : 0 ≤ t) (t1 : t < 400) : Ct mW mX9_leansOf [.ref 0, .int (iI t)] σ (pD M (len M t)) := by
  refine Ct.of plX9 (Nat.le_of_ble_eq_true rfl) ?_
  refine r_aload_n dX9_leansOf_0 rfl ?_
  refine i_cvV (m_reads M σ c hw) lmX9_81 dX9_leansOf_1 (Nat.le_of_ble_eq_true rfl) rfl ⟨_, _, rfl⟩ (by decide) (by decide) rfl rfl (Nat.le_of_ble_eq_true rfl) (fun σ1 c1 => ?_)
  refine r_aload_n dX9_leansOf_4 rfl ?_
  refine r_iload_n dX9_leansOf_5 rfl ?_
  refine i_cvP (m_leansNow M σ1 c1 hw t t0 t1) lmX9_126 dX9_leansOf_6 (Nat.le_of_ble_eq_true rfl) rfl ⟨_, _, rfl⟩ (by decide) (by decide) rfl rfl (Nat.le_of_ble_eq_true rfl) ?_
  refine r_iret rfl dX9_leansOf_9 ?_
  exact ⟨_, rfl, rfl, c1⟩

set_option maxRecDepth 20000 in
theorem m_leans (M σ : rl_S) (c : IM M σ) (hw : WF M) (t : Int) (ht : -2147483648 ≤ t ∧ t < 2147483648) : Ct mW mX9_leans [.ref 0, .int (iI t)] σ (pM M (q_leans M t)) := by
  refine Ct.of plX9 (Nat.le_of_ble_eq_true rfl) ?_
  have ob1 := ob_bd (decide (0 ≤ t ∧ t ≤ 399))
  refine r_iload_n dX9_leans_0 rfl ?_
  refine i_csP (m_isTenth _ t ht) lmX9_90 dX9_leans_1 (by decide) (by decide) rfl rfl (Nat.le_of_ble_eq_true rfl) ?_
  refine i_if_eq 15 dX9_leans_4 rfl (ob_i32 _) (fun q4 => ?_) (fun q4 => ?_)
  · have e4 := ob_df q4
    refine i_bipush dX9_leans_15 (by decide) ?_
    refine r_iret rfl dX9_leans_17 ?_
    first
      | exact ⟨_, rfl, by rw [hd.1]; unfold q_leans; rw [if_pos (by omega)], hd.2.1⟩
      | exact ⟨_, rfl, by unfold q_leans; rw [if_neg (by omega)], c⟩
  · have e4 := ob_dt q4
    refine r_aload_n dX9_leans_7 rfl ?_
    refine r_iload_n dX9_leans_8 rfl ?_
    refine i_cvI (m_leansOf M σ c hw t (by omega) (by omega)) lmX9_129 dX9_leans_9 (Nat.le_of_ble_eq_true rfl) rfl ⟨_, _, rfl⟩ (by decide) (by decide) rfl rfl (Nat.le_of_ble_eq_true rfl) (fun z1 σ1 hd => ?_)
    refine r_goto 17 dX9_leans_12 rfl ?_
    refine r_iret rfl dX9_leans_17 ?_
    first
      | exact ⟨_, rfl, by rw [hd.1]; unfold q_leans; rw [if_pos (by omega)], hd.2.1⟩
      | exact ⟨_, rfl, by unfold q_leans; rw [if_neg (by omega)], c⟩

theorem m_next_l (σ : rl_S) (h : Int → Int) (hh : SM σ h) (hb : HB h) (a : Int) : ∀ (n : Nat) (t : Int), t + n = 400 → 0 ≤ t → Rn mW mX9_nextCrest 2 [.ref 0, .int (iI a), .int (iI t)] [] σ (pR (.int (iI (cr h n t 1))) σ) := by
  intro n
  induction n with
  | zero =>
    intro t ht t0
    refine r_iload_n dX9_nextCrest_2 rfl ?_
    refine i_sipush dX9_nextCrest_3 (by decide) ?_
    refine i_icmp_ge 26 dX9_nextCrest_6 rfl ⟨by omega, by omega⟩ ⟨by omega, by omega⟩ (fun q6 => ?_) (fun q6 => ?_)
    · skip
      refine i_const dX9_nextCrest_26 ?_
      refine r_iret rfl dX9_nextCrest_27 ?_
      exact ⟨rfl, rfl⟩
    · exfalso
      omega
  | succ n ih =>
    intro t ht t0
    have hm := mv_bd h t
    simp only [cr]
    refine r_iload_n dX9_nextCrest_2 rfl ?_
    refine i_sipush dX9_nextCrest_3 (by decide) ?_
    refine i_icmp_ge 26 dX9_nextCrest_6 rfl ⟨by omega, by omega⟩ ⟨by omega, by omega⟩ (fun q6 => ?_) (fun q6 => ?_)
    · exfalso
      omega
    · skip
      refine r_aload_n dX9_nextCrest_9 rfl ?_
      refine r_iload_n dX9_nextCrest_10 rfl ?_
      refine i_cvP (m_doesNow σ h hh hb t t0 (by omega)) lmX9_120 dX9_nextCrest_11 (Nat.le_of_ble_eq_true rfl) rfl ⟨_, _, rfl⟩ (by decide) (by decide) rfl rfl (Nat.le_of_ble_eq_true rfl) ?_
      refine i_const dX9_nextCrest_14 ?_
      refine i_icmp_ne 20 dX9_nextCrest_15 rfl ⟨by omega, by omega⟩ ⟨by omega, by omega⟩ (fun q15 => ?_) (fun q15 => ?_)
      · skip
        refine i_iinc dX9_nextCrest_20 rfl (Nat.le_of_ble_eq_true rfl) ?_
        refine r_goto 2 dX9_nextCrest_23 rfl ?_
        rw [if_neg (by omega)]
        exact ih (t + 1) (by omega) (by omega)
      · skip
        refine r_iload_n dX9_nextCrest_18 rfl ?_
        refine r_iret rfl dX9_nextCrest_19 ?_
        exact ⟨by rw [if_pos (by omega), if_pos trivial], rfl⟩

set_option maxRecDepth 20000 in
theorem m_nextCrest (σ : rl_S) (h : Int → Int) (hh : SM σ h) (hb : HB h) (t : Int) (t0 : 0 ≤ t) (t1 : t ≤ 400) : Ct mW mX9_nextCrest [.ref 0, .int (iI t)] σ (pR (.int (iI (cF h t 1))) σ) := by
  refine Ct.of plX9 (Nat.le_of_ble_eq_true rfl) ?_
  refine r_iload_n dX9_nextCrest_0 rfl ?_
  refine r_istore_n dX9_nextCrest_1 (Nat.le_of_ble_eq_true rfl) ?_
  exact m_next_l σ h hh hb t (400 - t).toNat t (by omega) t0

theorem cr_step (h : Int → Int) (k : Int) (hk : 1 ≤ k) : ∀ (n : Nat) (t : Int), t + n = 400 → 0 ≤ t → cr h n t (k + 1) = if cr h n t 1 = -1 then -1 else cF h (cr h n t 1 + 1) k
  | 0, t, _, _ => rfl
  | n + 1, t, ht, t0 => by
    simp only [cr]
    by_cases hm : mv h t = 1
    · rw [if_pos hm, if_pos hm, if_pos trivial, if_neg (show ¬ k + 1 = 1 by omega), if_neg (show ¬ t = -1 by omega)]
      unfold cF
      rw [show (400 - (t + 1)).toNat = n by omega, show k + 1 - 1 = k by omega]
    · rw [if_neg hm, if_neg hm]
      exact cr_step h k hk n (t + 1) (by omega) (by omega)
theorem cF_step (h : Int → Int) {k t : Int} (hk : 1 ≤ k) (t0 : 0 ≤ t) (t1 : t ≤ 400) : cF h t (k + 1) = if cF h t 1 = -1 then -1 else cF h (cF h t 1 + 1) k := cr_step h k hk (400 - t).toNat t (by omega) t0
/-- f crests behind the one at a -/
def cN (h : Int → Int) (f : Nat) (a : Int) : Int := if a = -1 then -1 else if f = 0 then a else cF h (a + 1) f
theorem cN_s (h : Int → Int) (f : Nat) {a : Int} (a0 : 0 ≤ a) (a1 : a < 400) : cN h (f + 1) a = cN h f (cF h (a + 1) 1) := by
  unfold cN
  rw [if_neg (by omega), if_neg (by omega)]
  by_cases hf : f = 0
  · subst hf
    rw [if_pos rfl]
    show cF h (a + 1) 1 = _
    split
    · assumption
    · rfl
  · rw [show ((f + 1 : Nat) : Int) = f + 1 by omega, cF_step h (by omega) (by omega) (by omega), if_neg hf]
theorem m_crest_l (M σ : rl_S) (c : IH M σ) (hw : WF M) (t k : Int) (k1 : k ≤ 99) : ∀ (f : Nat) (i a : Int), i + f = k → 1 ≤ i → (a = -1 ∨ (0 ≤ a ∧ a < 400)) → Rn mW mX9_crestOf 13 [.ref 0, .int (iI t), .int (iI k), .int (iI a), .int (iI i)] [] σ (pH M (cN (hi M) f a)) := by
  intro f
  induction f with
  | zero =>
    intro i a hi0 i1 ha
    refine r_iload dX9_crestOf_13 rfl ?_
    refine r_iload_n dX9_crestOf_15 rfl ?_
    refine i_icmp_ge 38 dX9_crestOf_16 rfl ⟨by omega, by omega⟩ ⟨by omega, by omega⟩ (fun q16 => ?_) (fun q16 => ?_)
    · skip
      refine r_iload_n dX9_crestOf_38 rfl ?_
      refine r_iret rfl dX9_crestOf_39 ?_
      exact ⟨_, rfl, by unfold cN; split <;> first | assumption | rfl, c⟩
    · exfalso
      omega
  | succ f ih =>
    intro i a hi0 i1 ha
    have cb : a = -1 ∨ (cF (hi M) (a + 1) 1 = -1 ∨ (a + 1 ≤ cF (hi M) (a + 1) 1 ∧ cF (hi M) (a + 1) 1 < 400)) := by
      by_cases q : a = -1
      · exact Or.inl q
      · exact Or.inr (cF_bd (hi M) (t := a + 1) 1 (by omega) (by omega))
    refine r_iload dX9_crestOf_13 rfl ?_
    refine r_iload_n dX9_crestOf_15 rfl ?_
    refine i_icmp_ge 38 dX9_crestOf_16 rfl ⟨by omega, by omega⟩ ⟨by omega, by omega⟩ (fun q16 => ?_) (fun q16 => ?_)
    · exfalso
      omega
    · skip
      refine r_iload_n dX9_crestOf_19 rfl ?_
      refine i_const dX9_crestOf_20 ?_
      refine i_icmp_eq 38 dX9_crestOf_21 rfl ⟨by omega, by omega⟩ ⟨by omega, by omega⟩ (fun q21 => ?_) (fun q21 => ?_)
      · skip
        refine r_iload_n dX9_crestOf_38 rfl ?_
        refine r_iret rfl dX9_crestOf_39 ?_
        exact ⟨_, rfl, by unfold cN; rw [if_pos (by omega)]; omega, c⟩
      · skip
        refine r_aload_n dX9_crestOf_24 rfl ?_
        refine r_iload_n dX9_crestOf_25 rfl ?_
        refine i_const dX9_crestOf_26 ?_
        refine i_iadd dX9_crestOf_27 ?_
        refine i_cvP (m_nextCrest σ (hi M) c.2 (wf_hb hw) (a + 1) (by omega) (by omega)) lmX9_132 dX9_crestOf_28 (Nat.le_of_ble_eq_true rfl) rfl ⟨_, _, rfl⟩ (by decide) (by decide) rfl rfl (Nat.le_of_ble_eq_true rfl) ?_
        refine r_istore_n dX9_crestOf_31 (Nat.le_of_ble_eq_true rfl) ?_
        refine i_iinc dX9_crestOf_32 rfl (Nat.le_of_ble_eq_true rfl) ?_
        refine r_goto 13 dX9_crestOf_35 rfl ?_
        rw [cN_s (hi M) f (by omega) (by omega)]
        exact ih (i + 1) _ (by omega) (by omega) (by omega)

set_option maxRecDepth 20000 in
theorem m_crestOf (M σ : rl_S) (c : IM M σ) (hw : WF M) (t : Int) (t0 : 0 ≤ t) (t1 : t < 400) (k : Int) (k0 : 1 ≤ k ∧ k ≤ 99) : Ct mW mX9_crestOf [.ref 0, .int (iI t), .int (iI k)] σ (pH M (cF (hi M) t k)) := by
  refine Ct.of plX9 (Nat.le_of_ble_eq_true rfl) ?_
  have cb := cF_bd (hi M) (t := t) 1 (by omega) (by omega)
  refine r_aload_n dX9_crestOf_0 rfl ?_
  refine i_cvV (m_lays M σ c hw) lmX9_117 dX9_crestOf_1 (Nat.le_of_ble_eq_true rfl) rfl ⟨_, _, rfl⟩ (by decide) (by decide) rfl rfl (Nat.le_of_ble_eq_true rfl) (fun σ1 c1 => ?_)
  refine r_aload_n dX9_crestOf_4 rfl ?_
  refine r_iload_n dX9_crestOf_5 rfl ?_
  refine i_cvP (m_nextCrest σ1 (hi M) c1.2 (wf_hb hw) t (by omega) (by omega)) lmX9_132 dX9_crestOf_6 (Nat.le_of_ble_eq_true rfl) rfl ⟨_, _, rfl⟩ (by decide) (by decide) rfl rfl (Nat.le_of_ble_eq_true rfl) ?_
  refine r_istore_n dX9_crestOf_9 (Nat.le_of_ble_eq_true rfl) ?_
  refine i_const dX9_crestOf_10 ?_
  refine r_istore dX9_crestOf_11 (Nat.le_of_ble_eq_true rfl) ?_
  have e : cF (hi M) t k = cN (hi M) (k - 1).toNat (cF (hi M) t 1) := by
    unfold cN
    by_cases hk : k = 1
    · subst hk
      split
      · assumption
      · rfl
    · have := cF_step (hi M) (k := k - 1) (t := t) (by omega) (by omega) (by omega)
      rw [show k - 1 + 1 = k by omega] at this
      rw [this, if_neg (show ¬ (k - 1).toNat = 0 by omega), show (((k - 1).toNat : Nat) : Int) = k - 1 by omega]
  rw [e]
  exact m_crest_l M σ1 c1 hw t k (by omega) (k - 1).toNat 1 _ (by omega) (by omega) (by omega)

set_option maxRecDepth 20000 in
theorem m_crest (M σ : rl_S) (c : IM M σ) (hw : WF M) (t k : Int) (ht : -2147483648 ≤ t ∧ t < 2147483648) (hk : -2147483648 ≤ k ∧ k < 2147483648) : Ct mW mX9_crest [.ref 0, .int (iI t), .int (iI k)] σ (pM M (q_crest M t k)) := by
  refine Ct.of plX9 (Nat.le_of_ble_eq_true rfl) ?_
  have ob1 := ob_bd (decide (0 ≤ t ∧ t ≤ 399))
  have ob2 := ob_bd (decide (1 ≤ k ∧ k ≤ 99))
  refine r_iload_n dX9_crest_0 rfl ?_
  refine i_csP (m_isTenth _ t ht) lmX9_90 dX9_crest_1 (by decide) (by decide) rfl rfl (Nat.le_of_ble_eq_true rfl) ?_
  refine i_if_eq 26 dX9_crest_4 rfl (ob_i32 _) (fun q4 => ?_) (fun q4 => ?_)
  · have e4 := ob_df q4
    refine i_bipush dX9_crest_26 (by decide) ?_
    refine r_iret rfl dX9_crest_28 ?_
    first
      | exact ⟨_, rfl, by rw [hd.1]; unfold q_crest; rw [if_pos (by omega)], hd.2.1.1⟩
      | exact ⟨_, rfl, by unfold q_crest; rw [if_neg (by omega)], c⟩
  · have e4 := ob_dt q4
    refine r_iload_n dX9_crest_7 rfl ?_
    refine i_const dX9_crest_8 ?_
    refine i_bipush dX9_crest_9 (by decide) ?_
    refine i_csP (m_in σ k 1 99 hk (by decide) (by decide)) lmX9_55 dX9_crest_11 (by decide) (by decide) rfl rfl (Nat.le_of_ble_eq_true rfl) ?_
    refine i_if_eq 26 dX9_crest_14 rfl (ob_i32 _) (fun q14 => ?_) (fun q14 => ?_)
    · have e14 := ob_df q14
      refine i_bipush dX9_crest_26 (by decide) ?_
      refine r_iret rfl dX9_crest_28 ?_
      first
        | exact ⟨_, rfl, by rw [hd.1]; unfold q_crest; rw [if_pos (by omega)], hd.2.1.1⟩
        | exact ⟨_, rfl, by unfold q_crest; rw [if_neg (by omega)], c⟩
    · have e14 := ob_dt q14
      refine r_aload_n dX9_crest_17 rfl ?_
      refine r_iload_n dX9_crest_18 rfl ?_
      refine r_iload_n dX9_crest_19 rfl ?_
      refine i_cvI (m_crestOf M σ c hw t (by omega) (by omega) k (by omega)) lmX9_135 dX9_crest_20 (Nat.le_of_ble_eq_true rfl) rfl ⟨_, _, rfl⟩ (by decide) (by decide) rfl rfl (Nat.le_of_ble_eq_true rfl) (fun z1 σ1 hd => ?_)
      refine r_goto 28 dX9_crest_23 rfl ?_
      refine r_iret rfl dX9_crest_28 ?_
      first
        | exact ⟨_, rfl, by rw [hd.1]; unfold q_crest; rw [if_pos (by omega)], hd.2.1.1⟩
        | exact ⟨_, rfl, by unfold q_crest; rw [if_neg (by omega)], c⟩

theorem m_seventh_l (M σ : rl_S) (c : IH M σ) (hw : WF M) (t : Int) : ∀ (m : Nat) (i a p g g2 : Int) (l6 : Value), i + m = 8 → 1 ≤ i → (a = -1 ∨ (0 ≤ a ∧ a < 400)) → -1 ≤ p → p ≤ 8 → 0 ≤ g → g ≤ 3000 → (p = -1 ∨ g = g2) → ∀ z, z = sv (hi M) m i a p g2 → Rn mW mX9_seventhOf 18 [.ref 0, .int (iI t), .int (iI p), .int (iI g), .int (iI a), .int (iI i), l6] [] σ (pH M z) := by
  intro m
  induction m with
  | zero =>
    intro i a p g g2 l6 hm i1 ha p0 p1 g0 g1 hg z hz
    refine r_iload dX9_seventhOf_18 rfl ?_
    refine i_bipush dX9_seventhOf_20 (by decide) ?_
    refine i_icmp_ge 99 dX9_seventhOf_22 rfl ⟨by omega, by omega⟩ ⟨by omega, by omega⟩ (fun q22 => ?_) (fun q22 => ?_)
    · skip
      refine r_iload_n dX9_seventhOf_99 rfl ?_
      refine r_iret rfl dX9_seventhOf_100 ?_
      exact ⟨_, rfl, by rw [hz]; rfl, c⟩
    · exfalso
      omega
  | succ m ih =>
    intro i a p g g2 l6 hm i1 ha p0 p1 g0 g1 hg z hz
    simp only [sv] at hz
    refine r_iload dX9_seventhOf_18 rfl ?_
    refine i_bipush dX9_seventhOf_20 (by decide) ?_
    refine i_icmp_ge 99 dX9_seventhOf_22 rfl ⟨by omega, by omega⟩ ⟨by omega, by omega⟩ (fun q22 => ?_) (fun q22 => ?_)
    · exfalso
      omega
    · skip
      refine r_iload dX9_seventhOf_25 rfl ?_
      refine i_const dX9_seventhOf_27 ?_
      refine i_icmp_eq 99 dX9_seventhOf_28 rfl ⟨by omega, by omega⟩ ⟨by omega, by omega⟩ (fun q28 => ?_) (fun q28 => ?_)
      · skip
        refine r_iload_n dX9_seventhOf_99 rfl ?_
        refine r_iret rfl dX9_seventhOf_100 ?_
        exact ⟨_, rfl, by rw [hz, if_pos (by omega)], c⟩
      · skip
        have b1 := wf_hb hw a (by omega) (by omega)
        have b2 := cF_bd (hi M) (t := a + 1) 1 (by omega) (by omega)
        rw [if_neg (by omega)] at hz
        refine r_iload_n dX9_seventhOf_31 rfl ?_
        refine i_const dX9_seventhOf_32 ?_
        refine i_icmp_eq 47 dX9_seventhOf_33 rfl ⟨by omega, by omega⟩ ⟨by omega, by omega⟩ (fun q33 => ?_) (fun q33 => ?_)
        · skip
          refine i_const dX9_seventhOf_47 ?_
          refine r_goto 52 dX9_seventhOf_48 rfl ?_
          refine r_istore dX9_seventhOf_52 (Nat.le_of_ble_eq_true rfl) ?_
          refine r_iload dX9_seventhOf_54 rfl ?_
          refine i_if_eq 64 dX9_seventhOf_56 rfl ⟨by omega, by omega⟩ (fun q56 => ?_) (fun q56 => ?_)
          · exfalso
            omega
          · skip
            refine r_iload dX9_seventhOf_59 rfl ?_
            refine r_goto 65 dX9_seventhOf_61 rfl ?_
            refine r_istore_n dX9_seventhOf_65 (Nat.le_of_ble_eq_true rfl) ?_
            refine r_iload dX9_seventhOf_66 rfl ?_
            refine i_if_eq 81 dX9_seventhOf_68 rfl ⟨by omega, by omega⟩ (fun q68 => ?_) (fun q68 => ?_)
            · exfalso
              omega
            · skip
              refine r_aload_n dX9_seventhOf_71 rfl ?_
              refine r_get (k := 0) lfX9_28 dX9_seventhOf_72 (Nat.le_of_ble_eq_true rfl) rfl rfl ?_
              refine r_iload dX9_seventhOf_75 rfl ?_
              refine i_ald (k := 7) dX9_seventhOf_77 (Nat.le_of_ble_eq_true rfl) rfl rfl ⟨by omega, by omega⟩ (by decide) ?_
              rw [c.2 a (by omega) (by omega)]
              refine r_goto 82 dX9_seventhOf_78 rfl ?_
              refine r_istore_n dX9_seventhOf_82 (Nat.le_of_ble_eq_true rfl) ?_
              refine r_aload_n dX9_seventhOf_83 rfl ?_
              refine r_iload dX9_seventhOf_84 rfl ?_
              refine i_const dX9_seventhOf_86 ?_
              refine i_iadd dX9_seventhOf_87 ?_
              refine i_cvP (m_nextCrest σ (hi M) c.2 (wf_hb hw) (a + 1) (by omega) (by omega)) lmX9_132 dX9_seventhOf_88 (Nat.le_of_ble_eq_true rfl) rfl ⟨_, _, rfl⟩ (by decide) (by decide) rfl rfl (Nat.le_of_ble_eq_true rfl) ?_
              refine r_istore dX9_seventhOf_91 (Nat.le_of_ble_eq_true rfl) ?_
              refine i_iinc dX9_seventhOf_93 rfl (Nat.le_of_ble_eq_true rfl) ?_
              refine r_goto 18 dX9_seventhOf_96 rfl ?_
              first
                | (rw [if_pos (by omega)] at hz; exact ih _ _ _ _ _ _ (by omega) (by omega) (by omega) (by omega) (by omega) (by omega) (by omega) (by omega) z hz)
                | (rw [if_neg (by omega)] at hz; exact ih _ _ _ _ g2 _ (by omega) (by omega) (by omega) (by omega) (by omega) (by omega) (by omega) (by omega) z hz)
        · skip
          refine r_aload_n dX9_seventhOf_36 rfl ?_
          refine r_get (k := 0) lfX9_28 dX9_seventhOf_37 (Nat.le_of_ble_eq_true rfl) rfl rfl ?_
          refine r_iload dX9_seventhOf_40 rfl ?_
          refine i_ald (k := 7) dX9_seventhOf_42 (Nat.le_of_ble_eq_true rfl) rfl rfl ⟨by omega, by omega⟩ (by decide) ?_
          rw [c.2 a (by omega) (by omega)]
          refine r_iload_n dX9_seventhOf_43 rfl ?_
          refine i_icmp_le 51 dX9_seventhOf_44 rfl ⟨by omega, by omega⟩ ⟨by omega, by omega⟩ (fun q44 => ?_) (fun q44 => ?_)
          · skip
            refine i_const dX9_seventhOf_51 ?_
            refine r_istore dX9_seventhOf_52 (Nat.le_of_ble_eq_true rfl) ?_
            refine r_iload dX9_seventhOf_54 rfl ?_
            refine i_if_eq 64 dX9_seventhOf_56 rfl ⟨by omega, by omega⟩ (fun q56 => ?_) (fun q56 => ?_)
            · skip
              refine r_iload_n dX9_seventhOf_64 rfl ?_
              refine r_istore_n dX9_seventhOf_65 (Nat.le_of_ble_eq_true rfl) ?_
              refine r_iload dX9_seventhOf_66 rfl ?_
              refine i_if_eq 81 dX9_seventhOf_68 rfl ⟨by omega, by omega⟩ (fun q68 => ?_) (fun q68 => ?_)
              · skip
                refine r_iload_n dX9_seventhOf_81 rfl ?_
                refine r_istore_n dX9_seventhOf_82 (Nat.le_of_ble_eq_true rfl) ?_
                refine r_aload_n dX9_seventhOf_83 rfl ?_
                refine r_iload dX9_seventhOf_84 rfl ?_
                refine i_const dX9_seventhOf_86 ?_
                refine i_iadd dX9_seventhOf_87 ?_
                refine i_cvP (m_nextCrest σ (hi M) c.2 (wf_hb hw) (a + 1) (by omega) (by omega)) lmX9_132 dX9_seventhOf_88 (Nat.le_of_ble_eq_true rfl) rfl ⟨_, _, rfl⟩ (by decide) (by decide) rfl rfl (Nat.le_of_ble_eq_true rfl) ?_
                refine r_istore dX9_seventhOf_91 (Nat.le_of_ble_eq_true rfl) ?_
                refine i_iinc dX9_seventhOf_93 rfl (Nat.le_of_ble_eq_true rfl) ?_
                refine r_goto 18 dX9_seventhOf_96 rfl ?_
                first
                  | (rw [if_pos (by omega)] at hz; exact ih _ _ _ _ _ _ (by omega) (by omega) (by omega) (by omega) (by omega) (by omega) (by omega) (by omega) z hz)
                  | (rw [if_neg (by omega)] at hz; exact ih _ _ _ _ g2 _ (by omega) (by omega) (by omega) (by omega) (by omega) (by omega) (by omega) (by omega) z hz)
              · exfalso
                omega
            · exfalso
              omega
          · skip
            refine i_const dX9_seventhOf_47 ?_
            refine r_goto 52 dX9_seventhOf_48 rfl ?_
            refine r_istore dX9_seventhOf_52 (Nat.le_of_ble_eq_true rfl) ?_
            refine r_iload dX9_seventhOf_54 rfl ?_
            refine i_if_eq 64 dX9_seventhOf_56 rfl ⟨by omega, by omega⟩ (fun q56 => ?_) (fun q56 => ?_)
            · exfalso
              omega
            · skip
              refine r_iload dX9_seventhOf_59 rfl ?_
              refine r_goto 65 dX9_seventhOf_61 rfl ?_
              refine r_istore_n dX9_seventhOf_65 (Nat.le_of_ble_eq_true rfl) ?_
              refine r_iload dX9_seventhOf_66 rfl ?_
              refine i_if_eq 81 dX9_seventhOf_68 rfl ⟨by omega, by omega⟩ (fun q68 => ?_) (fun q68 => ?_)
              · exfalso
                omega
              · skip
                refine r_aload_n dX9_seventhOf_71 rfl ?_
                refine r_get (k := 0) lfX9_28 dX9_seventhOf_72 (Nat.le_of_ble_eq_true rfl) rfl rfl ?_
                refine r_iload dX9_seventhOf_75 rfl ?_
                refine i_ald (k := 7) dX9_seventhOf_77 (Nat.le_of_ble_eq_true rfl) rfl rfl ⟨by omega, by omega⟩ (by decide) ?_
                rw [c.2 a (by omega) (by omega)]
                refine r_goto 82 dX9_seventhOf_78 rfl ?_
                refine r_istore_n dX9_seventhOf_82 (Nat.le_of_ble_eq_true rfl) ?_
                refine r_aload_n dX9_seventhOf_83 rfl ?_
                refine r_iload dX9_seventhOf_84 rfl ?_
                refine i_const dX9_seventhOf_86 ?_
                refine i_iadd dX9_seventhOf_87 ?_
                refine i_cvP (m_nextCrest σ (hi M) c.2 (wf_hb hw) (a + 1) (by omega) (by omega)) lmX9_132 dX9_seventhOf_88 (Nat.le_of_ble_eq_true rfl) rfl ⟨_, _, rfl⟩ (by decide) (by decide) rfl rfl (Nat.le_of_ble_eq_true rfl) ?_
                refine r_istore dX9_seventhOf_91 (Nat.le_of_ble_eq_true rfl) ?_
                refine i_iinc dX9_seventhOf_93 rfl (Nat.le_of_ble_eq_true rfl) ?_
                refine r_goto 18 dX9_seventhOf_96 rfl ?_
                first
                  | (rw [if_pos (by omega)] at hz; exact ih _ _ _ _ _ _ (by omega) (by omega) (by omega) (by omega) (by omega) (by omega) (by omega) (by omega) z hz)
                  | (rw [if_neg (by omega)] at hz; exact ih _ _ _ _ g2 _ (by omega) (by omega) (by omega) (by omega) (by omega) (by omega) (by omega) (by omega) z hz)

set_option maxRecDepth 20000 in
theorem m_seventhOf (M σ : rl_S) (c : IM M σ) (hw : WF M) (t : Int) (t0 : 0 ≤ t) (t1 : t < 400) : Ct mW mX9_seventhOf [.ref 0, .int (iI t)] σ (pH M (sv (hi M) 7 1 (cF (hi M) t 1) (-1) (-1))) := by
  refine Ct.of plX9 (Nat.le_of_ble_eq_true rfl) ?_
  have cb := cF_bd (hi M) (t := t) 1 (by omega) (by omega)
  refine r_aload_n dX9_seventhOf_0 rfl ?_
  refine i_cvV (m_lays M σ c hw) lmX9_117 dX9_seventhOf_1 (Nat.le_of_ble_eq_true rfl) rfl ⟨_, _, rfl⟩ (by decide) (by decide) rfl rfl (Nat.le_of_ble_eq_true rfl) (fun σ1 c1 => ?_)
  refine i_const dX9_seventhOf_4 ?_
  refine r_istore_n dX9_seventhOf_5 (Nat.le_of_ble_eq_true rfl) ?_
  refine i_const dX9_seventhOf_6 ?_
  refine r_istore_n dX9_seventhOf_7 (Nat.le_of_ble_eq_true rfl) ?_
  refine r_aload_n dX9_seventhOf_8 rfl ?_
  refine r_iload_n dX9_seventhOf_9 rfl ?_
  refine i_cvP (m_nextCrest σ1 (hi M) c1.2 (wf_hb hw) t (by omega) (by omega)) lmX9_132 dX9_seventhOf_10 (Nat.le_of_ble_eq_true rfl) rfl ⟨_, _, rfl⟩ (by decide) (by decide) rfl rfl (Nat.le_of_ble_eq_true rfl) ?_
  refine r_istore dX9_seventhOf_13 (Nat.le_of_ble_eq_true rfl) ?_
  refine i_const dX9_seventhOf_15 ?_
  refine r_istore dX9_seventhOf_16 (Nat.le_of_ble_eq_true rfl) ?_
  exact m_seventh_l M σ1 c1 hw t 7 1 _ _ _ (-1) _ (by omega) (by omega) (by omega) (by omega) (by omega) (by omega) (by omega) (by omega) _ rfl

set_option maxRecDepth 20000 in
theorem m_seventh (M σ : rl_S) (c : IM M σ) (hw : WF M) (t : Int) (ht : -2147483648 ≤ t ∧ t < 2147483648) : Ct mW mX9_seventh [.ref 0, .int (iI t)] σ (pM M (q_seventh M t)) := by
  refine Ct.of plX9 (Nat.le_of_ble_eq_true rfl) ?_
  have ob1 := ob_bd (decide (0 ≤ t ∧ t ≤ 399))
  refine r_iload_n dX9_seventh_0 rfl ?_
  refine i_csP (m_isTenth _ t ht) lmX9_90 dX9_seventh_1 (by decide) (by decide) rfl rfl (Nat.le_of_ble_eq_true rfl) ?_
  refine i_if_eq 15 dX9_seventh_4 rfl (ob_i32 _) (fun q4 => ?_) (fun q4 => ?_)
  · have e4 := ob_df q4
    refine i_bipush dX9_seventh_15 (by decide) ?_
    refine r_iret rfl dX9_seventh_17 ?_
    first
      | exact ⟨_, rfl, by rw [hd.1]; unfold q_seventh; rw [if_pos (by omega)], hd.2.1.1⟩
      | exact ⟨_, rfl, by unfold q_seventh; rw [if_neg (by omega)], c⟩
  · have e4 := ob_dt q4
    refine r_aload_n dX9_seventh_7 rfl ?_
    refine r_iload_n dX9_seventh_8 rfl ?_
    refine i_cvI (m_seventhOf M σ c hw t (by omega) (by omega)) lmX9_138 dX9_seventh_9 (Nat.le_of_ble_eq_true rfl) rfl ⟨_, _, rfl⟩ (by decide) (by decide) rfl rfl (Nat.le_of_ble_eq_true rfl) (fun z1 σ1 hd => ?_)
    refine r_goto 17 dX9_seventh_12 rfl ?_
    refine r_iret rfl dX9_seventh_17 ?_
    first
      | exact ⟨_, rfl, by rw [hd.1]; unfold q_seventh; rw [if_pos (by omega)], hd.2.1.1⟩
      | exact ⟨_, rfl, by unfold q_seventh; rw [if_neg (by omega)], c⟩
