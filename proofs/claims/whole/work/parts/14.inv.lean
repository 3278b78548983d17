/-! the state that the document speaks of, kept as the reference keeps it: 0 numbers (7 lee from, 8 lee many, 12 seen, 21 finding), 1 sizes of the texts, 2 their bytes, 5 begins, 6 settings, 8 and 9 what was seen, 10 to 13 the sheets -/
def b0 (M : rl_S) : Int → Int := fun z => if 0 ≤ z ∧ z < 23 then M 2 z.toNat else 0
def b1 (M : rl_S) : Int → Int := fun z => if 0 ≤ z ∧ z < 23 then M 2 (23 + z.toNat) else 0
def nS (M : rl_S) : Int := nF (b0 M) 6 (M 1 0)
def nR (M : rl_S) : Int := nF (b1 M) 1 (M 1 1)
def hS (M : rl_S) : Int → Int := hF (b0 M) (nS M)
def lS (M : rl_S) : Int → Int := lF (b0 M) (nS M)
def pS (M : rl_S) : Int → Int := fun z => if 0 ≤ z then M 5 z.toNat else 0
def raw (M : rl_S) : Int → Int := fun t => rawU (hS M) (lS M) (pS M) t (nS M).toNat
def hi (M : rl_S) : Int → Int := hiF (raw M) (M 0 7) (M 0 8)
def gR (M : rl_S) : Int := hF (b1 M) (nR M) 0
def lR (M : rl_S) : Int := lF (b1 M) (nR M) 0
def len (M : rl_S) : Int → Int := ln (gR M) (lR M)
/-- a state that calls can reach is so -/
def WF (M : rl_S) : Prop :=
  (0 ≤ M 1 0 ∧ M 1 0 ≤ 23) ∧ (0 ≤ M 1 1 ∧ M 1 1 ≤ 3) ∧ BB (b0 M) ∧ BB (b1 M) ∧ (∀ z : Int, 0 ≤ z → z < 6 → 0 ≤ pS M z ∧ pS M z ≤ 98) ∧ (0 ≤ M 0 7 ∧ M 0 7 ≤ 399) ∧ (0 ≤ M 0 8 ∧ M 0 8 ≤ 399) ∧
  (∀ i : Nat, i < 12 → zLEAST i ≤ M 6 i ∧ M 6 i ≤ zMOST i) ∧ (0 ≤ M 0 12 ∧ M 0 12 ≤ 8) ∧ (∀ i : Nat, i < 8 → (0 ≤ M 8 i ∧ M 8 i ≤ 399) ∧ 0 ≤ M 9 i ∧ M 9 i ≤ 3000) ∧
  (∀ s : Nat, s < 4 → (0 ≤ M 10 s ∧ M 10 s ≤ 1) ∧ (0 ≤ M 11 s ∧ M 11 s ≤ 2) ∧ (0 ≤ M 12 s ∧ M 12 s ≤ 48) ∧ ∀ i : Nat, i < 48 → nar (M 11 s) (M 13 (48 * s + i)) = M 13 (48 * s + i) ∧ -2147483648 ≤ M 13 (48 * s + i) ∧ M 13 (48 * s + i) < 2147483648) ∧
  (0 ≤ M 0 21 ∧ M 0 21 ≤ 5)
/-- how one RopeLadder keeps that state -/
def gText (σ M : rl_S) : Prop := SB 2 σ (b0 M) ∧ SB 6 σ (b1 M) ∧ σ 1 5 = M 1 0 ∧ σ 5 5 = M 1 1 ∧ σ 1 6 = fF (b0 M) 6 (M 1 0) ∧ σ 5 6 = fF (b1 M) 1 (M 1 1) ∧ σ 1 7 = nS M ∧ σ 5 7 = nR M ∧ S6 3 σ (hS M) ∧ S6 4 σ (lS M) ∧ S6 7 σ (hF (b1 M) (nR M)) ∧ S6 8 σ (lF (b1 M) (nR M))
def gSea (σ M : rl_S) : Prop := S6 10 σ (pS M) ∧ σ 9 4 = M 0 7 ∧ σ 9 5 = M 0 8 ∧ SR σ (raw M) ∧ SH σ (hi M)
def gShip (σ M : rl_S) : Prop := σ 13 1 = gR M ∧ σ 13 2 = lR M
def gSet (σ M : rl_S) : Prop := ∀ i : Nat, i < 12 → σ 15 i = M 6 i
def gSeen (σ M : rl_S) : Prop := σ 17 2 = M 0 12 ∧ ∀ i : Nat, i < 8 → σ 18 i = M 8 i ∧ σ 19 i = M 9 i
def gSheet1 (B s : Nat) (σ M : rl_S) : Prop := σ B 1 = 1 - M 10 s ∧ σ B 2 = M 11 s ∧ σ B 3 = M 12 s ∧ ∀ i : Nat, i < 48 → σ (B + 1) i = M 13 (48 * s + i)
def gSheet (σ M : rl_S) : Prop := gSheet1 22 0 σ M ∧ gSheet1 24 1 σ M ∧ gSheet1 26 2 σ M ∧ gSheet1 28 3 σ M
def IC (M σ : rl_S) : Prop := gText σ M ∧ gSea σ M ∧ gShip σ M ∧ gSet σ M ∧ gSeen σ M ∧ gSheet σ M ∧ σ 0 9 = M 0 21
theorem ic_k {M σ σ' : rl_S} (h : IC M σ) (f : ∀ k i, k ≠ 16 → k ≠ 20 → σ' k i = σ k i) : IC M σ' := by
  obtain ⟨⟨t1, t2, t3, t4, t5, t6, t7, t8, t9, t10, t11, t12⟩, ⟨s1, s2, s3, s4, s5⟩, ⟨p1, p2⟩, g, ⟨n1, n2⟩, ⟨⟨a1, a2, a3, a4⟩, ⟨c1, c2, c3, c4⟩, ⟨d1, d2, d3, d4⟩, ⟨e1, e2, e3, e4⟩⟩, f1⟩ := h
  have F : ∀ {k : Nat} (i : Nat), k ≠ 16 → k ≠ 20 → ∀ {x : Int}, σ k i = x → σ' k i = x := fun i h1 h2 x e => (f _ i h1 h2).trans e
  exact ⟨⟨fun z z0 z1 => F _ (by decide) (by decide) (t1 z z0 z1), fun z z0 z1 => F _ (by decide) (by decide) (t2 z z0 z1), F _ (by decide) (by decide) t3, F _ (by decide) (by decide) t4, F _ (by decide) (by decide) t5, F _ (by decide) (by decide) t6, F _ (by decide) (by decide) t7, F _ (by decide) (by decide) t8, fun z z0 z1 => F _ (by decide) (by decide) (t9 z z0 z1), fun z z0 z1 => F _ (by decide) (by decide) (t10 z z0 z1), fun z z0 z1 => F _ (by decide) (by decide) (t11 z z0 z1), fun z z0 z1 => F _ (by decide) (by decide) (t12 z z0 z1)⟩,
    ⟨fun z z0 z1 => F _ (by decide) (by decide) (s1 z z0 z1), F _ (by decide) (by decide) s2, F _ (by decide) (by decide) s3, fun z z0 z1 => F _ (by decide) (by decide) (s4 z z0 z1), fun z z0 z1 => F _ (by decide) (by decide) (s5 z z0 z1)⟩,
    ⟨F _ (by decide) (by decide) p1, F _ (by decide) (by decide) p2⟩, fun i hi => F _ (by decide) (by decide) (g i hi), ⟨F _ (by decide) (by decide) n1, fun i hi => ⟨F _ (by decide) (by decide) (n2 i hi).1, F _ (by decide) (by decide) (n2 i hi).2⟩⟩,
    ⟨⟨F _ (by decide) (by decide) a1, F _ (by decide) (by decide) a2, F _ (by decide) (by decide) a3, fun i hi => F _ (by decide) (by decide) (a4 i hi)⟩, ⟨F _ (by decide) (by decide) c1, F _ (by decide) (by decide) c2, F _ (by decide) (by decide) c3, fun i hi => F _ (by decide) (by decide) (c4 i hi)⟩, ⟨F _ (by decide) (by decide) d1, F _ (by decide) (by decide) d2, F _ (by decide) (by decide) d3, fun i hi => F _ (by decide) (by decide) (d4 i hi)⟩, ⟨F _ (by decide) (by decide) e1, F _ (by decide) (by decide) e2, F _ (by decide) (by decide) e3, fun i hi => F _ (by decide) (by decide) (e4 i hi)⟩⟩, F _ (by decide) (by decide) f1⟩
/-- no fault: each place is good -/
theorem flt_ok {b : Int → Int} {m n : Int} : ∀ (f : Nat) (k : Int), 0 ≤ k → k + f = n → flt b m n f k = -1 → ∀ j : Int, k ≤ j → j < n → okA b m j = true
  | 0, k, h0, h1, h2, j, j0, j1 => by omega
  | f + 1, k, h0, h1, h2, j, j0, j1 => by
    simp only [flt] at h2
    split at h2
    · rename_i hk
      by_cases hj : j = k
      · subst hj; exact hk
      · exact flt_ok f (k + 1) (by omega) (by omega) h2 j (by omega) j1
    · omega
theorem fF_ok {b : Int → Int} {m n : Int} (hn : 0 ≤ n) (h : fF b m n = -1) : ∀ j : Int, 0 ≤ j → j < n → okA b m j = true := flt_ok n.toNat 0 (by omega) (by omega) h
theorem flt_end {b : Int → Int} {m n : Int} : ∀ (f : Nat) (k : Int), 0 ≤ k → k + f = n → flt b m n f k = -1 → n = 0 ∨ n % 4 = 3
  | 0, k, h0, h1, h2 => by
    simp only [flt] at h2
    split at h2
    · assumption
    · omega
  | f + 1, k, h0, h1, h2 => by
    simp only [flt] at h2
    split at h2
    · exact flt_end f (k + 1) (by omega) (by omega) h2
    · omega
/-- what is told of a good text: figures -/
theorem told {b : Int → Int} {m n : Int} (hn : 0 ≤ n) {s : Int} (s0 : 0 ≤ s) (s1 : s < nF b m n) : (0 ≤ hF b (nF b m n) s ∧ hF b (nF b m n) s ≤ 9) ∧ (2 ≤ lF b (nF b m n) s ∧ lF b (nF b m n) s ≤ 99) ∧ nF b m n ≤ m := by
  unfold nF at s1 ⊢
  by_cases hf : fF b m n = -1
  · rw [if_pos hf] at s1 ⊢
    have he := flt_end n.toNat 0 (by omega) (by omega) hf
    have hg := fF_ok hn hf
    have a0 := hg (4 * s) (by omega) (by omega)
    have a1 := hg (4 * s + 1) (by omega) (by omega)
    have a2 := hg (4 * s + 2) (by omega) (by omega)
    have a3 := hg (4 * ((n + 1) / 4 - 1)) (by omega) (by omega)
    simp only [okA] at a0 a1 a2 a3
    rw [if_neg (by omega), if_pos (by omega)] at a0 a3
    rw [if_neg (by omega), if_neg (by omega), if_pos (by omega)] at a1
    rw [if_neg (by omega), if_neg (by omega), if_neg (by omega)] at a2
    simp only [Bool.and_eq_true, decide_eq_true_eq, and_true] at a0 a1 a2 a3
    have e : two b (4 * s + 1) = 10 * (b (4 * s + 1) - 48) + (b (4 * s + 1 + 1) - 48) := rfl
    have e2 : 4 * s + 1 + 1 = 4 * s + 2 := by omega
    have e3 : 4 * s + 2 - 1 = 4 * s + 1 := by omega
    rw [e2] at e
    rw [e3] at a2
    unfold hF lF
    rw [if_pos s1, if_pos s1]
    omega
  · rw [if_neg hf] at s1
    omega
theorem hF_bd {b : Int → Int} {m n : Int} (hn : 0 ≤ n) {s : Int} (s0 : 0 ≤ s) : 0 ≤ hF b (nF b m n) s ∧ hF b (nF b m n) s ≤ 9 := by
  by_cases h : s < nF b m n
  · exact (told hn s0 h).1
  · unfold hF
    rw [if_neg h]
    decide
theorem lF_bd {b : Int → Int} {m n : Int} (hn : 0 ≤ n) {s : Int} (s0 : 0 ≤ s) : 0 ≤ lF b (nF b m n) s ∧ lF b (nF b m n) s ≤ 99 := by
  by_cases h : s < nF b m n
  · have := (told hn s0 h).2.1; omega
  · unfold lF
    rw [if_neg h]
    decide
theorem nF_m {b : Int → Int} {m n : Int} (hn : 0 ≤ n) (hm : 0 ≤ m) : nF b m n ≤ m := by
  by_cases h : 0 < nF b m n
  · exact (told hn (s := 0) (by omega) h).2.2
  · omega
theorem wf_sw {M : rl_S} (h : WF M) : SW (nS M) (hS M) (lS M) (pS M) := by
  obtain ⟨h1, h2, h3, h4, h5, h6⟩ := h
  refine ⟨(nF_bd _ _ h1.1).1, nF_m h1.1 (by decide), fun s s0 s1 => ⟨hF_bd h1.1 s0, fun hs => (told h1.1 s0 hs).2.1, h5 s s0 s1⟩⟩
theorem wf_raw {M : rl_S} (h : WF M) {t : Int} (t0 : 0 ≤ t) : 0 ≤ raw M t ∧ raw M t ≤ 2646 := by
  have hw := (wf_sw h)
  have := rawU_bd hw t t0 (nS M).toNat (by have := hw.1; omega)
  have h1 := hw.1
  have h2 := hw.2.1
  unfold raw
  omega
theorem wf_hb {M : rl_S} (h : WF M) : HB (hi M) := fun z z0 z1 => by
  have := wf_raw h z0
  unfold hi hiF
  split <;> omega
theorem wf_rb {M : rl_S} (h : WF M) : HB (raw M) := fun z z0 z1 => by
  have := wf_raw h z0
  omega
theorem wf_gR {M : rl_S} (h : WF M) : 0 ≤ gR M ∧ gR M ≤ 9 := hF_bd h.2.1.1 (by decide)
theorem wf_lR {M : rl_S} (h : WF M) : 0 ≤ lR M ∧ lR M ≤ 99 := lF_bd h.2.1.1 (by decide)
theorem wf_set {M : rl_S} (h : WF M) : (0 ≤ M 6 0 ∧ M 6 0 ≤ 999) ∧ (1 ≤ M 6 1 ∧ M 6 1 ≤ 12) ∧ (1 ≤ M 6 2 ∧ M 6 2 ≤ 30) ∧ (0 ≤ M 6 3 ∧ M 6 3 ≤ 99) ∧ (0 ≤ M 6 4 ∧ M 6 4 ≤ 16) ∧ (0 ≤ M 6 5 ∧ M 6 5 ≤ 16) ∧ (0 ≤ M 6 6 ∧ M 6 6 ≤ 16) ∧ (0 ≤ M 6 7 ∧ M 6 7 ≤ 16) ∧ (0 ≤ M 6 8 ∧ M 6 8 ≤ 16) ∧ (0 ≤ M 6 9 ∧ M 6 9 ≤ 16) ∧ (1 ≤ M 6 10 ∧ M 6 10 ≤ 9) ∧ (0 ≤ M 6 11 ∧ M 6 11 ≤ 9) := by
  have q := h.2.2.2.2.2.2.2.1
  exact ⟨q 0 (by decide), q 1 (by decide), q 2 (by decide), q 3 (by decide), q 4 (by decide), q 5 (by decide), q 6 (by decide), q 7 (by decide), q 8 (by decide), q 9 (by decide), q 10 (by decide), q 11 (by decide)⟩
theorem ic_cp {M σ : rl_S} (hc : IC M σ) (h : WF M) : CP σ (hi M) := by
  obtain ⟨t, s, p, g, n, sh, f⟩ := hc
  have q := wf_set h
  have g0 := g 0 (by decide)
  have g1 := g 1 (by decide)
  have g2 := g 2 (by decide)
  have g3 := g 10 (by decide)
  refine ⟨s.2.2.2.2, wf_hb h, ?_, ?_, ?_, ?_, ?_, ?_⟩
  · rw [p.1]; exact wf_gR h
  · rw [p.2]; exact wf_lR h
  · omega
  · omega
  · omega
  · omega
def clM (M : rl_S) (t : Int) : Int × Int := clm (len M) (hi M) (M 6 0) (M 6 2) (M 6 10) (M 6 1).toNat 1 t 0
theorem clF_M {M σ : rl_S} (h : IC M σ) (t : Int) : clF σ (hi M) t = clM M t := by
  obtain ⟨_, s, p, g, n, sh, f⟩ := h
  unfold clF clM len
  rw [p.1, p.2, g 0 (by decide), g 1 (by decide), g 2 (by decide), g 10 (by decide)]
theorem clM_bd {M : rl_S} (h : WF M) {t : Int} (t0 : 0 ≤ t) (t1 : t < 400) : ((clM M t).1 = -1 ∨ (t ≤ (clM M t).1 ∧ (clM M t).1 < 400)) ∧ 0 ≤ (clM M t).2 ∧ (clM M t).2 ≤ 12 := by
  have q := wf_set h
  have := clm_bd (len M) (hi M) (M 6 0) (M 6 2) (M 6 10) q.2.2.2.2.2.2.2.2.2.2.1.1 (M 6 1).toNat 1 t 0 t0 t1 (by decide)
  unfold clM
  omega

def isT (t : Int) : Prop := 0 ≤ t ∧ t ≤ 399
def isE (t : Int) : Prop := t = 0 ∨ t = 1
set_option maxRecDepth 20000 in
theorem c_isTenth (σ : rl_S) (t : Int) (ht : -2147483648 ≤ t ∧ t < 2147483648) : Ct cW mX8_isTenth [.int (iI t)] σ (pR (.int (iI (ob (decide (0 ≤ t ∧ t ≤ 399))))) σ) := by
  refine Ct.of plX8 (Nat.le_of_ble_eq_true rfl) ?_
  refine r_iload_n dX8_isTenth_0 rfl ?_
  refine i_if_lt 15 dX8_isTenth_1 rfl ⟨by omega, by omega⟩ (fun q1 => ?_) (fun q1 => ?_)
  · skip
    refine i_const dX8_isTenth_15 ?_
    refine r_zret rfl dX8_isTenth_16 rfl ?_
    first
      | exact ⟨by rw [decide_eq_true (by omega)]; rfl, rfl⟩
      | exact ⟨by rw [decide_eq_false (by omega)]; rfl, rfl⟩
  · skip
    refine r_iload_n dX8_isTenth_4 rfl ?_
    refine i_sipush dX8_isTenth_5 (by decide) ?_
    refine i_icmp_gt 15 dX8_isTenth_8 rfl ⟨by omega, by omega⟩ ⟨by omega, by omega⟩ (fun q8 => ?_) (fun q8 => ?_)
    · skip
      refine i_const dX8_isTenth_15 ?_
      refine r_zret rfl dX8_isTenth_16 rfl ?_
      first
        | exact ⟨by rw [decide_eq_true (by omega)]; rfl, rfl⟩
        | exact ⟨by rw [decide_eq_false (by omega)]; rfl, rfl⟩
    · skip
      refine i_const dX8_isTenth_11 ?_
      refine r_goto 16 dX8_isTenth_12 rfl ?_
      refine r_zret rfl dX8_isTenth_16 rfl ?_
      first
        | exact ⟨by rw [decide_eq_true (by omega)]; rfl, rfl⟩
        | exact ⟨by rw [decide_eq_false (by omega)]; rfl, rfl⟩

set_option maxRecDepth 20000 in
theorem c_isEither (σ : rl_S) (t : Int) (ht : -2147483648 ≤ t ∧ t < 2147483648) : Ct cW mX8_isEither [.int (iI t)] σ (pR (.int (iI (ob (decide (t = 0 ∨ t = 1))))) σ) := by
  refine Ct.of plX8 (Nat.le_of_ble_eq_true rfl) ?_
  refine r_iload_n dX8_isEither_0 rfl ?_
  refine i_if_eq 9 dX8_isEither_1 rfl ⟨by omega, by omega⟩ (fun q1 => ?_) (fun q1 => ?_)
  · skip
    refine i_const dX8_isEither_9 ?_
    refine r_goto 14 dX8_isEither_10 rfl ?_
    refine r_zret rfl dX8_isEither_14 rfl ?_
    first
      | exact ⟨by rw [decide_eq_true (by omega)]; rfl, rfl⟩
      | exact ⟨by rw [decide_eq_false (by omega)]; rfl, rfl⟩
  · skip
    refine r_iload_n dX8_isEither_4 rfl ?_
    refine i_const dX8_isEither_5 ?_
    refine i_icmp_ne 13 dX8_isEither_6 rfl ⟨by omega, by omega⟩ ⟨by omega, by omega⟩ (fun q6 => ?_) (fun q6 => ?_)
    · skip
      refine i_const dX8_isEither_13 ?_
      refine r_zret rfl dX8_isEither_14 rfl ?_
      first
        | exact ⟨by rw [decide_eq_true (by omega)]; rfl, rfl⟩
        | exact ⟨by rw [decide_eq_false (by omega)]; rfl, rfl⟩
    · skip
      refine i_const dX8_isEither_9 ?_
      refine r_goto 14 dX8_isEither_10 rfl ?_
      refine r_zret rfl dX8_isEither_14 rfl ?_
      first
        | exact ⟨by rw [decide_eq_true (by omega)]; rfl, rfl⟩
        | exact ⟨by rw [decide_eq_false (by omega)]; rfl, rfl⟩

set_option maxRecDepth 20000 in
theorem c_isSpan (σ : rl_S) (t : Int) (ht : -2147483648 ≤ t ∧ t < 2147483648) : Ct cW mX8_isSpan [.int (iI t)] σ (pR (.int (iI (ob (decide (1 ≤ t ∧ t ≤ 100))))) σ) := by
  refine Ct.of plX8 (Nat.le_of_ble_eq_true rfl) ?_
  refine r_iload_n dX8_isSpan_0 rfl ?_
  refine i_const dX8_isSpan_1 ?_
  refine i_icmp_lt 15 dX8_isSpan_2 rfl ⟨by omega, by omega⟩ ⟨by omega, by omega⟩ (fun q2 => ?_) (fun q2 => ?_)
  · skip
    refine i_const dX8_isSpan_15 ?_
    refine r_zret rfl dX8_isSpan_16 rfl ?_
    first
      | exact ⟨by rw [decide_eq_true (by omega)]; rfl, rfl⟩
      | exact ⟨by rw [decide_eq_false (by omega)]; rfl, rfl⟩
  · skip
    refine r_iload_n dX8_isSpan_5 rfl ?_
    refine i_bipush dX8_isSpan_6 (by decide) ?_
    refine i_icmp_gt 15 dX8_isSpan_8 rfl ⟨by omega, by omega⟩ ⟨by omega, by omega⟩ (fun q8 => ?_) (fun q8 => ?_)
    · skip
      refine i_const dX8_isSpan_15 ?_
      refine r_zret rfl dX8_isSpan_16 rfl ?_
      first
        | exact ⟨by rw [decide_eq_true (by omega)]; rfl, rfl⟩
        | exact ⟨by rw [decide_eq_false (by omega)]; rfl, rfl⟩
    · skip
      refine i_const dX8_isSpan_11 ?_
      refine r_goto 16 dX8_isSpan_12 rfl ?_
      refine r_zret rfl dX8_isSpan_16 rfl ?_
      first
        | exact ⟨by rw [decide_eq_true (by omega)]; rfl, rfl⟩
        | exact ⟨by rw [decide_eq_false (by omega)]; rfl, rfl⟩

set_option maxRecDepth 20000 in
theorem c_isForm (σ : rl_S) (t : Int) (ht : -2147483648 ≤ t ∧ t < 2147483648) : Ct cW mX8_isForm [.int (iI t)] σ (pR (.int (iI (ob (decide (0 ≤ t ∧ t ≤ 2))))) σ) := by
  refine Ct.of plX8 (Nat.le_of_ble_eq_true rfl) ?_
  refine r_iload_n dX8_isForm_0 rfl ?_
  refine i_if_eq 14 dX8_isForm_1 rfl ⟨by omega, by omega⟩ (fun q1 => ?_) (fun q1 => ?_)
  · skip
    refine i_const dX8_isForm_14 ?_
    refine r_goto 19 dX8_isForm_15 rfl ?_
    refine r_zret rfl dX8_isForm_19 rfl ?_
    first
      | exact ⟨by rw [decide_eq_true (by omega)]; rfl, rfl⟩
      | exact ⟨by rw [decide_eq_false (by omega)]; rfl, rfl⟩
  · skip
    refine r_iload_n dX8_isForm_4 rfl ?_
    refine i_const dX8_isForm_5 ?_
    refine i_icmp_eq 14 dX8_isForm_6 rfl ⟨by omega, by omega⟩ ⟨by omega, by omega⟩ (fun q6 => ?_) (fun q6 => ?_)
    · skip
      refine i_const dX8_isForm_14 ?_
      refine r_goto 19 dX8_isForm_15 rfl ?_
      refine r_zret rfl dX8_isForm_19 rfl ?_
      first
        | exact ⟨by rw [decide_eq_true (by omega)]; rfl, rfl⟩
        | exact ⟨by rw [decide_eq_false (by omega)]; rfl, rfl⟩
    · skip
      refine r_iload_n dX8_isForm_9 rfl ?_
      refine i_const dX8_isForm_10 ?_
      refine i_icmp_ne 18 dX8_isForm_11 rfl ⟨by omega, by omega⟩ ⟨by omega, by omega⟩ (fun q11 => ?_) (fun q11 => ?_)
      · skip
        refine i_const dX8_isForm_18 ?_
        refine r_zret rfl dX8_isForm_19 rfl ?_
        first
          | exact ⟨by rw [decide_eq_true (by omega)]; rfl, rfl⟩
          | exact ⟨by rw [decide_eq_false (by omega)]; rfl, rfl⟩
      · skip
        refine i_const dX8_isForm_14 ?_
        refine r_goto 19 dX8_isForm_15 rfl ?_
        refine r_zret rfl dX8_isForm_19 rfl ?_
        first
          | exact ⟨by rw [decide_eq_true (by omega)]; rfl, rfl⟩
          | exact ⟨by rw [decide_eq_false (by omega)]; rfl, rfl⟩

set_option maxRecDepth 20000 in
theorem c_spanEnd (σ : rl_S) (t m : Int) (t0 : 0 ≤ t ∧ t ≤ 399) (m0 : 1 ≤ m ∧ m ≤ 100) : Ct cW mX8_spanEnd [.int (iI t), .int (iI m)] σ (pR (.int (iI (min 400 (t + m)))) σ) := by
  refine Ct.of plX8 (Nat.le_of_ble_eq_true rfl) ?_
  refine i_sipush dX8_spanEnd_0 (by decide) ?_
  refine r_iload_n dX8_spanEnd_3 rfl ?_
  refine r_iload_n dX8_spanEnd_4 rfl ?_
  refine i_iadd dX8_spanEnd_5 ?_
  refine i_mmin lmX8_212 dX8_spanEnd_6 (by decide) (Nat.le_of_ble_eq_true rfl) ⟨by omega, by omega⟩ ⟨by omega, by omega⟩ ?_
  refine r_iret rfl dX8_spanEnd_9 ?_
  exact ⟨rfl, rfl⟩

set_option maxRecDepth 20000 in
theorem c_isSwell (σ : rl_S) (n0 : 0 ≤ σ 1 7 ∧ σ 1 7 ≤ 6) (t : Int) (ht : -2147483648 ≤ t ∧ t < 2147483648) : Ct cW mX8_isSwell [.ref 0, .int (iI t)] σ (pR (.int (iI (ob (decide (0 ≤ t ∧ t < σ 1 7))))) σ) := by
  refine Ct.of plX8 (Nat.le_of_ble_eq_true rfl) ?_
  refine r_iload_n dX8_isSwell_0 rfl ?_
  refine i_if_lt 19 dX8_isSwell_1 rfl ⟨by omega, by omega⟩ (fun q1 => ?_) (fun q1 => ?_)
  · skip
    refine i_const dX8_isSwell_19 ?_
    refine r_zret rfl dX8_isSwell_20 rfl ?_
    first
      | exact ⟨by rw [decide_eq_true (by omega)]; rfl, rfl⟩
      | exact ⟨by rw [decide_eq_false (by omega)]; rfl, rfl⟩
  · skip
    refine r_iload_n dX8_isSwell_4 rfl ?_
    refine r_aload_n dX8_isSwell_5 rfl ?_
    refine r_get (k := 0) lfX8_14 dX8_isSwell_6 (Nat.le_of_ble_eq_true rfl) rfl rfl ?_
    refine r_get (k := 1) lfX8_113 dX8_isSwell_9 (Nat.le_of_ble_eq_true rfl) rfl rfl ?_
    refine i_icmp_ge 19 dX8_isSwell_12 rfl ⟨by omega, by omega⟩ ⟨by omega, by omega⟩ (fun q12 => ?_) (fun q12 => ?_)
    · skip
      refine i_const dX8_isSwell_19 ?_
      refine r_zret rfl dX8_isSwell_20 rfl ?_
      first
        | exact ⟨by rw [decide_eq_true (by omega)]; rfl, rfl⟩
        | exact ⟨by rw [decide_eq_false (by omega)]; rfl, rfl⟩
    · skip
      refine i_const dX8_isSwell_15 ?_
      refine r_goto 20 dX8_isSwell_16 rfl ?_
      refine r_zret rfl dX8_isSwell_20 rfl ?_
      first
        | exact ⟨by rw [decide_eq_true (by omega)]; rfl, rfl⟩
        | exact ⟨by rw [decide_eq_false (by omega)]; rfl, rfl⟩

set_option maxRecDepth 20000 in
theorem c_find (σ : rl_S) (t : Int) : Ct cW mX8_find [.ref 0, .int (iI t)] σ (qI (fun z σ' => z = -10 - t ∧ σ' = sup σ 0 9 t)) := by
  refine Ct.of plX8 (Nat.le_of_ble_eq_true rfl) ?_
  refine r_aload_n dX8_find_0 rfl ?_
  refine r_iload_n dX8_find_1 rfl ?_
  refine i_put (k := 0) lpX8_285 dX8_find_2 (Nat.le_of_ble_eq_true rfl) rfl rfl ?_
  refine i_bipush dX8_find_5 (by decide) ?_
  refine r_iload_n dX8_find_7 rfl ?_
  refine i_isub dX8_find_8 ?_
  refine r_iret rfl dX8_find_9 ?_
  exact ⟨_, rfl, rfl, rfl⟩

set_option maxRecDepth 20000 in
theorem c_textOf_0 (σ : rl_S) : Ct cW mX8_textOf [.ref 0, .int (iI 0)] σ (pR (.ref 1) σ) := by
  refine Ct.of plX8 (Nat.le_of_ble_eq_true rfl) ?_
  refine r_iload_n dX8_textOf_0 rfl ?_
  refine i_if_ne 9 dX8_textOf_1 rfl ⟨by omega, by omega⟩ (fun q1 => ?_) (fun q1 => ?_)
  · exfalso
    omega
  · skip
    refine r_aload_n dX8_textOf_4 rfl ?_
    refine r_get (k := 0) lfX8_14 dX8_textOf_5 (Nat.le_of_ble_eq_true rfl) rfl rfl ?_
    refine r_aret rfl dX8_textOf_8 ?_
    exact ⟨rfl, rfl⟩

set_option maxRecDepth 20000 in
theorem c_textOf_1 (σ : rl_S) : Ct cW mX8_textOf [.ref 0, .int (iI 1)] σ (pR (.ref 5) σ) := by
  refine Ct.of plX8 (Nat.le_of_ble_eq_true rfl) ?_
  refine r_iload_n dX8_textOf_0 rfl ?_
  refine i_if_ne 9 dX8_textOf_1 rfl ⟨by omega, by omega⟩ (fun q1 => ?_) (fun q1 => ?_)
  · skip
    refine r_iload_n dX8_textOf_9 rfl ?_
    refine i_const dX8_textOf_10 ?_
    refine i_icmp_ne 21 dX8_textOf_11 rfl ⟨by omega, by omega⟩ ⟨by omega, by omega⟩ (fun q11 => ?_) (fun q11 => ?_)
    · exfalso
      omega
    · skip
      refine r_aload_n dX8_textOf_14 rfl ?_
      refine r_get (k := 0) lfX8_18 dX8_textOf_15 (Nat.le_of_ble_eq_true rfl) rfl rfl ?_
      refine r_goto 22 dX8_textOf_18 rfl ?_
      refine r_aret rfl dX8_textOf_22 ?_
      exact ⟨rfl, rfl⟩
  · exfalso
    omega

set_option maxRecDepth 20000 in
theorem c_textOf_n (σ : rl_S) (t : Int) (ht : -2147483648 ≤ t ∧ t < 2147483648) (n0 : t ≠ 0) (n1 : t ≠ 1) : Ct cW mX8_textOf [.ref 0, .int (iI t)] σ (pR .null σ) := by
  refine Ct.of plX8 (Nat.le_of_ble_eq_true rfl) ?_
  refine r_iload_n dX8_textOf_0 rfl ?_
  refine i_if_ne 9 dX8_textOf_1 rfl ⟨by omega, by omega⟩ (fun q1 => ?_) (fun q1 => ?_)
  · skip
    refine r_iload_n dX8_textOf_9 rfl ?_
    refine i_const dX8_textOf_10 ?_
    refine i_icmp_ne 21 dX8_textOf_11 rfl ⟨by omega, by omega⟩ ⟨by omega, by omega⟩ (fun q11 => ?_) (fun q11 => ?_)
    · skip
      refine r_null dX8_textOf_21 ?_
      refine r_aretN rfl dX8_textOf_22 ?_
      exact ⟨rfl, rfl⟩
    · exfalso
      omega
  · exfalso
    omega

set_option maxRecDepth 20000 in
theorem c_sheetOf_0 (σ : rl_S) : Ct cW mX8_sheetOf [.ref 0, .int (iI 0)] σ (pR (.ref 22) σ) := by
  refine Ct.of plX8 (Nat.le_of_ble_eq_true rfl) ?_
  refine r_iload_n dX8_sheetOf_0 rfl ?_
  refine i_if_lt 22 dX8_sheetOf_1 rfl ⟨by omega, by omega⟩ (fun q1 => ?_) (fun q1 => ?_)
  · exfalso
    omega
  · skip
    refine r_iload_n dX8_sheetOf_4 rfl ?_
    refine r_aload_n dX8_sheetOf_5 rfl ?_
    refine r_get (k := 0) lfX8_69 dX8_sheetOf_6 (Nat.le_of_ble_eq_true rfl) rfl rfl ?_
    refine i_alenQ (k := 21) dX8_sheetOf_9 (Nat.le_of_ble_eq_true rfl) rfl rfl ?_
    rw [show (([22, 24, 26, 28] : List Nat).length : Int) = 4 from rfl]
    refine i_icmp_ge 22 dX8_sheetOf_10 rfl ⟨by omega, by omega⟩ ⟨by omega, by omega⟩ (fun q10 => ?_) (fun q10 => ?_)
    · exfalso
      omega
    · skip
      refine r_aload_n dX8_sheetOf_13 rfl ?_
      refine r_get (k := 0) lfX8_69 dX8_sheetOf_14 (Nat.le_of_ble_eq_true rfl) rfl rfl ?_
      refine r_iload_n dX8_sheetOf_17 rfl ?_
      refine i_aald (k := 21) dX8_sheetOf_18 (Nat.le_of_ble_eq_true rfl) rfl rfl ⟨by decide, by decide⟩ (by decide) (by rfl) ?_
      refine r_goto 23 dX8_sheetOf_19 rfl ?_
      refine r_aret rfl dX8_sheetOf_23 ?_
      exact ⟨rfl, rfl⟩

set_option maxRecDepth 20000 in
theorem c_sheetOf_1 (σ : rl_S) : Ct cW mX8_sheetOf [.ref 0, .int (iI 1)] σ (pR (.ref 24) σ) := by
  refine Ct.of plX8 (Nat.le_of_ble_eq_true rfl) ?_
  refine r_iload_n dX8_sheetOf_0 rfl ?_
  refine i_if_lt 22 dX8_sheetOf_1 rfl ⟨by omega, by omega⟩ (fun q1 => ?_) (fun q1 => ?_)
  · exfalso
    omega
  · skip
    refine r_iload_n dX8_sheetOf_4 rfl ?_
    refine r_aload_n dX8_sheetOf_5 rfl ?_
    refine r_get (k := 0) lfX8_69 dX8_sheetOf_6 (Nat.le_of_ble_eq_true rfl) rfl rfl ?_
    refine i_alenQ (k := 21) dX8_sheetOf_9 (Nat.le_of_ble_eq_true rfl) rfl rfl ?_
    rw [show (([22, 24, 26, 28] : List Nat).length : Int) = 4 from rfl]
    refine i_icmp_ge 22 dX8_sheetOf_10 rfl ⟨by omega, by omega⟩ ⟨by omega, by omega⟩ (fun q10 => ?_) (fun q10 => ?_)
    · exfalso
      omega
    · skip
      refine r_aload_n dX8_sheetOf_13 rfl ?_
      refine r_get (k := 0) lfX8_69 dX8_sheetOf_14 (Nat.le_of_ble_eq_true rfl) rfl rfl ?_
      refine r_iload_n dX8_sheetOf_17 rfl ?_
      refine i_aald (k := 21) dX8_sheetOf_18 (Nat.le_of_ble_eq_true rfl) rfl rfl ⟨by decide, by decide⟩ (by decide) (by rfl) ?_
      refine r_goto 23 dX8_sheetOf_19 rfl ?_
      refine r_aret rfl dX8_sheetOf_23 ?_
      exact ⟨rfl, rfl⟩

set_option maxRecDepth 20000 in
theorem c_sheetOf_2 (σ : rl_S) : Ct cW mX8_sheetOf [.ref 0, .int (iI 2)] σ (pR (.ref 26) σ) := by
  refine Ct.of plX8 (Nat.le_of_ble_eq_true rfl) ?_
  refine r_iload_n dX8_sheetOf_0 rfl ?_
  refine i_if_lt 22 dX8_sheetOf_1 rfl ⟨by omega, by omega⟩ (fun q1 => ?_) (fun q1 => ?_)
  · exfalso
    omega
  · skip
    refine r_iload_n dX8_sheetOf_4 rfl ?_
    refine r_aload_n dX8_sheetOf_5 rfl ?_
    refine r_get (k := 0) lfX8_69 dX8_sheetOf_6 (Nat.le_of_ble_eq_true rfl) rfl rfl ?_
    refine i_alenQ (k := 21) dX8_sheetOf_9 (Nat.le_of_ble_eq_true rfl) rfl rfl ?_
    rw [show (([22, 24, 26, 28] : List Nat).length : Int) = 4 from rfl]
    refine i_icmp_ge 22 dX8_sheetOf_10 rfl ⟨by omega, by omega⟩ ⟨by omega, by omega⟩ (fun q10 => ?_) (fun q10 => ?_)
    · exfalso
      omega
    · skip
      refine r_aload_n dX8_sheetOf_13 rfl ?_
      refine r_get (k := 0) lfX8_69 dX8_sheetOf_14 (Nat.le_of_ble_eq_true rfl) rfl rfl ?_
      refine r_iload_n dX8_sheetOf_17 rfl ?_
      refine i_aald (k := 21) dX8_sheetOf_18 (Nat.le_of_ble_eq_true rfl) rfl rfl ⟨by decide, by decide⟩ (by decide) (by rfl) ?_
      refine r_goto 23 dX8_sheetOf_19 rfl ?_
      refine r_aret rfl dX8_sheetOf_23 ?_
      exact ⟨rfl, rfl⟩

set_option maxRecDepth 20000 in
theorem c_sheetOf_3 (σ : rl_S) : Ct cW mX8_sheetOf [.ref 0, .int (iI 3)] σ (pR (.ref 28) σ) := by
  refine Ct.of plX8 (Nat.le_of_ble_eq_true rfl) ?_
  refine r_iload_n dX8_sheetOf_0 rfl ?_
  refine i_if_lt 22 dX8_sheetOf_1 rfl ⟨by omega, by omega⟩ (fun q1 => ?_) (fun q1 => ?_)
  · exfalso
    omega
  · skip
    refine r_iload_n dX8_sheetOf_4 rfl ?_
    refine r_aload_n dX8_sheetOf_5 rfl ?_
    refine r_get (k := 0) lfX8_69 dX8_sheetOf_6 (Nat.le_of_ble_eq_true rfl) rfl rfl ?_
    refine i_alenQ (k := 21) dX8_sheetOf_9 (Nat.le_of_ble_eq_true rfl) rfl rfl ?_
    rw [show (([22, 24, 26, 28] : List Nat).length : Int) = 4 from rfl]
    refine i_icmp_ge 22 dX8_sheetOf_10 rfl ⟨by omega, by omega⟩ ⟨by omega, by omega⟩ (fun q10 => ?_) (fun q10 => ?_)
    · exfalso
      omega
    · skip
      refine r_aload_n dX8_sheetOf_13 rfl ?_
      refine r_get (k := 0) lfX8_69 dX8_sheetOf_14 (Nat.le_of_ble_eq_true rfl) rfl rfl ?_
      refine r_iload_n dX8_sheetOf_17 rfl ?_
      refine i_aald (k := 21) dX8_sheetOf_18 (Nat.le_of_ble_eq_true rfl) rfl rfl ⟨by decide, by decide⟩ (by decide) (by rfl) ?_
      refine r_goto 23 dX8_sheetOf_19 rfl ?_
      refine r_aret rfl dX8_sheetOf_23 ?_
      exact ⟨rfl, rfl⟩

set_option maxRecDepth 20000 in
theorem c_sheetOf_n (σ : rl_S) (t : Int) (ht : -2147483648 ≤ t ∧ t < 2147483648) (n0 : t < 0 ∨ 3 < t) : Ct cW mX8_sheetOf [.ref 0, .int (iI t)] σ (pR .null σ) := by
  refine Ct.of plX8 (Nat.le_of_ble_eq_true rfl) ?_
  refine r_iload_n dX8_sheetOf_0 rfl ?_
  refine i_if_lt 22 dX8_sheetOf_1 rfl ⟨by omega, by omega⟩ (fun q1 => ?_) (fun q1 => ?_)
  · skip
    refine r_null dX8_sheetOf_22 ?_
    refine r_aretN rfl dX8_sheetOf_23 ?_
    exact ⟨rfl, rfl⟩
  · skip
    refine r_iload_n dX8_sheetOf_4 rfl ?_
    refine r_aload_n dX8_sheetOf_5 rfl ?_
    refine r_get (k := 0) lfX8_69 dX8_sheetOf_6 (Nat.le_of_ble_eq_true rfl) rfl rfl ?_
    refine i_alenQ (k := 21) dX8_sheetOf_9 (Nat.le_of_ble_eq_true rfl) rfl rfl ?_
    rw [show (([22, 24, 26, 28] : List Nat).length : Int) = 4 from rfl]
    refine i_icmp_ge 22 dX8_sheetOf_10 rfl ⟨by omega, by omega⟩ ⟨by omega, by omega⟩ (fun q10 => ?_) (fun q10 => ?_)
    · skip
      refine r_null dX8_sheetOf_22 ?_
      refine r_aretN rfl dX8_sheetOf_23 ?_
      exact ⟨rfl, rfl⟩
    · exfalso
      omega
