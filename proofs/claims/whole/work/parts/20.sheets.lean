/-! the sheets -/
def shM (M : rl_S) (s : Nat) (f n : Int) : rl_S := fun k i => if k = 10 then (if i = s then 1 else M k i) else if k = 11 then (if i = s then f else M k i) else if k = 12 then (if i = s then n else M k i) else if k = 13 then (if 48 * s ≤ i ∧ i < 48 * s + 48 then 0 else M k i) else M k i
def rngM (M : rl_S) (a n : Nat) (f : Nat → Int) : rl_S := fun k i => if k = 13 then (if a ≤ i ∧ i < a + n then f (i - a) else M k i) else M k i
def isS (s : Int) : Prop := 0 ≤ s ∧ s ≤ 3
def s_sheet (M : rl_S) (s f n : Int) : Int × rl_S := if (0 ≤ s ∧ s ≤ 3) ∧ (0 ≤ f ∧ f ≤ 2) ∧ n ≤ 48 then (if n < 0 then (-15, sup M 0 21 5) else (n, shM M s.toNat f n)) else (-2, M)
def s_lose (M : rl_S) (s : Int) : Int × rl_S := if 0 ≤ s ∧ s ≤ 3 then (if M 10 s.toNat = 0 then (-11, sup M 0 21 1) else (M 12 s.toNat, sup M 10 s.toNat 0)) else (-2, M)
def trM (M : rl_S) (s f i : Int) : Int := trb (1 - M 10 s.toNat) (M 11 s.toNat) (M 12 s.toNat) f i
def s_put (M : rl_S) (s f i v : Int) : Int × rl_S := if (0 ≤ s ∧ s ≤ 3) ∧ (0 ≤ f ∧ f ≤ 2) then (if trM M s f i ≠ 0 then (-10 - trM M s f i, sup M 0 21 (trM M s f i)) else (1, sup M 13 (48 * s.toNat + i.toNat) (nar (M 11 s.toNat) v))) else (-2, M)
def s_get (M : rl_S) (s f i : Int) : Int × rl_S := if (0 ≤ s ∧ s ≤ 3) ∧ (0 ≤ f ∧ f ≤ 2) then (if trM M s f i ≠ 0 then (-2147483648, sup M 0 21 (trM M s f i)) else (M 13 (48 * s.toNat + i.toNat), M)) else (-2147483648, M)
def s_copy (M : rl_S) (s i t j n : Int) : Int × rl_S := if (0 ≤ s ∧ s ≤ 3) ∧ (0 ≤ t ∧ t ≤ 3) then (if M 10 s.toNat = 0 ∨ M 10 t.toNat = 0 then (-11, sup M 0 21 1) else if M 11 s.toNat ≠ M 11 t.toNat then (-14, sup M 0 21 4) else if 0 ≤ i ∧ 0 ≤ j ∧ 0 ≤ n ∧ i + n ≤ M 12 s.toNat ∧ j + n ≤ M 12 t.toNat then (1, rngM M (48 * t.toNat + j.toNat) n.toNat (fun k => M 13 (48 * s.toNat + i.toNat + k))) else (-12, sup M 0 21 2)) else (-2, M)
def wrN (M : rl_S) (t s : Int) : Int := min (M 12 s.toNat) (400 - t)
def s_write (M : rl_S) (t s : Int) : Int × rl_S := if (0 ≤ t ∧ t ≤ 399) ∧ (0 ≤ s ∧ s ≤ 3) then (if M 10 s.toNat = 0 then (-11, sup M 0 21 1) else (wrN M t s, rngM M (48 * s.toNat) (wrN M t s).toNat (fun k => nar (M 11 s.toNat) (hi M (t + k))))) else (-2, M)
def rd (M : rl_S) (s : Int) : Nat → Int → Int → rl_S → Int × rl_S
  | 0, _, took, M1 => (took, M1)
  | n + 1, i, took, M1 => if i + 1 < M 12 s.toNat then (if (s_seen M1 (M 13 (48 * s.toNat + i.toNat)) (M 13 (48 * s.toNat + i.toNat + 1))).1 < 0 then (took, M1) else rd M s n (i + 2) (took + 1) (s_seen M1 (M 13 (48 * s.toNat + i.toNat)) (M 13 (48 * s.toNat + i.toNat + 1))).2) else (took, M1)
def s_read (M : rl_S) (s : Int) : Int × rl_S := if 0 ≤ s ∧ s ≤ 3 then (if M 10 s.toNat = 0 then (-11, sup M 0 21 1) else rd M s 25 0 0 M) else (-2, M)
theorem wf_sh {M : rl_S} (h : WF M) (s : Nat) (hs : s < 4) : (0 ≤ M 10 s ∧ M 10 s ≤ 1) ∧ (0 ≤ M 11 s ∧ M 11 s ≤ 2) ∧ (0 ≤ M 12 s ∧ M 12 s ≤ 48) ∧ ∀ i : Nat, i < 48 → nar (M 11 s) (M 13 (48 * s + i)) = M 13 (48 * s + i) ∧ -2147483648 ≤ M 13 (48 * s + i) ∧ M 13 (48 * s + i) < 2147483648 := h.2.2.2.2.2.2.2.2.2.2.1 s hs
theorem trb_bd (a b c d e : Int) : 0 ≤ trb a b c d e ∧ trb a b c d e ≤ 3 := by
  unfold trb
  repeat' split
  all_goals decide
theorem b8_bd (v : Int) : -128 ≤ b8 v ∧ b8 v ≤ 127 := by
  unfold b8
  have h1 := Int8.le_toInt (iI v).toInt8
  have h2 := Int8.toInt_lt (iI v).toInt8
  rw [Int8.toInt_toInt32]
  omega
theorem s16_bd (v : Int) : -32768 ≤ s16 v ∧ s16 v ≤ 32767 := by
  unfold s16
  have h1 := Int16.le_toInt (iI v).toInt16
  have h2 := Int16.toInt_lt (iI v).toInt16
  rw [Int16.toInt_toInt32]
  omega
theorem b8_b8 (v : Int) : b8 (b8 v) = b8 v := by
  unfold b8
  rw [iI_of]
  simp
theorem s16_s16 (v : Int) : s16 (s16 v) = s16 v := by
  unfold s16
  rw [iI_of]
  simp
theorem nar_nar (f v : Int) : nar f (nar f v) = nar f v := by
  unfold nar
  split
  · exact b8_b8 v
  · split
    · exact s16_s16 v
    · rfl
theorem nar_bd (f : Int) {v : Int} (hv : -2147483648 ≤ v ∧ v < 2147483648) : -2147483648 ≤ nar f v ∧ nar f v < 2147483648 := by
  have := b8_bd v
  have := s16_bd v
  unfold nar
  split
  · omega
  · split <;> omega
theorem nar_0 (f : Int) : nar f 0 = 0 := by
  unfold nar
  split
  · decide
  · split
    · decide
    · rfl
/-- a state whose items alone are others -/
theorem wf_items {M : rl_S} (h : WF M) (s : Nat) (hs : s < 4) (M' : rl_S) (m : ∀ k, k ≠ 13 → M' k = M k) (mo : ∀ i, i < 48 * s ∨ 48 * s + 48 ≤ i → M' 13 i = M 13 i) (mi : ∀ i : Nat, i < 48 → nar (M 11 s) (M' 13 (48 * s + i)) = M' 13 (48 * s + i) ∧ -2147483648 ≤ M' 13 (48 * s + i) ∧ M' 13 (48 * s + i) < 2147483648) : WF M' := by
  obtain ⟨h1, h2, h3, h4, h5, h6, h7, h8, h9, h10, h11, h12⟩ := h
  refine ⟨?_, ?_, ?_, ?_, ?_, ?_, ?_, ?_, ?_, ?_, ?_, ?_⟩
  · rw [m 1 (by decide)]; exact h1
  · rw [m 1 (by decide)]; exact h2
  · unfold b0; rw [m 2 (by decide)]; exact h3
  · unfold b1; rw [m 2 (by decide)]; exact h4
  · unfold pS; rw [m 5 (by decide)]; exact h5
  · rw [m 0 (by decide)]; exact h6
  · rw [m 0 (by decide)]; exact h7
  · rw [m 6 (by decide)]; exact h8
  · rw [m 0 (by decide)]; exact h9
  · rw [m 8 (by decide), m 9 (by decide)]; exact h10
  · rw [m 10 (by decide), m 11 (by decide), m 12 (by decide)]
    intro u hu
    by_cases hus : u = s
    · subst hus
      obtain ⟨q1, q2, q3, q4⟩ := h11 u hu
      exact ⟨q1, q2, q3, mi⟩
    · obtain ⟨q1, q2, q3, q4⟩ := h11 u hu
      exact ⟨q1, q2, q3, fun i hi => by rw [mo _ (by omega)]; exact q4 i hi⟩
  · rw [m 0 (by decide)]; exact h12
theorem rngM_k (M : rl_S) (a n : Nat) (f : Nat → Int) {k : Nat} (h : k ≠ 13) : rngM M a n f k = M k := by
  funext i
  unfold rngM
  rw [if_neg h]
theorem rngM_in (M : rl_S) (a n : Nat) (f : Nat → Int) {i : Nat} (h : a ≤ i ∧ i < a + n) : rngM M a n f 13 i = f (i - a) := by
  unfold rngM
  rw [if_pos rfl, if_pos h]
theorem rngM_out (M : rl_S) (a n : Nat) (f : Nat → Int) {i : Nat} (h : ¬ (a ≤ i ∧ i < a + n)) : rngM M a n f 13 i = M 13 i := by
  unfold rngM
  rw [if_pos rfl, if_neg h]
theorem wf_sheet {M : rl_S} (h : WF M) (s f n : Int) : WF (s_sheet M s f n).2 := by
  unfold s_sheet
  split
  · rename_i hc
    split
    · exact wf_find h (by decide)
    · obtain ⟨h1, h2, h3, h4, h5, h6, h7, h8, h9, h10, h11, h12⟩ := h
      refine ⟨h1, h2, h3, h4, h5, h6, h7, h8, h9, h10, fun u hu => ?_, h12⟩
      obtain ⟨q1, q2, q3, q4⟩ := h11 u hu
      by_cases hus : u = s.toNat
      · subst hus
        have e10 : shM M s.toNat f n 10 s.toNat = 1 := by simp [shM]
        have e11 : shM M s.toNat f n 11 s.toNat = f := by simp [shM]
        have e12 : shM M s.toNat f n 12 s.toNat = n := by simp [shM]
        dsimp only
        rw [e10, e11, e12]
        refine ⟨by decide, hc.2.1, by omega, fun i hi => ?_⟩
        have e13 : shM M s.toNat f n 13 (48 * s.toNat + i) = 0 := by simp [shM, hi]
        rw [e13, nar_0]
        decide
      · have e10 : shM M s.toNat f n 10 u = M 10 u := by simp [shM, hus]
        have e11 : shM M s.toNat f n 11 u = M 11 u := by simp [shM, hus]
        have e12 : shM M s.toNat f n 12 u = M 12 u := by simp [shM, hus]
        dsimp only
        rw [e10, e11, e12]
        refine ⟨q1, q2, q3, fun i hi => ?_⟩
        have e13 : shM M s.toNat f n 13 (48 * u + i) = M 13 (48 * u + i) := by
          unfold shM
          rw [if_neg (by decide), if_neg (by decide), if_neg (by decide), if_pos rfl, if_neg (by omega)]
        rw [e13]
        exact q4 i hi
  · exact h
theorem wf_lose {M : rl_S} (h : WF M) (s : Int) : WF (s_lose M s).2 := by
  unfold s_lose
  split
  · split
    · exact wf_find h (by decide)
    · obtain ⟨h1, h2, h3, h4, h5, h6, h7, h8, h9, h10, h11, h12⟩ := h
      refine ⟨h1, h2, h3, h4, h5, h6, h7, h8, h9, h10, fun u hu => ?_, h12⟩
      obtain ⟨q1, q2, q3, q4⟩ := h11 u hu
      refine ⟨?_, q2, q3, q4⟩
      by_cases hus : u = s.toNat
      · subst hus; dsimp only; rw [sup_h]; decide
      · dsimp only; rw [sup_i _ _ _ _ hus]; exact q1
  · exact h
theorem trb_0 {a b c d e : Int} (h : trb a b c d e = 0) : a = 0 ∧ b = d ∧ 0 ≤ e ∧ e < c := by
  unfold trb at h
  split at h
  · omega
  · split at h
    · omega
    · split at h
      · omega
      · omega
theorem wf_put {M : rl_S} (h : WF M) (s f i v : Int) (hv : -2147483648 ≤ v ∧ v < 2147483648) : WF (s_put M s f i v).2 := by
  unfold s_put
  split
  · rename_i hc
    have hb := trb_bd (1 - M 10 s.toNat) (M 11 s.toNat) (M 12 s.toNat) f i
    split
    · exact wf_find h (by unfold trM; omega)
    · rename_i hz
      have h0 := trb_0 (show trb (1 - M 10 s.toNat) (M 11 s.toNat) (M 12 s.toNat) f i = 0 by unfold trM at hz; omega)
      obtain ⟨q1, q2, q3, q4⟩ := wf_sh h s.toNat (by omega)
      refine wf_items h s.toNat (by omega) (sup M 13 (48 * s.toNat + i.toNat) (nar (M 11 s.toNat) v)) (fun k hk => sup_ne _ _ _ hk) (fun x hx => sup_i _ _ _ _ (by omega)) (fun x hx => ?_)
      by_cases hxi : x = i.toNat
      · subst hxi; rw [sup_h, nar_nar]; exact ⟨rfl, nar_bd _ hv⟩
      · rw [sup_i _ _ _ _ (by omega)]; exact q4 x hx
  · exact h
theorem wf_get {M : rl_S} (h : WF M) (s f i : Int) : WF (s_get M s f i).2 := by
  unfold s_get
  split
  · have hb := trb_bd (1 - M 10 s.toNat) (M 11 s.toNat) (M 12 s.toNat) f i
    split
    · exact wf_find h (by unfold trM; omega)
    · exact h
  · exact h
theorem wf_copy {M : rl_S} (h : WF M) (s i t j n : Int) : WF (s_copy M s i t j n).2 := by
  unfold s_copy
  split
  · split
    · exact wf_find h (by decide)
    · split
      · exact wf_find h (by decide)
      · split
        · rename_i hc _ hf hr
          obtain ⟨q1, q2, q3, q4⟩ := wf_sh h t.toNat (by omega)
          obtain ⟨p1, p2, p3, p4⟩ := wf_sh h s.toNat (by omega)
          have hf : M 11 s.toNat = M 11 t.toNat := by omega
          refine wf_items h t.toNat (by omega) (rngM M (48 * t.toNat + j.toNat) n.toNat (fun k => M 13 (48 * s.toNat + i.toNat + k))) (fun k hk => rngM_k _ _ _ _ hk) (fun x hx => rngM_out _ _ _ _ (by omega)) (fun x hx => ?_)
          by_cases hxi : j.toNat ≤ x ∧ x < j.toNat + n.toNat
          · rw [rngM_in _ _ _ _ (by omega), show 48 * s.toNat + i.toNat + (48 * t.toNat + x - (48 * t.toNat + j.toNat)) = 48 * s.toNat + (i.toNat + (x - j.toNat)) by omega, ← hf]
            exact p4 _ (by omega)
          · rw [rngM_out _ _ _ _ (by omega)]; exact q4 x hx
        · exact wf_find h (by decide)
  · exact h
theorem wf_write {M : rl_S} (h : WF M) (t s : Int) : WF (s_write M t s).2 := by
  unfold s_write
  split
  · split
    · exact wf_find h (by decide)
    · rename_i hc _
      obtain ⟨q1, q2, q3, q4⟩ := wf_sh h s.toNat (by omega)
      refine wf_items h s.toNat (by omega) (rngM M (48 * s.toNat) (wrN M t s).toNat (fun k => nar (M 11 s.toNat) (hi M (t + k)))) (fun k hk => rngM_k _ _ _ _ hk) (fun x hx => rngM_out _ _ _ _ (by unfold wrN; omega)) (fun x hx => ?_)
      by_cases hxi : x < (wrN M t s).toNat
      · rw [rngM_in _ _ _ _ (by omega), nar_nar]
        have hb := wf_hb h (t + (48 * s.toNat + x - 48 * s.toNat : Nat)) (by omega) (by unfold wrN at hxi; omega)
        exact ⟨rfl, nar_bd _ (by omega)⟩
      · rw [rngM_out _ _ _ _ (by omega)]; exact q4 x hx
  · exact h
theorem seen_neg {M : rl_S} (hw : WF M) (t v : Int) (h : (s_seen M t v).1 < 0) : (s_seen M t v).2 = M := by
  have w9 := (wf_seen9 hw).1
  unfold s_seen at h ⊢
  split
  · split
    · rfl
    · rename_i h1 h2
      rw [if_pos h1, if_neg h2] at h
      change M 0 12 + 1 < 0 at h
      omega
  · rfl
theorem gs1_o {B s : Nat} {σ σ' M M' : rl_S} (g : gSheet1 B s σ M) (f : ∀ i, σ' B i = σ B i) (f2 : ∀ i, σ' (B + 1) i = σ (B + 1) i) (m10 : M' 10 s = M 10 s) (m11 : M' 11 s = M 11 s) (m12 : M' 12 s = M 12 s) (m13 : ∀ i, i < 48 → M' 13 (48 * s + i) = M 13 (48 * s + i)) : gSheet1 B s σ' M' := by
  obtain ⟨g1, g2, g3, g4⟩ := g
  exact ⟨by rw [f, m10]; exact g1, by rw [f, m11]; exact g2, by rw [f, m12]; exact g3, fun i hi => by rw [f2, m13 i hi]; exact g4 i hi⟩
theorem ic_sheet {M M' σ σ' : rl_S} (c : IC M σ) (h : gSheet σ' M') (f : ∀ k i, k < 22 → σ' k i = σ k i) (m : ∀ k, k < 10 → M' k = M k) : IC M' σ' := by
  obtain ⟨⟨t1, t2, t3, t4, t5, t6, t7, t8, t9, t10, t11, t12⟩, ⟨s1, s2, s3, s4, s5⟩, ⟨p1, p2⟩, g, ⟨n1, n2⟩, _, f1⟩ := c
  have eb0 : b0 M' = b0 M := by unfold b0; rw [m 2 (by decide)]
  have eb1 : b1 M' = b1 M := by unfold b1; rw [m 2 (by decide)]
  have em1 : M' 1 = M 1 := m 1 (by decide)
  have em0 : M' 0 = M 0 := m 0 (by decide)
  have en : nS M' = nS M := by unfold nS; rw [eb0, em1]
  have er : nR M' = nR M := by unfold nR; rw [eb1, em1]
  have eh : hS M' = hS M := by unfold hS; rw [eb0, en]
  have el : lS M' = lS M := by unfold lS; rw [eb0, en]
  have ep : pS M' = pS M := by unfold pS; rw [m 5 (by decide)]
  have ew : raw M' = raw M := by unfold raw; rw [eh, el, ep, en]
  have ehi : hi M' = hi M := by unfold hi; rw [ew, em0]
  have F : ∀ {k : Nat} (i : Nat), k < 22 → ∀ {x : Int}, σ k i = x → σ' k i = x := fun i h1 x e => (f _ i h1).trans e
  refine ⟨⟨?_, ?_, ?_, ?_, ?_, ?_, ?_, ?_, ?_, ?_, ?_, ?_⟩, ⟨?_, ?_, ?_, ?_, ?_⟩, ⟨?_, ?_⟩, ?_, ⟨?_, ?_⟩, h, ?_⟩
  · rw [eb0]; exact fun z z0 z1 => F _ (by decide) (t1 z z0 z1)
  · rw [eb1]; exact fun z z0 z1 => F _ (by decide) (t2 z z0 z1)
  · rw [em1]; exact F _ (by decide) t3
  · rw [em1]; exact F _ (by decide) t4
  · rw [eb0, em1]; exact F _ (by decide) t5
  · rw [eb1, em1]; exact F _ (by decide) t6
  · rw [en]; exact F _ (by decide) t7
  · rw [er]; exact F _ (by decide) t8
  · rw [eh]; exact fun z z0 z1 => F _ (by decide) (t9 z z0 z1)
  · rw [el]; exact fun z z0 z1 => F _ (by decide) (t10 z z0 z1)
  · rw [eb1, er]; exact fun z z0 z1 => F _ (by decide) (t11 z z0 z1)
  · rw [eb1, er]; exact fun z z0 z1 => F _ (by decide) (t12 z z0 z1)
  · rw [ep]; exact fun z z0 z1 => F _ (by decide) (s1 z z0 z1)
  · rw [em0]; exact F _ (by decide) s2
  · rw [em0]; exact F _ (by decide) s3
  · rw [ew]; exact fun z z0 z1 => F _ (by decide) (s4 z z0 z1)
  · rw [ehi]; exact fun z z0 z1 => F _ (by decide) (s5 z z0 z1)
  · unfold gR; rw [eb1, er]; exact F _ (by decide) p1
  · unfold lR; rw [eb1, er]; exact F _ (by decide) p2
  · intro i hi; rw [m 6 (by decide)]; exact F _ (by decide) (g i hi)
  · rw [em0]; exact F _ (by decide) n1
  · intro i hi; rw [m 8 (by decide), m 9 (by decide)]; exact ⟨F _ (by decide) (n2 i hi).1, F _ (by decide) (n2 i hi).2⟩
  · rw [em0]; exact F _ (by decide) f1
set_option maxRecDepth 20000 in
theorem c_sheet (M σ : rl_S) (c : IC M σ) (hw : WF M) (s f n : Int) (hs : -2147483648 ≤ s ∧ s < 2147483648) (hn : -2147483648 ≤ n ∧ n < 2147483648) (hf0 : -2147483648 ≤ f ∧ f < 2147483648) : Ct cW mX8_sheet [.ref 0, .int (iI s), .int (iI f), .int (iI n)] σ (qI (fun z σ' => z = (s_sheet M s f n).1 ∧ IC (s_sheet M s f n).2 σ')) := by
  refine Ct.of plX8 (Nat.le_of_ble_eq_true rfl) ?_
  obtain ⟨gt, gs, gp, gg, gn, gh1, gf⟩ := id c
  have hb := wf_hb hw
  have hh := gs.2.2.2.2
  have ob1 := ob_bd (decide (0 ≤ f ∧ f ≤ 2))
  rcases (show s = 0 ∨ s = 1 ∨ s = 2 ∨ s = 3 ∨ (s < 0 ∨ 3 < s) by omega) with rfl | rfl | rfl | rfl | n0
  · skip
    obtain ⟨k1, k2, k3, k4⟩ := gh1.1
    obtain ⟨w1, w2, w3, w4⟩ := wf_sh hw 0 (by decide)
    refine r_aload_n dX8_sheet_0 rfl ?_
    refine r_iload_n dX8_sheet_1 rfl ?_
    refine i_cvP (c_sheetOf_0 σ) lmX8_223 dX8_sheet_2 (Nat.le_of_ble_eq_true rfl) rfl ⟨_, _, rfl⟩ (by decide) (by decide) rfl rfl (Nat.le_of_ble_eq_true rfl) ?_
    refine r_astore dX8_sheet_5 (Nat.le_of_ble_eq_true rfl) ?_
    refine r_aload dX8_sheet_7 rfl ?_
    refine r_ifnull dX8_sheet_9 ?_
    refine r_iload_n dX8_sheet_12 rfl ?_
    refine i_csP (c_isForm σ f hf0) lmX8_253 dX8_sheet_13 (by decide) (by decide) rfl rfl (Nat.le_of_ble_eq_true rfl) ?_
    refine i_if_eq 25 dX8_sheet_16 rfl ⟨by omega, by omega⟩ (fun q16 => ?_) (fun q16 => ?_)
    · have e16 := ob_df q16
      refine i_bipush dX8_sheet_25 (by decide) ?_
      refine r_iret rfl dX8_sheet_27 ?_
      exact ⟨_, rfl, by unfold s_sheet; rw [if_neg (by omega)], by unfold s_sheet; rw [if_neg (by omega)]; exact c⟩
    · have e16 := ob_dt q16
      refine r_iload_n dX8_sheet_19 rfl ?_
      refine i_bipush dX8_sheet_20 (by decide) ?_
      refine i_icmp_le 28 dX8_sheet_22 rfl ⟨by omega, by omega⟩ ⟨by omega, by omega⟩ (fun q22 => ?_) (fun q22 => ?_)
      · skip
        refine r_iload_n dX8_sheet_28 rfl ?_
        refine i_if_ge 38 dX8_sheet_29 rfl ⟨by omega, by omega⟩ (fun q29 => ?_) (fun q29 => ?_)
        · skip
          refine r_aload dX8_sheet_38 rfl ?_
          refine r_iload_n dX8_sheet_40 rfl ?_
          refine r_iload_n dX8_sheet_41 rfl ?_
          refine i_cvV (c_become_22 σ f n) lmX8_256 dX8_sheet_42 (Nat.le_of_ble_eq_true rfl) rfl ⟨_, _, rfl⟩ (by decide) (by decide) rfl rfl (Nat.le_of_ble_eq_true rfl) (fun σ1 hr => ?_)
          refine r_iload_n dX8_sheet_45 rfl ?_
          refine r_iret rfl dX8_sheet_46 ?_
          obtain ⟨u1, u2, u3, u4, u5⟩ := hr
          have e1 : s_sheet M 0 f n = (n, shM M 0 f n) := by unfold s_sheet; rw [if_pos ⟨by decide, by omega, by omega⟩, if_neg (by omega)]; rfl
          refine ⟨_, rfl, by rw [e1], ?_⟩
          rw [e1]
          dsimp only
          have F : ∀ k i, k ≠ 22 → k ≠ 23 → σ1 k i = σ k i := u5
          have E10 : ∀ u, u ≠ 0 → shM M 0 f n 10 u = M 10 u := fun u hu => by simp [shM, hu]
          have E11 : ∀ u, u ≠ 0 → shM M 0 f n 11 u = M 11 u := fun u hu => by simp [shM, hu]
          have E12 : ∀ u, u ≠ 0 → shM M 0 f n 12 u = M 12 u := fun u hu => by simp [shM, hu]
          have E13 : ∀ u i, u ≠ 0 → i < 48 → shM M 0 f n 13 (48 * u + i) = M 13 (48 * u + i) := fun u i hu hi => by
            unfold shM
            rw [if_neg (by decide), if_neg (by decide), if_neg (by decide), if_pos rfl, if_neg (by omega)]
          refine ic_sheet c ⟨⟨by rw [u1]; simp [shM], by rw [u2]; simp [shM], by rw [u3]; simp [shM], fun i hi => by have := u4 i (by omega) (by omega); rw [show ((i : Nat) : Int).toNat = i from rfl] at this; rw [this]; unfold shM; rw [if_neg (by decide), if_neg (by decide), if_neg (by decide), if_pos rfl, if_pos (by omega)]⟩, gs1_o gh1.2.1 (fun i => F 24 i (by decide) (by decide)) (fun i => F 25 i (by decide) (by decide)) (E10 1 (by decide)) (E11 1 (by decide)) (E12 1 (by decide)) (fun i hi => E13 1 i (by decide) hi), gs1_o gh1.2.2.1 (fun i => F 26 i (by decide) (by decide)) (fun i => F 27 i (by decide) (by decide)) (E10 2 (by decide)) (E11 2 (by decide)) (E12 2 (by decide)) (fun i hi => E13 2 i (by decide) hi), gs1_o gh1.2.2.2 (fun i => F 28 i (by decide) (by decide)) (fun i => F 29 i (by decide) (by decide)) (E10 3 (by decide)) (E11 3 (by decide)) (E12 3 (by decide)) (fun i hi => E13 3 i (by decide) hi)⟩ (fun k i h => u5 k i (by omega) (by omega)) (fun k h => by funext i; unfold shM; rw [if_neg (by omega), if_neg (by omega), if_neg (by omega), if_neg (by omega)])
        · skip
          refine r_aload_n dX8_sheet_32 rfl ?_
          refine i_const dX8_sheet_33 ?_
          refine i_cvI (c_find σ 5) lmX8_231 dX8_sheet_34 (Nat.le_of_ble_eq_true rfl) rfl ⟨_, _, rfl⟩ (by decide) (by decide) rfl rfl (Nat.le_of_ble_eq_true rfl) (fun z1 σ1 hf => ?_)
          obtain ⟨rfl, rfl⟩ := hf
          refine r_iret rfl dX8_sheet_37 ?_
          have e1 : s_sheet M 0 f n = (-15, sup M 0 21 5) := by unfold s_sheet; rw [if_pos ⟨by decide, by omega, by omega⟩, if_pos (by omega)]
          exact ⟨_, rfl, by rw [e1]; rfl, by rw [e1]; exact ic_find c 5⟩
      · skip
        refine i_bipush dX8_sheet_25 (by decide) ?_
        refine r_iret rfl dX8_sheet_27 ?_
        exact ⟨_, rfl, by unfold s_sheet; rw [if_neg (by omega)], by unfold s_sheet; rw [if_neg (by omega)]; exact c⟩
  · skip
    obtain ⟨k1, k2, k3, k4⟩ := gh1.2.1
    obtain ⟨w1, w2, w3, w4⟩ := wf_sh hw 1 (by decide)
    refine r_aload_n dX8_sheet_0 rfl ?_
    refine r_iload_n dX8_sheet_1 rfl ?_
    refine i_cvP (c_sheetOf_1 σ) lmX8_223 dX8_sheet_2 (Nat.le_of_ble_eq_true rfl) rfl ⟨_, _, rfl⟩ (by decide) (by decide) rfl rfl (Nat.le_of_ble_eq_true rfl) ?_
    refine r_astore dX8_sheet_5 (Nat.le_of_ble_eq_true rfl) ?_
    refine r_aload dX8_sheet_7 rfl ?_
    refine r_ifnull dX8_sheet_9 ?_
    refine r_iload_n dX8_sheet_12 rfl ?_
    refine i_csP (c_isForm σ f hf0) lmX8_253 dX8_sheet_13 (by decide) (by decide) rfl rfl (Nat.le_of_ble_eq_true rfl) ?_
    refine i_if_eq 25 dX8_sheet_16 rfl ⟨by omega, by omega⟩ (fun q16 => ?_) (fun q16 => ?_)
    · have e16 := ob_df q16
      refine i_bipush dX8_sheet_25 (by decide) ?_
      refine r_iret rfl dX8_sheet_27 ?_
      exact ⟨_, rfl, by unfold s_sheet; rw [if_neg (by omega)], by unfold s_sheet; rw [if_neg (by omega)]; exact c⟩
    · have e16 := ob_dt q16
      refine r_iload_n dX8_sheet_19 rfl ?_
      refine i_bipush dX8_sheet_20 (by decide) ?_
      refine i_icmp_le 28 dX8_sheet_22 rfl ⟨by omega, by omega⟩ ⟨by omega, by omega⟩ (fun q22 => ?_) (fun q22 => ?_)
      · skip
        refine r_iload_n dX8_sheet_28 rfl ?_
        refine i_if_ge 38 dX8_sheet_29 rfl ⟨by omega, by omega⟩ (fun q29 => ?_) (fun q29 => ?_)
        · skip
          refine r_aload dX8_sheet_38 rfl ?_
          refine r_iload_n dX8_sheet_40 rfl ?_
          refine r_iload_n dX8_sheet_41 rfl ?_
          refine i_cvV (c_become_24 σ f n) lmX8_256 dX8_sheet_42 (Nat.le_of_ble_eq_true rfl) rfl ⟨_, _, rfl⟩ (by decide) (by decide) rfl rfl (Nat.le_of_ble_eq_true rfl) (fun σ1 hr => ?_)
          refine r_iload_n dX8_sheet_45 rfl ?_
          refine r_iret rfl dX8_sheet_46 ?_
          obtain ⟨u1, u2, u3, u4, u5⟩ := hr
          have e1 : s_sheet M 1 f n = (n, shM M 1 f n) := by unfold s_sheet; rw [if_pos ⟨by decide, by omega, by omega⟩, if_neg (by omega)]; rfl
          refine ⟨_, rfl, by rw [e1], ?_⟩
          rw [e1]
          dsimp only
          have F : ∀ k i, k ≠ 24 → k ≠ 25 → σ1 k i = σ k i := u5
          have E10 : ∀ u, u ≠ 1 → shM M 1 f n 10 u = M 10 u := fun u hu => by simp [shM, hu]
          have E11 : ∀ u, u ≠ 1 → shM M 1 f n 11 u = M 11 u := fun u hu => by simp [shM, hu]
          have E12 : ∀ u, u ≠ 1 → shM M 1 f n 12 u = M 12 u := fun u hu => by simp [shM, hu]
          have E13 : ∀ u i, u ≠ 1 → i < 48 → shM M 1 f n 13 (48 * u + i) = M 13 (48 * u + i) := fun u i hu hi => by
            unfold shM
            rw [if_neg (by decide), if_neg (by decide), if_neg (by decide), if_pos rfl, if_neg (by omega)]
          refine ic_sheet c ⟨gs1_o gh1.1 (fun i => F 22 i (by decide) (by decide)) (fun i => F 23 i (by decide) (by decide)) (E10 0 (by decide)) (E11 0 (by decide)) (E12 0 (by decide)) (fun i hi => E13 0 i (by decide) hi), ⟨by rw [u1]; simp [shM], by rw [u2]; simp [shM], by rw [u3]; simp [shM], fun i hi => by have := u4 i (by omega) (by omega); rw [show ((i : Nat) : Int).toNat = i from rfl] at this; rw [this]; unfold shM; rw [if_neg (by decide), if_neg (by decide), if_neg (by decide), if_pos rfl, if_pos (by omega)]⟩, gs1_o gh1.2.2.1 (fun i => F 26 i (by decide) (by decide)) (fun i => F 27 i (by decide) (by decide)) (E10 2 (by decide)) (E11 2 (by decide)) (E12 2 (by decide)) (fun i hi => E13 2 i (by decide) hi), gs1_o gh1.2.2.2 (fun i => F 28 i (by decide) (by decide)) (fun i => F 29 i (by decide) (by decide)) (E10 3 (by decide)) (E11 3 (by decide)) (E12 3 (by decide)) (fun i hi => E13 3 i (by decide) hi)⟩ (fun k i h => u5 k i (by omega) (by omega)) (fun k h => by funext i; unfold shM; rw [if_neg (by omega), if_neg (by omega), if_neg (by omega), if_neg (by omega)])
        · skip
          refine r_aload_n dX8_sheet_32 rfl ?_
          refine i_const dX8_sheet_33 ?_
          refine i_cvI (c_find σ 5) lmX8_231 dX8_sheet_34 (Nat.le_of_ble_eq_true rfl) rfl ⟨_, _, rfl⟩ (by decide) (by decide) rfl rfl (Nat.le_of_ble_eq_true rfl) (fun z1 σ1 hf => ?_)
          obtain ⟨rfl, rfl⟩ := hf
          refine r_iret rfl dX8_sheet_37 ?_
          have e1 : s_sheet M 1 f n = (-15, sup M 0 21 5) := by unfold s_sheet; rw [if_pos ⟨by decide, by omega, by omega⟩, if_pos (by omega)]
          exact ⟨_, rfl, by rw [e1]; rfl, by rw [e1]; exact ic_find c 5⟩
      · skip
        refine i_bipush dX8_sheet_25 (by decide) ?_
        refine r_iret rfl dX8_sheet_27 ?_
        exact ⟨_, rfl, by unfold s_sheet; rw [if_neg (by omega)], by unfold s_sheet; rw [if_neg (by omega)]; exact c⟩
  · skip
    obtain ⟨k1, k2, k3, k4⟩ := gh1.2.2.1
    obtain ⟨w1, w2, w3, w4⟩ := wf_sh hw 2 (by decide)
    refine r_aload_n dX8_sheet_0 rfl ?_
    refine r_iload_n dX8_sheet_1 rfl ?_
    refine i_cvP (c_sheetOf_2 σ) lmX8_223 dX8_sheet_2 (Nat.le_of_ble_eq_true rfl) rfl ⟨_, _, rfl⟩ (by decide) (by decide) rfl rfl (Nat.le_of_ble_eq_true rfl) ?_
    refine r_astore dX8_sheet_5 (Nat.le_of_ble_eq_true rfl) ?_
    refine r_aload dX8_sheet_7 rfl ?_
    refine r_ifnull dX8_sheet_9 ?_
    refine r_iload_n dX8_sheet_12 rfl ?_
    refine i_csP (c_isForm σ f hf0) lmX8_253 dX8_sheet_13 (by decide) (by decide) rfl rfl (Nat.le_of_ble_eq_true rfl) ?_
    refine i_if_eq 25 dX8_sheet_16 rfl ⟨by omega, by omega⟩ (fun q16 => ?_) (fun q16 => ?_)
    · have e16 := ob_df q16
      refine i_bipush dX8_sheet_25 (by decide) ?_
      refine r_iret rfl dX8_sheet_27 ?_
      exact ⟨_, rfl, by unfold s_sheet; rw [if_neg (by omega)], by unfold s_sheet; rw [if_neg (by omega)]; exact c⟩
    · have e16 := ob_dt q16
      refine r_iload_n dX8_sheet_19 rfl ?_
      refine i_bipush dX8_sheet_20 (by decide) ?_
      refine i_icmp_le 28 dX8_sheet_22 rfl ⟨by omega, by omega⟩ ⟨by omega, by omega⟩ (fun q22 => ?_) (fun q22 => ?_)
      · skip
        refine r_iload_n dX8_sheet_28 rfl ?_
        refine i_if_ge 38 dX8_sheet_29 rfl ⟨by omega, by omega⟩ (fun q29 => ?_) (fun q29 => ?_)
        · skip
          refine r_aload dX8_sheet_38 rfl ?_
          refine r_iload_n dX8_sheet_40 rfl ?_
          refine r_iload_n dX8_sheet_41 rfl ?_
          refine i_cvV (c_become_26 σ f n) lmX8_256 dX8_sheet_42 (Nat.le_of_ble_eq_true rfl) rfl ⟨_, _, rfl⟩ (by decide) (by decide) rfl rfl (Nat.le_of_ble_eq_true rfl) (fun σ1 hr => ?_)
          refine r_iload_n dX8_sheet_45 rfl ?_
          refine r_iret rfl dX8_sheet_46 ?_
          obtain ⟨u1, u2, u3, u4, u5⟩ := hr
          have e1 : s_sheet M 2 f n = (n, shM M 2 f n) := by unfold s_sheet; rw [if_pos ⟨by decide, by omega, by omega⟩, if_neg (by omega)]; rfl
          refine ⟨_, rfl, by rw [e1], ?_⟩
          rw [e1]
          dsimp only
          have F : ∀ k i, k ≠ 26 → k ≠ 27 → σ1 k i = σ k i := u5
          have E10 : ∀ u, u ≠ 2 → shM M 2 f n 10 u = M 10 u := fun u hu => by simp [shM, hu]
          have E11 : ∀ u, u ≠ 2 → shM M 2 f n 11 u = M 11 u := fun u hu => by simp [shM, hu]
          have E12 : ∀ u, u ≠ 2 → shM M 2 f n 12 u = M 12 u := fun u hu => by simp [shM, hu]
          have E13 : ∀ u i, u ≠ 2 → i < 48 → shM M 2 f n 13 (48 * u + i) = M 13 (48 * u + i) := fun u i hu hi => by
            unfold shM
            rw [if_neg (by decide), if_neg (by decide), if_neg (by decide), if_pos rfl, if_neg (by omega)]
          refine ic_sheet c ⟨gs1_o gh1.1 (fun i => F 22 i (by decide) (by decide)) (fun i => F 23 i (by decide) (by decide)) (E10 0 (by decide)) (E11 0 (by decide)) (E12 0 (by decide)) (fun i hi => E13 0 i (by decide) hi), gs1_o gh1.2.1 (fun i => F 24 i (by decide) (by decide)) (fun i => F 25 i (by decide) (by decide)) (E10 1 (by decide)) (E11 1 (by decide)) (E12 1 (by decide)) (fun i hi => E13 1 i (by decide) hi), ⟨by rw [u1]; simp [shM], by rw [u2]; simp [shM], by rw [u3]; simp [shM], fun i hi => by have := u4 i (by omega) (by omega); rw [show ((i : Nat) : Int).toNat = i from rfl] at this; rw [this]; unfold shM; rw [if_neg (by decide), if_neg (by decide), if_neg (by decide), if_pos rfl, if_pos (by omega)]⟩, gs1_o gh1.2.2.2 (fun i => F 28 i (by decide) (by decide)) (fun i => F 29 i (by decide) (by decide)) (E10 3 (by decide)) (E11 3 (by decide)) (E12 3 (by decide)) (fun i hi => E13 3 i (by decide) hi)⟩ (fun k i h => u5 k i (by omega) (by omega)) (fun k h => by funext i; unfold shM; rw [if_neg (by omega), if_neg (by omega), if_neg (by omega), if_neg (by omega)])
        · skip
          refine r_aload_n dX8_sheet_32 rfl ?_
          refine i_const dX8_sheet_33 ?_
          refine i_cvI (c_find σ 5) lmX8_231 dX8_sheet_34 (Nat.le_of_ble_eq_true rfl) rfl ⟨_, _, rfl⟩ (by decide) (by decide) rfl rfl (Nat.le_of_ble_eq_true rfl) (fun z1 σ1 hf => ?_)
          obtain ⟨rfl, rfl⟩ := hf
          refine r_iret rfl dX8_sheet_37 ?_
          have e1 : s_sheet M 2 f n = (-15, sup M 0 21 5) := by unfold s_sheet; rw [if_pos ⟨by decide, by omega, by omega⟩, if_pos (by omega)]
          exact ⟨_, rfl, by rw [e1]; rfl, by rw [e1]; exact ic_find c 5⟩
      · skip
        refine i_bipush dX8_sheet_25 (by decide) ?_
        refine r_iret rfl dX8_sheet_27 ?_
        exact ⟨_, rfl, by unfold s_sheet; rw [if_neg (by omega)], by unfold s_sheet; rw [if_neg (by omega)]; exact c⟩
  · skip
    obtain ⟨k1, k2, k3, k4⟩ := gh1.2.2.2
    obtain ⟨w1, w2, w3, w4⟩ := wf_sh hw 3 (by decide)
    refine r_aload_n dX8_sheet_0 rfl ?_
    refine r_iload_n dX8_sheet_1 rfl ?_
    refine i_cvP (c_sheetOf_3 σ) lmX8_223 dX8_sheet_2 (Nat.le_of_ble_eq_true rfl) rfl ⟨_, _, rfl⟩ (by decide) (by decide) rfl rfl (Nat.le_of_ble_eq_true rfl) ?_
    refine r_astore dX8_sheet_5 (Nat.le_of_ble_eq_true rfl) ?_
    refine r_aload dX8_sheet_7 rfl ?_
    refine r_ifnull dX8_sheet_9 ?_
    refine r_iload_n dX8_sheet_12 rfl ?_
    refine i_csP (c_isForm σ f hf0) lmX8_253 dX8_sheet_13 (by decide) (by decide) rfl rfl (Nat.le_of_ble_eq_true rfl) ?_
    refine i_if_eq 25 dX8_sheet_16 rfl ⟨by omega, by omega⟩ (fun q16 => ?_) (fun q16 => ?_)
    · have e16 := ob_df q16
      refine i_bipush dX8_sheet_25 (by decide) ?_
      refine r_iret rfl dX8_sheet_27 ?_
      exact ⟨_, rfl, by unfold s_sheet; rw [if_neg (by omega)], by unfold s_sheet; rw [if_neg (by omega)]; exact c⟩
    · have e16 := ob_dt q16
      refine r_iload_n dX8_sheet_19 rfl ?_
      refine i_bipush dX8_sheet_20 (by decide) ?_
      refine i_icmp_le 28 dX8_sheet_22 rfl ⟨by omega, by omega⟩ ⟨by omega, by omega⟩ (fun q22 => ?_) (fun q22 => ?_)
      · skip
        refine r_iload_n dX8_sheet_28 rfl ?_
        refine i_if_ge 38 dX8_sheet_29 rfl ⟨by omega, by omega⟩ (fun q29 => ?_) (fun q29 => ?_)
        · skip
          refine r_aload dX8_sheet_38 rfl ?_
          refine r_iload_n dX8_sheet_40 rfl ?_
          refine r_iload_n dX8_sheet_41 rfl ?_
          refine i_cvV (c_become_28 σ f n) lmX8_256 dX8_sheet_42 (Nat.le_of_ble_eq_true rfl) rfl ⟨_, _, rfl⟩ (by decide) (by decide) rfl rfl (Nat.le_of_ble_eq_true rfl) (fun σ1 hr => ?_)
          refine r_iload_n dX8_sheet_45 rfl ?_
          refine r_iret rfl dX8_sheet_46 ?_
          obtain ⟨u1, u2, u3, u4, u5⟩ := hr
          have e1 : s_sheet M 3 f n = (n, shM M 3 f n) := by unfold s_sheet; rw [if_pos ⟨by decide, by omega, by omega⟩, if_neg (by omega)]; rfl
          refine ⟨_, rfl, by rw [e1], ?_⟩
          rw [e1]
          dsimp only
          have F : ∀ k i, k ≠ 28 → k ≠ 29 → σ1 k i = σ k i := u5
          have E10 : ∀ u, u ≠ 3 → shM M 3 f n 10 u = M 10 u := fun u hu => by simp [shM, hu]
          have E11 : ∀ u, u ≠ 3 → shM M 3 f n 11 u = M 11 u := fun u hu => by simp [shM, hu]
          have E12 : ∀ u, u ≠ 3 → shM M 3 f n 12 u = M 12 u := fun u hu => by simp [shM, hu]
          have E13 : ∀ u i, u ≠ 3 → i < 48 → shM M 3 f n 13 (48 * u + i) = M 13 (48 * u + i) := fun u i hu hi => by
            unfold shM
            rw [if_neg (by decide), if_neg (by decide), if_neg (by decide), if_pos rfl, if_neg (by omega)]
          refine ic_sheet c ⟨gs1_o gh1.1 (fun i => F 22 i (by decide) (by decide)) (fun i => F 23 i (by decide) (by decide)) (E10 0 (by decide)) (E11 0 (by decide)) (E12 0 (by decide)) (fun i hi => E13 0 i (by decide) hi), gs1_o gh1.2.1 (fun i => F 24 i (by decide) (by decide)) (fun i => F 25 i (by decide) (by decide)) (E10 1 (by decide)) (E11 1 (by decide)) (E12 1 (by decide)) (fun i hi => E13 1 i (by decide) hi), gs1_o gh1.2.2.1 (fun i => F 26 i (by decide) (by decide)) (fun i => F 27 i (by decide) (by decide)) (E10 2 (by decide)) (E11 2 (by decide)) (E12 2 (by decide)) (fun i hi => E13 2 i (by decide) hi), ⟨by rw [u1]; simp [shM], by rw [u2]; simp [shM], by rw [u3]; simp [shM], fun i hi => by have := u4 i (by omega) (by omega); rw [show ((i : Nat) : Int).toNat = i from rfl] at this; rw [this]; unfold shM; rw [if_neg (by decide), if_neg (by decide), if_neg (by decide), if_pos rfl, if_pos (by omega)]⟩⟩ (fun k i h => u5 k i (by omega) (by omega)) (fun k h => by funext i; unfold shM; rw [if_neg (by omega), if_neg (by omega), if_neg (by omega), if_neg (by omega)])
        · skip
          refine r_aload_n dX8_sheet_32 rfl ?_
          refine i_const dX8_sheet_33 ?_
          refine i_cvI (c_find σ 5) lmX8_231 dX8_sheet_34 (Nat.le_of_ble_eq_true rfl) rfl ⟨_, _, rfl⟩ (by decide) (by decide) rfl rfl (Nat.le_of_ble_eq_true rfl) (fun z1 σ1 hf => ?_)
          obtain ⟨rfl, rfl⟩ := hf
          refine r_iret rfl dX8_sheet_37 ?_
          have e1 : s_sheet M 3 f n = (-15, sup M 0 21 5) := by unfold s_sheet; rw [if_pos ⟨by decide, by omega, by omega⟩, if_pos (by omega)]
          exact ⟨_, rfl, by rw [e1]; rfl, by rw [e1]; exact ic_find c 5⟩
      · skip
        refine i_bipush dX8_sheet_25 (by decide) ?_
        refine r_iret rfl dX8_sheet_27 ?_
        exact ⟨_, rfl, by unfold s_sheet; rw [if_neg (by omega)], by unfold s_sheet; rw [if_neg (by omega)]; exact c⟩
  · skip
    skip
    refine r_aload_n dX8_sheet_0 rfl ?_
    refine r_iload_n dX8_sheet_1 rfl ?_
    refine i_cvP (c_sheetOf_n σ s hs n0) lmX8_223 dX8_sheet_2 (Nat.le_of_ble_eq_true rfl) rfl ⟨_, _, rfl⟩ (by decide) (by decide) rfl rfl (Nat.le_of_ble_eq_true rfl) ?_
    refine r_astoreN dX8_sheet_5 (Nat.le_of_ble_eq_true rfl) ?_
    refine r_aloadN dX8_sheet_7 rfl ?_
    refine r_ifnullN 25 dX8_sheet_9 rfl ?_
    refine i_bipush dX8_sheet_25 (by decide) ?_
    refine r_iret rfl dX8_sheet_27 ?_
    exact ⟨_, rfl, by unfold s_sheet; rw [if_neg (by omega)], by unfold s_sheet; rw [if_neg (by omega)]; exact c⟩

set_option maxRecDepth 20000 in
theorem c_lose (M σ : rl_S) (c : IC M σ) (hw : WF M) (s : Int) (hs : -2147483648 ≤ s ∧ s < 2147483648) : Ct cW mX8_lose [.ref 0, .int (iI s)] σ (qI (fun z σ' => z = (s_lose M s).1 ∧ IC (s_lose M s).2 σ')) := by
  refine Ct.of plX8 (Nat.le_of_ble_eq_true rfl) ?_
  obtain ⟨gt, gs, gp, gg, gn, gh1, gf⟩ := id c
  have hb := wf_hb hw
  have hh := gs.2.2.2.2
  rcases (show s = 0 ∨ s = 1 ∨ s = 2 ∨ s = 3 ∨ (s < 0 ∨ 3 < s) by omega) with rfl | rfl | rfl | rfl | n0
  · skip
    obtain ⟨k1, k2, k3, k4⟩ := gh1.1
    obtain ⟨w1, w2, w3, w4⟩ := wf_sh hw 0 (by decide)
    refine r_aload_n dX8_lose_0 rfl ?_
    refine r_iload_n dX8_lose_1 rfl ?_
    refine i_cvP (c_sheetOf_0 σ) lmX8_223 dX8_lose_2 (Nat.le_of_ble_eq_true rfl) rfl ⟨_, _, rfl⟩ (by decide) (by decide) rfl rfl (Nat.le_of_ble_eq_true rfl) ?_
    refine r_astore_n dX8_lose_5 (Nat.le_of_ble_eq_true rfl) ?_
    refine r_aload_n dX8_lose_6 rfl ?_
    refine r_ifnonnull 13 dX8_lose_7 rfl ?_
    refine r_aload_n dX8_lose_13 rfl ?_
    refine r_get (k := 22) lfX8_227 dX8_lose_14 (Nat.le_of_ble_eq_true rfl) rfl rfl ?_
    refine i_if_eq 26 dX8_lose_17 rfl ⟨by omega, by omega⟩ (fun q17 => ?_) (fun q17 => ?_)
    · skip
      refine r_aload_n dX8_lose_26 rfl ?_
      refine i_const dX8_lose_27 ?_
      refine r_put (k := 22) lpX8_227 dX8_lose_28 (Nat.le_of_ble_eq_true rfl) rfl rfl rfl rfl ?_
      refine r_aload_n dX8_lose_31 rfl ?_
      refine r_get (k := 22) lfX8_234 dX8_lose_32 (Nat.le_of_ble_eq_true rfl) rfl rfl ?_
      refine r_iret rfl dX8_lose_35 ?_
      have e1 : s_lose M 0 = (M 12 0, sup M 10 0 0) := by unfold s_lose; rw [if_pos (by decide), if_neg (show ¬ M 10 (0 : Int).toNat = 0 from (show ¬ M 10 0 = 0 by omega))]; rfl
      rw [sup_i _ _ _ _ (show 3 ≠ 1 by decide), k3]
      refine ⟨_, rfl, by rw [e1], ?_⟩
      rw [e1]
      dsimp only
      have F : ∀ k i, k ≠ 22 → k ≠ 23 → sup σ 22 1 1 k i = σ k i := fun k i h _ => sup_k _ _ _ _ _ h
      have E10 : ∀ u, u ≠ 0 → sup M 10 0 0 10 u = M 10 u := fun u hu => sup_i _ _ _ _ hu
      have E11 : ∀ u, u ≠ 0 → sup M 10 0 0 11 u = M 11 u := fun _ _ => rfl
      have E12 : ∀ u, u ≠ 0 → sup M 10 0 0 12 u = M 12 u := fun _ _ => rfl
      have E13 : ∀ u i, u ≠ 0 → i < 48 → sup M 10 0 0 13 (48 * u + i) = M 13 (48 * u + i) := fun _ _ _ _ => rfl
      exact ic_sheet c ⟨⟨by rw [sup_h, sup_h]; decide, by rw [sup_i _ _ _ _ (show 2 ≠ 1 by decide)]; exact k2, by rw [sup_i _ _ _ _ (show 3 ≠ 1 by decide)]; exact k3, fun i hi => k4 i hi⟩, gs1_o gh1.2.1 (fun i => F 24 i (by decide) (by decide)) (fun i => F 25 i (by decide) (by decide)) (E10 1 (by decide)) (E11 1 (by decide)) (E12 1 (by decide)) (fun i hi => E13 1 i (by decide) hi), gs1_o gh1.2.2.1 (fun i => F 26 i (by decide) (by decide)) (fun i => F 27 i (by decide) (by decide)) (E10 2 (by decide)) (E11 2 (by decide)) (E12 2 (by decide)) (fun i hi => E13 2 i (by decide) hi), gs1_o gh1.2.2.2 (fun i => F 28 i (by decide) (by decide)) (fun i => F 29 i (by decide) (by decide)) (E10 3 (by decide)) (E11 3 (by decide)) (E12 3 (by decide)) (fun i hi => E13 3 i (by decide) hi)⟩ (fun k i h => sup_k _ _ _ _ _ (by omega)) (fun k h => sup_ne _ _ _ (by omega))
    · skip
      refine r_aload_n dX8_lose_20 rfl ?_
      refine i_const dX8_lose_21 ?_
      refine i_cvI (c_find σ 1) lmX8_231 dX8_lose_22 (Nat.le_of_ble_eq_true rfl) rfl ⟨_, _, rfl⟩ (by decide) (by decide) rfl rfl (Nat.le_of_ble_eq_true rfl) (fun z1 σ1 hf => ?_)
      obtain ⟨rfl, rfl⟩ := hf
      refine r_iret rfl dX8_lose_25 ?_
      have e1 : s_lose M 0 = (-11, sup M 0 21 1) := by unfold s_lose; rw [if_pos (by decide), if_pos (show M 10 (0 : Int).toNat = 0 from (show M 10 0 = 0 by omega))]
      exact ⟨_, rfl, by rw [e1]; rfl, by rw [e1]; exact ic_find c 1⟩
  · skip
    obtain ⟨k1, k2, k3, k4⟩ := gh1.2.1
    obtain ⟨w1, w2, w3, w4⟩ := wf_sh hw 1 (by decide)
    refine r_aload_n dX8_lose_0 rfl ?_
    refine r_iload_n dX8_lose_1 rfl ?_
    refine i_cvP (c_sheetOf_1 σ) lmX8_223 dX8_lose_2 (Nat.le_of_ble_eq_true rfl) rfl ⟨_, _, rfl⟩ (by decide) (by decide) rfl rfl (Nat.le_of_ble_eq_true rfl) ?_
    refine r_astore_n dX8_lose_5 (Nat.le_of_ble_eq_true rfl) ?_
    refine r_aload_n dX8_lose_6 rfl ?_
    refine r_ifnonnull 13 dX8_lose_7 rfl ?_
    refine r_aload_n dX8_lose_13 rfl ?_
    refine r_get (k := 24) lfX8_227 dX8_lose_14 (Nat.le_of_ble_eq_true rfl) rfl rfl ?_
    refine i_if_eq 26 dX8_lose_17 rfl ⟨by omega, by omega⟩ (fun q17 => ?_) (fun q17 => ?_)
    · skip
      refine r_aload_n dX8_lose_26 rfl ?_
      refine i_const dX8_lose_27 ?_
      refine r_put (k := 24) lpX8_227 dX8_lose_28 (Nat.le_of_ble_eq_true rfl) rfl rfl rfl rfl ?_
      refine r_aload_n dX8_lose_31 rfl ?_
      refine r_get (k := 24) lfX8_234 dX8_lose_32 (Nat.le_of_ble_eq_true rfl) rfl rfl ?_
      refine r_iret rfl dX8_lose_35 ?_
      have e1 : s_lose M 1 = (M 12 1, sup M 10 1 0) := by unfold s_lose; rw [if_pos (by decide), if_neg (show ¬ M 10 (1 : Int).toNat = 0 from (show ¬ M 10 1 = 0 by omega))]; rfl
      rw [sup_i _ _ _ _ (show 3 ≠ 1 by decide), k3]
      refine ⟨_, rfl, by rw [e1], ?_⟩
      rw [e1]
      dsimp only
      have F : ∀ k i, k ≠ 24 → k ≠ 25 → sup σ 24 1 1 k i = σ k i := fun k i h _ => sup_k _ _ _ _ _ h
      have E10 : ∀ u, u ≠ 1 → sup M 10 1 0 10 u = M 10 u := fun u hu => sup_i _ _ _ _ hu
      have E11 : ∀ u, u ≠ 1 → sup M 10 1 0 11 u = M 11 u := fun _ _ => rfl
      have E12 : ∀ u, u ≠ 1 → sup M 10 1 0 12 u = M 12 u := fun _ _ => rfl
      have E13 : ∀ u i, u ≠ 1 → i < 48 → sup M 10 1 0 13 (48 * u + i) = M 13 (48 * u + i) := fun _ _ _ _ => rfl
      exact ic_sheet c ⟨gs1_o gh1.1 (fun i => F 22 i (by decide) (by decide)) (fun i => F 23 i (by decide) (by decide)) (E10 0 (by decide)) (E11 0 (by decide)) (E12 0 (by decide)) (fun i hi => E13 0 i (by decide) hi), ⟨by rw [sup_h, sup_h]; decide, by rw [sup_i _ _ _ _ (show 2 ≠ 1 by decide)]; exact k2, by rw [sup_i _ _ _ _ (show 3 ≠ 1 by decide)]; exact k3, fun i hi => k4 i hi⟩, gs1_o gh1.2.2.1 (fun i => F 26 i (by decide) (by decide)) (fun i => F 27 i (by decide) (by decide)) (E10 2 (by decide)) (E11 2 (by decide)) (E12 2 (by decide)) (fun i hi => E13 2 i (by decide) hi), gs1_o gh1.2.2.2 (fun i => F 28 i (by decide) (by decide)) (fun i => F 29 i (by decide) (by decide)) (E10 3 (by decide)) (E11 3 (by decide)) (E12 3 (by decide)) (fun i hi => E13 3 i (by decide) hi)⟩ (fun k i h => sup_k _ _ _ _ _ (by omega)) (fun k h => sup_ne _ _ _ (by omega))
    · skip
      refine r_aload_n dX8_lose_20 rfl ?_
      refine i_const dX8_lose_21 ?_
      refine i_cvI (c_find σ 1) lmX8_231 dX8_lose_22 (Nat.le_of_ble_eq_true rfl) rfl ⟨_, _, rfl⟩ (by decide) (by decide) rfl rfl (Nat.le_of_ble_eq_true rfl) (fun z1 σ1 hf => ?_)
      obtain ⟨rfl, rfl⟩ := hf
      refine r_iret rfl dX8_lose_25 ?_
      have e1 : s_lose M 1 = (-11, sup M 0 21 1) := by unfold s_lose; rw [if_pos (by decide), if_pos (show M 10 (1 : Int).toNat = 0 from (show M 10 1 = 0 by omega))]
      exact ⟨_, rfl, by rw [e1]; rfl, by rw [e1]; exact ic_find c 1⟩
  · skip
    obtain ⟨k1, k2, k3, k4⟩ := gh1.2.2.1
    obtain ⟨w1, w2, w3, w4⟩ := wf_sh hw 2 (by decide)
    refine r_aload_n dX8_lose_0 rfl ?_
    refine r_iload_n dX8_lose_1 rfl ?_
    refine i_cvP (c_sheetOf_2 σ) lmX8_223 dX8_lose_2 (Nat.le_of_ble_eq_true rfl) rfl ⟨_, _, rfl⟩ (by decide) (by decide) rfl rfl (Nat.le_of_ble_eq_true rfl) ?_
    refine r_astore_n dX8_lose_5 (Nat.le_of_ble_eq_true rfl) ?_
    refine r_aload_n dX8_lose_6 rfl ?_
    refine r_ifnonnull 13 dX8_lose_7 rfl ?_
    refine r_aload_n dX8_lose_13 rfl ?_
    refine r_get (k := 26) lfX8_227 dX8_lose_14 (Nat.le_of_ble_eq_true rfl) rfl rfl ?_
    refine i_if_eq 26 dX8_lose_17 rfl ⟨by omega, by omega⟩ (fun q17 => ?_) (fun q17 => ?_)
    · skip
      refine r_aload_n dX8_lose_26 rfl ?_
      refine i_const dX8_lose_27 ?_
      refine r_put (k := 26) lpX8_227 dX8_lose_28 (Nat.le_of_ble_eq_true rfl) rfl rfl rfl rfl ?_
      refine r_aload_n dX8_lose_31 rfl ?_
      refine r_get (k := 26) lfX8_234 dX8_lose_32 (Nat.le_of_ble_eq_true rfl) rfl rfl ?_
      refine r_iret rfl dX8_lose_35 ?_
      have e1 : s_lose M 2 = (M 12 2, sup M 10 2 0) := by unfold s_lose; rw [if_pos (by decide), if_neg (show ¬ M 10 (2 : Int).toNat = 0 from (show ¬ M 10 2 = 0 by omega))]; rfl
      rw [sup_i _ _ _ _ (show 3 ≠ 1 by decide), k3]
      refine ⟨_, rfl, by rw [e1], ?_⟩
      rw [e1]
      dsimp only
      have F : ∀ k i, k ≠ 26 → k ≠ 27 → sup σ 26 1 1 k i = σ k i := fun k i h _ => sup_k _ _ _ _ _ h
      have E10 : ∀ u, u ≠ 2 → sup M 10 2 0 10 u = M 10 u := fun u hu => sup_i _ _ _ _ hu
      have E11 : ∀ u, u ≠ 2 → sup M 10 2 0 11 u = M 11 u := fun _ _ => rfl
      have E12 : ∀ u, u ≠ 2 → sup M 10 2 0 12 u = M 12 u := fun _ _ => rfl
      have E13 : ∀ u i, u ≠ 2 → i < 48 → sup M 10 2 0 13 (48 * u + i) = M 13 (48 * u + i) := fun _ _ _ _ => rfl
      exact ic_sheet c ⟨gs1_o gh1.1 (fun i => F 22 i (by decide) (by decide)) (fun i => F 23 i (by decide) (by decide)) (E10 0 (by decide)) (E11 0 (by decide)) (E12 0 (by decide)) (fun i hi => E13 0 i (by decide) hi), gs1_o gh1.2.1 (fun i => F 24 i (by decide) (by decide)) (fun i => F 25 i (by decide) (by decide)) (E10 1 (by decide)) (E11 1 (by decide)) (E12 1 (by decide)) (fun i hi => E13 1 i (by decide) hi), ⟨by rw [sup_h, sup_h]; decide, by rw [sup_i _ _ _ _ (show 2 ≠ 1 by decide)]; exact k2, by rw [sup_i _ _ _ _ (show 3 ≠ 1 by decide)]; exact k3, fun i hi => k4 i hi⟩, gs1_o gh1.2.2.2 (fun i => F 28 i (by decide) (by decide)) (fun i => F 29 i (by decide) (by decide)) (E10 3 (by decide)) (E11 3 (by decide)) (E12 3 (by decide)) (fun i hi => E13 3 i (by decide) hi)⟩ (fun k i h => sup_k _ _ _ _ _ (by omega)) (fun k h => sup_ne _ _ _ (by omega))
    · skip
      refine r_aload_n dX8_lose_20 rfl ?_
      refine i_const dX8_lose_21 ?_
      refine i_cvI (c_find σ 1) lmX8_231 dX8_lose_22 (Nat.le_of_ble_eq_true rfl) rfl ⟨_, _, rfl⟩ (by decide) (by decide) rfl rfl (Nat.le_of_ble_eq_true rfl) (fun z1 σ1 hf => ?_)
      obtain ⟨rfl, rfl⟩ := hf
      refine r_iret rfl dX8_lose_25 ?_
      have e1 : s_lose M 2 = (-11, sup M 0 21 1) := by unfold s_lose; rw [if_pos (by decide), if_pos (show M 10 (2 : Int).toNat = 0 from (show M 10 2 = 0 by omega))]
      exact ⟨_, rfl, by rw [e1]; rfl, by rw [e1]; exact ic_find c 1⟩
  · skip
    obtain ⟨k1, k2, k3, k4⟩ := gh1.2.2.2
    obtain ⟨w1, w2, w3, w4⟩ := wf_sh hw 3 (by decide)
    refine r_aload_n dX8_lose_0 rfl ?_
    refine r_iload_n dX8_lose_1 rfl ?_
    refine i_cvP (c_sheetOf_3 σ) lmX8_223 dX8_lose_2 (Nat.le_of_ble_eq_true rfl) rfl ⟨_, _, rfl⟩ (by decide) (by decide) rfl rfl (Nat.le_of_ble_eq_true rfl) ?_
    refine r_astore_n dX8_lose_5 (Nat.le_of_ble_eq_true rfl) ?_
    refine r_aload_n dX8_lose_6 rfl ?_
    refine r_ifnonnull 13 dX8_lose_7 rfl ?_
    refine r_aload_n dX8_lose_13 rfl ?_
    refine r_get (k := 28) lfX8_227 dX8_lose_14 (Nat.le_of_ble_eq_true rfl) rfl rfl ?_
    refine i_if_eq 26 dX8_lose_17 rfl ⟨by omega, by omega⟩ (fun q17 => ?_) (fun q17 => ?_)
    · skip
      refine r_aload_n dX8_lose_26 rfl ?_
      refine i_const dX8_lose_27 ?_
      refine r_put (k := 28) lpX8_227 dX8_lose_28 (Nat.le_of_ble_eq_true rfl) rfl rfl rfl rfl ?_
      refine r_aload_n dX8_lose_31 rfl ?_
      refine r_get (k := 28) lfX8_234 dX8_lose_32 (Nat.le_of_ble_eq_true rfl) rfl rfl ?_
      refine r_iret rfl dX8_lose_35 ?_
      have e1 : s_lose M 3 = (M 12 3, sup M 10 3 0) := by unfold s_lose; rw [if_pos (by decide), if_neg (show ¬ M 10 (3 : Int).toNat = 0 from (show ¬ M 10 3 = 0 by omega))]; rfl
      rw [sup_i _ _ _ _ (show 3 ≠ 1 by decide), k3]
      refine ⟨_, rfl, by rw [e1], ?_⟩
      rw [e1]
      dsimp only
      have F : ∀ k i, k ≠ 28 → k ≠ 29 → sup σ 28 1 1 k i = σ k i := fun k i h _ => sup_k _ _ _ _ _ h
      have E10 : ∀ u, u ≠ 3 → sup M 10 3 0 10 u = M 10 u := fun u hu => sup_i _ _ _ _ hu
      have E11 : ∀ u, u ≠ 3 → sup M 10 3 0 11 u = M 11 u := fun _ _ => rfl
      have E12 : ∀ u, u ≠ 3 → sup M 10 3 0 12 u = M 12 u := fun _ _ => rfl
      have E13 : ∀ u i, u ≠ 3 → i < 48 → sup M 10 3 0 13 (48 * u + i) = M 13 (48 * u + i) := fun _ _ _ _ => rfl
      exact ic_sheet c ⟨gs1_o gh1.1 (fun i => F 22 i (by decide) (by decide)) (fun i => F 23 i (by decide) (by decide)) (E10 0 (by decide)) (E11 0 (by decide)) (E12 0 (by decide)) (fun i hi => E13 0 i (by decide) hi), gs1_o gh1.2.1 (fun i => F 24 i (by decide) (by decide)) (fun i => F 25 i (by decide) (by decide)) (E10 1 (by decide)) (E11 1 (by decide)) (E12 1 (by decide)) (fun i hi => E13 1 i (by decide) hi), gs1_o gh1.2.2.1 (fun i => F 26 i (by decide) (by decide)) (fun i => F 27 i (by decide) (by decide)) (E10 2 (by decide)) (E11 2 (by decide)) (E12 2 (by decide)) (fun i hi => E13 2 i (by decide) hi), ⟨by rw [sup_h, sup_h]; decide, by rw [sup_i _ _ _ _ (show 2 ≠ 1 by decide)]; exact k2, by rw [sup_i _ _ _ _ (show 3 ≠ 1 by decide)]; exact k3, fun i hi => k4 i hi⟩⟩ (fun k i h => sup_k _ _ _ _ _ (by omega)) (fun k h => sup_ne _ _ _ (by omega))
    · skip
      refine r_aload_n dX8_lose_20 rfl ?_
      refine i_const dX8_lose_21 ?_
      refine i_cvI (c_find σ 1) lmX8_231 dX8_lose_22 (Nat.le_of_ble_eq_true rfl) rfl ⟨_, _, rfl⟩ (by decide) (by decide) rfl rfl (Nat.le_of_ble_eq_true rfl) (fun z1 σ1 hf => ?_)
      obtain ⟨rfl, rfl⟩ := hf
      refine r_iret rfl dX8_lose_25 ?_
      have e1 : s_lose M 3 = (-11, sup M 0 21 1) := by unfold s_lose; rw [if_pos (by decide), if_pos (show M 10 (3 : Int).toNat = 0 from (show M 10 3 = 0 by omega))]
      exact ⟨_, rfl, by rw [e1]; rfl, by rw [e1]; exact ic_find c 1⟩
  · skip
    skip
    refine r_aload_n dX8_lose_0 rfl ?_
    refine r_iload_n dX8_lose_1 rfl ?_
    refine i_cvP (c_sheetOf_n σ s hs n0) lmX8_223 dX8_lose_2 (Nat.le_of_ble_eq_true rfl) rfl ⟨_, _, rfl⟩ (by decide) (by decide) rfl rfl (Nat.le_of_ble_eq_true rfl) ?_
    refine r_astore_nN dX8_lose_5 (Nat.le_of_ble_eq_true rfl) ?_
    refine r_aload_nN dX8_lose_6 rfl ?_
    refine r_ifnonnullN dX8_lose_7 ?_
    refine i_bipush dX8_lose_10 (by decide) ?_
    refine r_iret rfl dX8_lose_12 ?_
    exact ⟨_, rfl, by unfold s_lose; rw [if_neg (by omega)], by unfold s_lose; rw [if_neg (by omega)]; exact c⟩

set_option maxRecDepth 20000 in
theorem c_put (M σ : rl_S) (c : IC M σ) (hw : WF M) (s f i v : Int) (hs : -2147483648 ≤ s ∧ s < 2147483648) (hi : -2147483648 ≤ i ∧ i < 2147483648) (hv : -2147483648 ≤ v ∧ v < 2147483648) (hf0 : -2147483648 ≤ f ∧ f < 2147483648) : Ct cW mX8_put [.ref 0, .int (iI s), .int (iI f), .int (iI i), .int (iI v)] σ (qI (fun z σ' => z = (s_put M s f i v).1 ∧ IC (s_put M s f i v).2 σ')) := by
  refine Ct.of plX8 (Nat.le_of_ble_eq_true rfl) ?_
  obtain ⟨gt, gs, gp, gg, gn, gh1, gf⟩ := id c
  have hb := wf_hb hw
  have hh := gs.2.2.2.2
  have ob1 := ob_bd (decide (0 ≤ f ∧ f ≤ 2))
  rcases (show s = 0 ∨ s = 1 ∨ s = 2 ∨ s = 3 ∨ (s < 0 ∨ 3 < s) by omega) with rfl | rfl | rfl | rfl | n0
  · skip
    obtain ⟨k1, k2, k3, k4⟩ := gh1.1
    obtain ⟨w1, w2, w3, w4⟩ := wf_sh hw 0 (by decide)
    refine r_aload_n dX8_put_0 rfl ?_
    refine r_iload_n dX8_put_1 rfl ?_
    refine i_cvP (c_sheetOf_0 σ) lmX8_223 dX8_put_2 (Nat.le_of_ble_eq_true rfl) rfl ⟨_, _, rfl⟩ (by decide) (by decide) rfl rfl (Nat.le_of_ble_eq_true rfl) ?_
    refine r_astore dX8_put_5 (Nat.le_of_ble_eq_true rfl) ?_
    refine r_aload dX8_put_7 rfl ?_
    refine r_ifnull dX8_put_9 ?_
    refine r_iload_n dX8_put_12 rfl ?_
    refine i_csP (c_isForm σ f hf0) lmX8_253 dX8_put_13 (by decide) (by decide) rfl rfl (Nat.le_of_ble_eq_true rfl) ?_
    refine i_if_ne 22 dX8_put_16 rfl ⟨by omega, by omega⟩ (fun q16 => ?_) (fun q16 => ?_)
    · have e16 := ob_dt q16
      refine r_aload dX8_put_22 rfl ?_
      refine r_iload_n dX8_put_24 rfl ?_
      refine r_iload_n dX8_put_25 rfl ?_
      refine i_cvP (c_trouble_22 σ (by omega) (by omega) (by omega) f i hf0 hi) lmX8_259 dX8_put_26 (Nat.le_of_ble_eq_true rfl) rfl ⟨_, _, rfl⟩ (by decide) (by decide) rfl rfl (Nat.le_of_ble_eq_true rfl) ?_
      have tb := trb_bd (1 - M 10 0) (M 11 0) (M 12 0) f i
      rw [k1, k2, k3]
      change Rn cW mX8_put 29 _ [.int (iI (trM M 0 f i))] _ _
      change 0 ≤ trM M 0 f i ∧ trM M 0 f i ≤ 3 at tb
      refine r_istore dX8_put_29 (Nat.le_of_ble_eq_true rfl) ?_
      refine r_iload dX8_put_31 rfl ?_
      refine i_if_eq 43 dX8_put_33 rfl ⟨by omega, by omega⟩ (fun q33 => ?_) (fun q33 => ?_)
      · skip
        refine r_aload dX8_put_43 rfl ?_
        refine r_iload_n dX8_put_45 rfl ?_
        refine r_iload dX8_put_46 rfl ?_
        refine i_cvV (c_store_22 σ (by omega) i v (by have := trb_0 (show trb (1 - M 10 0) (M 11 0) (M 12 0) f i = 0 from q33); omega) (by have := trb_0 (show trb (1 - M 10 0) (M 11 0) (M 12 0) f i = 0 from q33); omega)) lmX8_262 dX8_put_48 (Nat.le_of_ble_eq_true rfl) rfl ⟨_, _, rfl⟩ (by decide) (by decide) rfl rfl (Nat.le_of_ble_eq_true rfl) (fun σ1 hr => ?_)
        refine i_const dX8_put_51 ?_
        refine r_iret rfl dX8_put_52 ?_
        subst hr
        have h0 := trb_0 (show trb (1 - M 10 0) (M 11 0) (M 12 0) f i = 0 from q33)
        have e1 : s_put M 0 f i v = (1, sup M 13 (48 * 0 + i.toNat) (nar (M 11 0) v)) := by unfold s_put; rw [if_pos ⟨by decide, by omega⟩, if_neg (show ¬ (trM M 0 f i ≠ 0) from fun z => z q33)]; rfl
        refine ⟨_, rfl, by rw [e1], ?_⟩
        rw [e1]
        dsimp only
        have F : ∀ k x, k ≠ 22 → k ≠ 23 → sup σ 23 i.toNat (nar (σ 22 2) v) k x = σ k x := fun k x _ h => sup_k _ _ _ _ _ h
        have E10 : ∀ u, u ≠ 0 → sup M 13 (48 * 0 + i.toNat) (nar (M 11 0) v) 10 u = M 10 u := fun _ _ => rfl
        have E11 : ∀ u, u ≠ 0 → sup M 13 (48 * 0 + i.toNat) (nar (M 11 0) v) 11 u = M 11 u := fun _ _ => rfl
        have E12 : ∀ u, u ≠ 0 → sup M 13 (48 * 0 + i.toNat) (nar (M 11 0) v) 12 u = M 12 u := fun _ _ => rfl
        have E13 : ∀ u x, u ≠ 0 → x < 48 → sup M 13 (48 * 0 + i.toNat) (nar (M 11 0) v) 13 (48 * u + x) = M 13 (48 * u + x) := fun u x hu hx => sup_i _ _ _ _ (by omega)
        exact ic_sheet c ⟨⟨k1, k2, k3, fun x hx => by
            by_cases hz : x = i.toNat
            · subst hz; rw [sup_h, sup_h, k2]
            · rw [sup_i _ _ _ _ hz, sup_i _ _ _ _ (by omega)]; exact k4 x hx⟩, gs1_o gh1.2.1 (fun i => F 24 i (by decide) (by decide)) (fun i => F 25 i (by decide) (by decide)) (E10 1 (by decide)) (E11 1 (by decide)) (E12 1 (by decide)) (fun i hi => E13 1 i (by decide) hi), gs1_o gh1.2.2.1 (fun i => F 26 i (by decide) (by decide)) (fun i => F 27 i (by decide) (by decide)) (E10 2 (by decide)) (E11 2 (by decide)) (E12 2 (by decide)) (fun i hi => E13 2 i (by decide) hi), gs1_o gh1.2.2.2 (fun i => F 28 i (by decide) (by decide)) (fun i => F 29 i (by decide) (by decide)) (E10 3 (by decide)) (E11 3 (by decide)) (E12 3 (by decide)) (fun i hi => E13 3 i (by decide) hi)⟩ (fun k x h => sup_k _ _ _ _ _ (by omega)) (fun k h => sup_ne _ _ _ (by omega))
      · skip
        refine r_aload_n dX8_put_36 rfl ?_
        refine r_iload dX8_put_37 rfl ?_
        refine i_cvI (c_find σ (trM M 0 f i)) lmX8_231 dX8_put_39 (Nat.le_of_ble_eq_true rfl) rfl ⟨_, _, rfl⟩ (by decide) (by decide) rfl rfl (Nat.le_of_ble_eq_true rfl) (fun z1 σ1 hf => ?_)
        obtain ⟨rfl, rfl⟩ := hf
        refine r_iret rfl dX8_put_42 ?_
        have e1 : s_put M 0 f i v = (-10 - trM M 0 f i, sup M 0 21 (trM M 0 f i)) := by unfold s_put; rw [if_pos ⟨by decide, by omega⟩, if_pos q33]
        exact ⟨_, rfl, by rw [e1], by rw [e1]; exact ic_find c _⟩
    · have e16 := ob_df q16
      refine i_bipush dX8_put_19 (by decide) ?_
      refine r_iret rfl dX8_put_21 ?_
      exact ⟨_, rfl, by unfold s_put; rw [if_neg (by omega)], by unfold s_put; rw [if_neg (by omega)]; exact c⟩
  · skip
    obtain ⟨k1, k2, k3, k4⟩ := gh1.2.1
    obtain ⟨w1, w2, w3, w4⟩ := wf_sh hw 1 (by decide)
    refine r_aload_n dX8_put_0 rfl ?_
    refine r_iload_n dX8_put_1 rfl ?_
    refine i_cvP (c_sheetOf_1 σ) lmX8_223 dX8_put_2 (Nat.le_of_ble_eq_true rfl) rfl ⟨_, _, rfl⟩ (by decide) (by decide) rfl rfl (Nat.le_of_ble_eq_true rfl) ?_
    refine r_astore dX8_put_5 (Nat.le_of_ble_eq_true rfl) ?_
    refine r_aload dX8_put_7 rfl ?_
    refine r_ifnull dX8_put_9 ?_
    refine r_iload_n dX8_put_12 rfl ?_
    refine i_csP (c_isForm σ f hf0) lmX8_253 dX8_put_13 (by decide) (by decide) rfl rfl (Nat.le_of_ble_eq_true rfl) ?_
    refine i_if_ne 22 dX8_put_16 rfl ⟨by omega, by omega⟩ (fun q16 => ?_) (fun q16 => ?_)
    · have e16 := ob_dt q16
      refine r_aload dX8_put_22 rfl ?_
      refine r_iload_n dX8_put_24 rfl ?_
      refine r_iload_n dX8_put_25 rfl ?_
      refine i_cvP (c_trouble_24 σ (by omega) (by omega) (by omega) f i hf0 hi) lmX8_259 dX8_put_26 (Nat.le_of_ble_eq_true rfl) rfl ⟨_, _, rfl⟩ (by decide) (by decide) rfl rfl (Nat.le_of_ble_eq_true rfl) ?_
      have tb := trb_bd (1 - M 10 1) (M 11 1) (M 12 1) f i
      rw [k1, k2, k3]
      change Rn cW mX8_put 29 _ [.int (iI (trM M 1 f i))] _ _
      change 0 ≤ trM M 1 f i ∧ trM M 1 f i ≤ 3 at tb
      refine r_istore dX8_put_29 (Nat.le_of_ble_eq_true rfl) ?_
      refine r_iload dX8_put_31 rfl ?_
      refine i_if_eq 43 dX8_put_33 rfl ⟨by omega, by omega⟩ (fun q33 => ?_) (fun q33 => ?_)
      · skip
        refine r_aload dX8_put_43 rfl ?_
        refine r_iload_n dX8_put_45 rfl ?_
        refine r_iload dX8_put_46 rfl ?_
        refine i_cvV (c_store_24 σ (by omega) i v (by have := trb_0 (show trb (1 - M 10 1) (M 11 1) (M 12 1) f i = 0 from q33); omega) (by have := trb_0 (show trb (1 - M 10 1) (M 11 1) (M 12 1) f i = 0 from q33); omega)) lmX8_262 dX8_put_48 (Nat.le_of_ble_eq_true rfl) rfl ⟨_, _, rfl⟩ (by decide) (by decide) rfl rfl (Nat.le_of_ble_eq_true rfl) (fun σ1 hr => ?_)
        refine i_const dX8_put_51 ?_
        refine r_iret rfl dX8_put_52 ?_
        subst hr
        have h0 := trb_0 (show trb (1 - M 10 1) (M 11 1) (M 12 1) f i = 0 from q33)
        have e1 : s_put M 1 f i v = (1, sup M 13 (48 * 1 + i.toNat) (nar (M 11 1) v)) := by unfold s_put; rw [if_pos ⟨by decide, by omega⟩, if_neg (show ¬ (trM M 1 f i ≠ 0) from fun z => z q33)]; rfl
        refine ⟨_, rfl, by rw [e1], ?_⟩
        rw [e1]
        dsimp only
        have F : ∀ k x, k ≠ 24 → k ≠ 25 → sup σ 25 i.toNat (nar (σ 24 2) v) k x = σ k x := fun k x _ h => sup_k _ _ _ _ _ h
        have E10 : ∀ u, u ≠ 1 → sup M 13 (48 * 1 + i.toNat) (nar (M 11 1) v) 10 u = M 10 u := fun _ _ => rfl
        have E11 : ∀ u, u ≠ 1 → sup M 13 (48 * 1 + i.toNat) (nar (M 11 1) v) 11 u = M 11 u := fun _ _ => rfl
        have E12 : ∀ u, u ≠ 1 → sup M 13 (48 * 1 + i.toNat) (nar (M 11 1) v) 12 u = M 12 u := fun _ _ => rfl
        have E13 : ∀ u x, u ≠ 1 → x < 48 → sup M 13 (48 * 1 + i.toNat) (nar (M 11 1) v) 13 (48 * u + x) = M 13 (48 * u + x) := fun u x hu hx => sup_i _ _ _ _ (by omega)
        exact ic_sheet c ⟨gs1_o gh1.1 (fun i => F 22 i (by decide) (by decide)) (fun i => F 23 i (by decide) (by decide)) (E10 0 (by decide)) (E11 0 (by decide)) (E12 0 (by decide)) (fun i hi => E13 0 i (by decide) hi), ⟨k1, k2, k3, fun x hx => by
            by_cases hz : x = i.toNat
            · subst hz; rw [sup_h, sup_h, k2]
            · rw [sup_i _ _ _ _ hz, sup_i _ _ _ _ (by omega)]; exact k4 x hx⟩, gs1_o gh1.2.2.1 (fun i => F 26 i (by decide) (by decide)) (fun i => F 27 i (by decide) (by decide)) (E10 2 (by decide)) (E11 2 (by decide)) (E12 2 (by decide)) (fun i hi => E13 2 i (by decide) hi), gs1_o gh1.2.2.2 (fun i => F 28 i (by decide) (by decide)) (fun i => F 29 i (by decide) (by decide)) (E10 3 (by decide)) (E11 3 (by decide)) (E12 3 (by decide)) (fun i hi => E13 3 i (by decide) hi)⟩ (fun k x h => sup_k _ _ _ _ _ (by omega)) (fun k h => sup_ne _ _ _ (by omega))
      · skip
        refine r_aload_n dX8_put_36 rfl ?_
        refine r_iload dX8_put_37 rfl ?_
        refine i_cvI (c_find σ (trM M 1 f i)) lmX8_231 dX8_put_39 (Nat.le_of_ble_eq_true rfl) rfl ⟨_, _, rfl⟩ (by decide) (by decide) rfl rfl (Nat.le_of_ble_eq_true rfl) (fun z1 σ1 hf => ?_)
        obtain ⟨rfl, rfl⟩ := hf
        refine r_iret rfl dX8_put_42 ?_
        have e1 : s_put M 1 f i v = (-10 - trM M 1 f i, sup M 0 21 (trM M 1 f i)) := by unfold s_put; rw [if_pos ⟨by decide, by omega⟩, if_pos q33]
        exact ⟨_, rfl, by rw [e1], by rw [e1]; exact ic_find c _⟩
    · have e16 := ob_df q16
      refine i_bipush dX8_put_19 (by decide) ?_
      refine r_iret rfl dX8_put_21 ?_
      exact ⟨_, rfl, by unfold s_put; rw [if_neg (by omega)], by unfold s_put; rw [if_neg (by omega)]; exact c⟩
  · skip
    obtain ⟨k1, k2, k3, k4⟩ := gh1.2.2.1
    obtain ⟨w1, w2, w3, w4⟩ := wf_sh hw 2 (by decide)
    refine r_aload_n dX8_put_0 rfl ?_
    refine r_iload_n dX8_put_1 rfl ?_
    refine i_cvP (c_sheetOf_2 σ) lmX8_223 dX8_put_2 (Nat.le_of_ble_eq_true rfl) rfl ⟨_, _, rfl⟩ (by decide) (by decide) rfl rfl (Nat.le_of_ble_eq_true rfl) ?_
    refine r_astore dX8_put_5 (Nat.le_of_ble_eq_true rfl) ?_
    refine r_aload dX8_put_7 rfl ?_
    refine r_ifnull dX8_put_9 ?_
    refine r_iload_n dX8_put_12 rfl ?_
    refine i_csP (c_isForm σ f hf0) lmX8_253 dX8_put_13 (by decide) (by decide) rfl rfl (Nat.le_of_ble_eq_true rfl) ?_
    refine i_if_ne 22 dX8_put_16 rfl ⟨by omega, by omega⟩ (fun q16 => ?_) (fun q16 => ?_)
    · have e16 := ob_dt q16
      refine r_aload dX8_put_22 rfl ?_
      refine r_iload_n dX8_put_24 rfl ?_
      refine r_iload_n dX8_put_25 rfl ?_
      refine i_cvP (c_trouble_26 σ (by omega) (by omega) (by omega) f i hf0 hi) lmX8_259 dX8_put_26 (Nat.le_of_ble_eq_true rfl) rfl ⟨_, _, rfl⟩ (by decide) (by decide) rfl rfl (Nat.le_of_ble_eq_true rfl) ?_
      have tb := trb_bd (1 - M 10 2) (M 11 2) (M 12 2) f i
      rw [k1, k2, k3]
      change Rn cW mX8_put 29 _ [.int (iI (trM M 2 f i))] _ _
      change 0 ≤ trM M 2 f i ∧ trM M 2 f i ≤ 3 at tb
      refine r_istore dX8_put_29 (Nat.le_of_ble_eq_true rfl) ?_
      refine r_iload dX8_put_31 rfl ?_
      refine i_if_eq 43 dX8_put_33 rfl ⟨by omega, by omega⟩ (fun q33 => ?_) (fun q33 => ?_)
      · skip
        refine r_aload dX8_put_43 rfl ?_
        refine r_iload_n dX8_put_45 rfl ?_
        refine r_iload dX8_put_46 rfl ?_
        refine i_cvV (c_store_26 σ (by omega) i v (by have := trb_0 (show trb (1 - M 10 2) (M 11 2) (M 12 2) f i = 0 from q33); omega) (by have := trb_0 (show trb (1 - M 10 2) (M 11 2) (M 12 2) f i = 0 from q33); omega)) lmX8_262 dX8_put_48 (Nat.le_of_ble_eq_true rfl) rfl ⟨_, _, rfl⟩ (by decide) (by decide) rfl rfl (Nat.le_of_ble_eq_true rfl) (fun σ1 hr => ?_)
        refine i_const dX8_put_51 ?_
        refine r_iret rfl dX8_put_52 ?_
        subst hr
        have h0 := trb_0 (show trb (1 - M 10 2) (M 11 2) (M 12 2) f i = 0 from q33)
        have e1 : s_put M 2 f i v = (1, sup M 13 (48 * 2 + i.toNat) (nar (M 11 2) v)) := by unfold s_put; rw [if_pos ⟨by decide, by omega⟩, if_neg (show ¬ (trM M 2 f i ≠ 0) from fun z => z q33)]; rfl
        refine ⟨_, rfl, by rw [e1], ?_⟩
        rw [e1]
        dsimp only
        have F : ∀ k x, k ≠ 26 → k ≠ 27 → sup σ 27 i.toNat (nar (σ 26 2) v) k x = σ k x := fun k x _ h => sup_k _ _ _ _ _ h
        have E10 : ∀ u, u ≠ 2 → sup M 13 (48 * 2 + i.toNat) (nar (M 11 2) v) 10 u = M 10 u := fun _ _ => rfl
        have E11 : ∀ u, u ≠ 2 → sup M 13 (48 * 2 + i.toNat) (nar (M 11 2) v) 11 u = M 11 u := fun _ _ => rfl
        have E12 : ∀ u, u ≠ 2 → sup M 13 (48 * 2 + i.toNat) (nar (M 11 2) v) 12 u = M 12 u := fun _ _ => rfl
        have E13 : ∀ u x, u ≠ 2 → x < 48 → sup M 13 (48 * 2 + i.toNat) (nar (M 11 2) v) 13 (48 * u + x) = M 13 (48 * u + x) := fun u x hu hx => sup_i _ _ _ _ (by omega)
        exact ic_sheet c ⟨gs1_o gh1.1 (fun i => F 22 i (by decide) (by decide)) (fun i => F 23 i (by decide) (by decide)) (E10 0 (by decide)) (E11 0 (by decide)) (E12 0 (by decide)) (fun i hi => E13 0 i (by decide) hi), gs1_o gh1.2.1 (fun i => F 24 i (by decide) (by decide)) (fun i => F 25 i (by decide) (by decide)) (E10 1 (by decide)) (E11 1 (by decide)) (E12 1 (by decide)) (fun i hi => E13 1 i (by decide) hi), ⟨k1, k2, k3, fun x hx => by
            by_cases hz : x = i.toNat
            · subst hz; rw [sup_h, sup_h, k2]
            · rw [sup_i _ _ _ _ hz, sup_i _ _ _ _ (by omega)]; exact k4 x hx⟩, gs1_o gh1.2.2.2 (fun i => F 28 i (by decide) (by decide)) (fun i => F 29 i (by decide) (by decide)) (E10 3 (by decide)) (E11 3 (by decide)) (E12 3 (by decide)) (fun i hi => E13 3 i (by decide) hi)⟩ (fun k x h => sup_k _ _ _ _ _ (by omega)) (fun k h => sup_ne _ _ _ (by omega))
      · skip
        refine r_aload_n dX8_put_36 rfl ?_
        refine r_iload dX8_put_37 rfl ?_
        refine i_cvI (c_find σ (trM M 2 f i)) lmX8_231 dX8_put_39 (Nat.le_of_ble_eq_true rfl) rfl ⟨_, _, rfl⟩ (by decide) (by decide) rfl rfl (Nat.le_of_ble_eq_true rfl) (fun z1 σ1 hf => ?_)
        obtain ⟨rfl, rfl⟩ := hf
        refine r_iret rfl dX8_put_42 ?_
        have e1 : s_put M 2 f i v = (-10 - trM M 2 f i, sup M 0 21 (trM M 2 f i)) := by unfold s_put; rw [if_pos ⟨by decide, by omega⟩, if_pos q33]
        exact ⟨_, rfl, by rw [e1], by rw [e1]; exact ic_find c _⟩
    · have e16 := ob_df q16
      refine i_bipush dX8_put_19 (by decide) ?_
      refine r_iret rfl dX8_put_21 ?_
      exact ⟨_, rfl, by unfold s_put; rw [if_neg (by omega)], by unfold s_put; rw [if_neg (by omega)]; exact c⟩
  · skip
    obtain ⟨k1, k2, k3, k4⟩ := gh1.2.2.2
    obtain ⟨w1, w2, w3, w4⟩ := wf_sh hw 3 (by decide)
    refine r_aload_n dX8_put_0 rfl ?_
    refine r_iload_n dX8_put_1 rfl ?_
    refine i_cvP (c_sheetOf_3 σ) lmX8_223 dX8_put_2 (Nat.le_of_ble_eq_true rfl) rfl ⟨_, _, rfl⟩ (by decide) (by decide) rfl rfl (Nat.le_of_ble_eq_true rfl) ?_
    refine r_astore dX8_put_5 (Nat.le_of_ble_eq_true rfl) ?_
    refine r_aload dX8_put_7 rfl ?_
    refine r_ifnull dX8_put_9 ?_
    refine r_iload_n dX8_put_12 rfl ?_
    refine i_csP (c_isForm σ f hf0) lmX8_253 dX8_put_13 (by decide) (by decide) rfl rfl (Nat.le_of_ble_eq_true rfl) ?_
    refine i_if_ne 22 dX8_put_16 rfl ⟨by omega, by omega⟩ (fun q16 => ?_) (fun q16 => ?_)
    · have e16 := ob_dt q16
      refine r_aload dX8_put_22 rfl ?_
      refine r_iload_n dX8_put_24 rfl ?_
      refine r_iload_n dX8_put_25 rfl ?_
      refine i_cvP (c_trouble_28 σ (by omega) (by omega) (by omega) f i hf0 hi) lmX8_259 dX8_put_26 (Nat.le_of_ble_eq_true rfl) rfl ⟨_, _, rfl⟩ (by decide) (by decide) rfl rfl (Nat.le_of_ble_eq_true rfl) ?_
      have tb := trb_bd (1 - M 10 3) (M 11 3) (M 12 3) f i
      rw [k1, k2, k3]
      change Rn cW mX8_put 29 _ [.int (iI (trM M 3 f i))] _ _
      change 0 ≤ trM M 3 f i ∧ trM M 3 f i ≤ 3 at tb
      refine r_istore dX8_put_29 (Nat.le_of_ble_eq_true rfl) ?_
      refine r_iload dX8_put_31 rfl ?_
      refine i_if_eq 43 dX8_put_33 rfl ⟨by omega, by omega⟩ (fun q33 => ?_) (fun q33 => ?_)
      · skip
        refine r_aload dX8_put_43 rfl ?_
        refine r_iload_n dX8_put_45 rfl ?_
        refine r_iload dX8_put_46 rfl ?_
        refine i_cvV (c_store_28 σ (by omega) i v (by have := trb_0 (show trb (1 - M 10 3) (M 11 3) (M 12 3) f i = 0 from q33); omega) (by have := trb_0 (show trb (1 - M 10 3) (M 11 3) (M 12 3) f i = 0 from q33); omega)) lmX8_262 dX8_put_48 (Nat.le_of_ble_eq_true rfl) rfl ⟨_, _, rfl⟩ (by decide) (by decide) rfl rfl (Nat.le_of_ble_eq_true rfl) (fun σ1 hr => ?_)
        refine i_const dX8_put_51 ?_
        refine r_iret rfl dX8_put_52 ?_
        subst hr
        have h0 := trb_0 (show trb (1 - M 10 3) (M 11 3) (M 12 3) f i = 0 from q33)
        have e1 : s_put M 3 f i v = (1, sup M 13 (48 * 3 + i.toNat) (nar (M 11 3) v)) := by unfold s_put; rw [if_pos ⟨by decide, by omega⟩, if_neg (show ¬ (trM M 3 f i ≠ 0) from fun z => z q33)]; rfl
        refine ⟨_, rfl, by rw [e1], ?_⟩
        rw [e1]
        dsimp only
        have F : ∀ k x, k ≠ 28 → k ≠ 29 → sup σ 29 i.toNat (nar (σ 28 2) v) k x = σ k x := fun k x _ h => sup_k _ _ _ _ _ h
        have E10 : ∀ u, u ≠ 3 → sup M 13 (48 * 3 + i.toNat) (nar (M 11 3) v) 10 u = M 10 u := fun _ _ => rfl
        have E11 : ∀ u, u ≠ 3 → sup M 13 (48 * 3 + i.toNat) (nar (M 11 3) v) 11 u = M 11 u := fun _ _ => rfl
        have E12 : ∀ u, u ≠ 3 → sup M 13 (48 * 3 + i.toNat) (nar (M 11 3) v) 12 u = M 12 u := fun _ _ => rfl
        have E13 : ∀ u x, u ≠ 3 → x < 48 → sup M 13 (48 * 3 + i.toNat) (nar (M 11 3) v) 13 (48 * u + x) = M 13 (48 * u + x) := fun u x hu hx => sup_i _ _ _ _ (by omega)
        exact ic_sheet c ⟨gs1_o gh1.1 (fun i => F 22 i (by decide) (by decide)) (fun i => F 23 i (by decide) (by decide)) (E10 0 (by decide)) (E11 0 (by decide)) (E12 0 (by decide)) (fun i hi => E13 0 i (by decide) hi), gs1_o gh1.2.1 (fun i => F 24 i (by decide) (by decide)) (fun i => F 25 i (by decide) (by decide)) (E10 1 (by decide)) (E11 1 (by decide)) (E12 1 (by decide)) (fun i hi => E13 1 i (by decide) hi), gs1_o gh1.2.2.1 (fun i => F 26 i (by decide) (by decide)) (fun i => F 27 i (by decide) (by decide)) (E10 2 (by decide)) (E11 2 (by decide)) (E12 2 (by decide)) (fun i hi => E13 2 i (by decide) hi), ⟨k1, k2, k3, fun x hx => by
            by_cases hz : x = i.toNat
            · subst hz; rw [sup_h, sup_h, k2]
            · rw [sup_i _ _ _ _ hz, sup_i _ _ _ _ (by omega)]; exact k4 x hx⟩⟩ (fun k x h => sup_k _ _ _ _ _ (by omega)) (fun k h => sup_ne _ _ _ (by omega))
      · skip
        refine r_aload_n dX8_put_36 rfl ?_
        refine r_iload dX8_put_37 rfl ?_
        refine i_cvI (c_find σ (trM M 3 f i)) lmX8_231 dX8_put_39 (Nat.le_of_ble_eq_true rfl) rfl ⟨_, _, rfl⟩ (by decide) (by decide) rfl rfl (Nat.le_of_ble_eq_true rfl) (fun z1 σ1 hf => ?_)
        obtain ⟨rfl, rfl⟩ := hf
        refine r_iret rfl dX8_put_42 ?_
        have e1 : s_put M 3 f i v = (-10 - trM M 3 f i, sup M 0 21 (trM M 3 f i)) := by unfold s_put; rw [if_pos ⟨by decide, by omega⟩, if_pos q33]
        exact ⟨_, rfl, by rw [e1], by rw [e1]; exact ic_find c _⟩
    · have e16 := ob_df q16
      refine i_bipush dX8_put_19 (by decide) ?_
      refine r_iret rfl dX8_put_21 ?_
      exact ⟨_, rfl, by unfold s_put; rw [if_neg (by omega)], by unfold s_put; rw [if_neg (by omega)]; exact c⟩
  · skip
    skip
    refine r_aload_n dX8_put_0 rfl ?_
    refine r_iload_n dX8_put_1 rfl ?_
    refine i_cvP (c_sheetOf_n σ s hs n0) lmX8_223 dX8_put_2 (Nat.le_of_ble_eq_true rfl) rfl ⟨_, _, rfl⟩ (by decide) (by decide) rfl rfl (Nat.le_of_ble_eq_true rfl) ?_
    refine r_astoreN dX8_put_5 (Nat.le_of_ble_eq_true rfl) ?_
    refine r_aloadN dX8_put_7 rfl ?_
    refine r_ifnullN 19 dX8_put_9 rfl ?_
    refine i_bipush dX8_put_19 (by decide) ?_
    refine r_iret rfl dX8_put_21 ?_
    exact ⟨_, rfl, by unfold s_put; rw [if_neg (by omega)], by unfold s_put; rw [if_neg (by omega)]; exact c⟩

set_option maxRecDepth 20000 in
theorem c_get (M σ : rl_S) (c : IC M σ) (hw : WF M) (s f i : Int) (hs : -2147483648 ≤ s ∧ s < 2147483648) (hi : -2147483648 ≤ i ∧ i < 2147483648) (hf0 : -2147483648 ≤ f ∧ f < 2147483648) : Ct cW mX8_get [.ref 0, .int (iI s), .int (iI f), .int (iI i)] σ (qI (fun z σ' => z = (s_get M s f i).1 ∧ IC (s_get M s f i).2 σ')) := by
  refine Ct.of plX8 (Nat.le_of_ble_eq_true rfl) ?_
  obtain ⟨gt, gs, gp, gg, gn, gh1, gf⟩ := id c
  have hb := wf_hb hw
  have hh := gs.2.2.2.2
  have ob1 := ob_bd (decide (0 ≤ f ∧ f ≤ 2))
  rcases (show s = 0 ∨ s = 1 ∨ s = 2 ∨ s = 3 ∨ (s < 0 ∨ 3 < s) by omega) with rfl | rfl | rfl | rfl | n0
  · skip
    obtain ⟨k1, k2, k3, k4⟩ := gh1.1
    obtain ⟨w1, w2, w3, w4⟩ := wf_sh hw 0 (by decide)
    refine r_aload_n dX8_get_0 rfl ?_
    refine r_iload_n dX8_get_1 rfl ?_
    refine i_cvP (c_sheetOf_0 σ) lmX8_223 dX8_get_2 (Nat.le_of_ble_eq_true rfl) rfl ⟨_, _, rfl⟩ (by decide) (by decide) rfl rfl (Nat.le_of_ble_eq_true rfl) ?_
    refine r_astore dX8_get_5 (Nat.le_of_ble_eq_true rfl) ?_
    refine r_aload dX8_get_7 rfl ?_
    refine r_ifnull dX8_get_9 ?_
    refine r_iload_n dX8_get_12 rfl ?_
    refine i_csP (c_isForm σ f hf0) lmX8_253 dX8_get_13 (by decide) (by decide) rfl rfl (Nat.le_of_ble_eq_true rfl) ?_
    refine i_if_ne 23 dX8_get_16 rfl ⟨by omega, by omega⟩ (fun q16 => ?_) (fun q16 => ?_)
    · have e16 := ob_dt q16
      refine r_aload dX8_get_23 rfl ?_
      refine r_iload_n dX8_get_25 rfl ?_
      refine r_iload_n dX8_get_26 rfl ?_
      refine i_cvP (c_trouble_22 σ (by omega) (by omega) (by omega) f i hf0 hi) lmX8_259 dX8_get_27 (Nat.le_of_ble_eq_true rfl) rfl ⟨_, _, rfl⟩ (by decide) (by decide) rfl rfl (Nat.le_of_ble_eq_true rfl) ?_
      have tb := trb_bd (1 - M 10 0) (M 11 0) (M 12 0) f i
      rw [k1, k2, k3]
      change Rn cW mX8_get 30 _ [.int (iI (trM M 0 f i))] _ _
      change 0 ≤ trM M 0 f i ∧ trM M 0 f i ≤ 3 at tb
      refine r_istore dX8_get_30 (Nat.le_of_ble_eq_true rfl) ?_
      refine r_iload dX8_get_32 rfl ?_
      refine i_if_eq 48 dX8_get_34 rfl ⟨by omega, by omega⟩ (fun q34 => ?_) (fun q34 => ?_)
      · skip
        refine r_aload dX8_get_48 rfl ?_
        refine r_iload_n dX8_get_50 rfl ?_
        refine i_cvP (c_itemAt_22 σ i (by have := trb_0 (show trb (1 - M 10 0) (M 11 0) (M 12 0) f i = 0 from q34); omega) (by have := trb_0 (show trb (1 - M 10 0) (M 11 0) (M 12 0) f i = 0 from q34); omega)) lmX8_235 dX8_get_51 (Nat.le_of_ble_eq_true rfl) rfl ⟨_, _, rfl⟩ (by decide) (by decide) rfl rfl (Nat.le_of_ble_eq_true rfl) ?_
        refine r_iret rfl dX8_get_54 ?_
        have h0 := trb_0 (show trb (1 - M 10 0) (M 11 0) (M 12 0) f i = 0 from q34)
        have e1 : s_get M 0 f i = (M 13 (48 * 0 + i.toNat), M) := by unfold s_get; rw [if_pos ⟨by decide, by omega⟩, if_neg (show ¬ (trM M 0 f i ≠ 0) from fun z => z q34)]; rfl
        exact ⟨_, rfl, by rw [e1, k4 i.toNat (by omega)], by rw [e1]; exact c⟩
      · skip
        refine r_aload_n dX8_get_37 rfl ?_
        refine r_iload dX8_get_38 rfl ?_
        refine i_cvI (c_find σ (trM M 0 f i)) lmX8_231 dX8_get_40 (Nat.le_of_ble_eq_true rfl) rfl ⟨_, _, rfl⟩ (by decide) (by decide) rfl rfl (Nat.le_of_ble_eq_true rfl) (fun z1 σ1 hf => ?_)
        obtain ⟨rfl, rfl⟩ := hf
        refine r_pop dX8_get_43 rfl ?_
        refine i_ldcw lcX8_265 dX8_get_44 ?_
        rw [show (-2147483648 : Int32).toInt = -2147483648 from by decide]
        refine r_iret rfl dX8_get_47 ?_
        have e1 : s_get M 0 f i = (-2147483648, sup M 0 21 (trM M 0 f i)) := by unfold s_get; rw [if_pos ⟨by decide, by omega⟩, if_pos q34]
        exact ⟨_, rfl, by rw [e1], by rw [e1]; exact ic_find c _⟩
    · have e16 := ob_df q16
      refine i_ldcw lcX8_265 dX8_get_19 ?_
      rw [show (-2147483648 : Int32).toInt = -2147483648 from by decide]
      refine r_iret rfl dX8_get_22 ?_
      exact ⟨_, rfl, by unfold s_get; rw [if_neg (by omega)], by unfold s_get; rw [if_neg (by omega)]; exact c⟩
  · skip
    obtain ⟨k1, k2, k3, k4⟩ := gh1.2.1
    obtain ⟨w1, w2, w3, w4⟩ := wf_sh hw 1 (by decide)
    refine r_aload_n dX8_get_0 rfl ?_
    refine r_iload_n dX8_get_1 rfl ?_
    refine i_cvP (c_sheetOf_1 σ) lmX8_223 dX8_get_2 (Nat.le_of_ble_eq_true rfl) rfl ⟨_, _, rfl⟩ (by decide) (by decide) rfl rfl (Nat.le_of_ble_eq_true rfl) ?_
    refine r_astore dX8_get_5 (Nat.le_of_ble_eq_true rfl) ?_
    refine r_aload dX8_get_7 rfl ?_
    refine r_ifnull dX8_get_9 ?_
    refine r_iload_n dX8_get_12 rfl ?_
    refine i_csP (c_isForm σ f hf0) lmX8_253 dX8_get_13 (by decide) (by decide) rfl rfl (Nat.le_of_ble_eq_true rfl) ?_
    refine i_if_ne 23 dX8_get_16 rfl ⟨by omega, by omega⟩ (fun q16 => ?_) (fun q16 => ?_)
    · have e16 := ob_dt q16
      refine r_aload dX8_get_23 rfl ?_
      refine r_iload_n dX8_get_25 rfl ?_
      refine r_iload_n dX8_get_26 rfl ?_
      refine i_cvP (c_trouble_24 σ (by omega) (by omega) (by omega) f i hf0 hi) lmX8_259 dX8_get_27 (Nat.le_of_ble_eq_true rfl) rfl ⟨_, _, rfl⟩ (by decide) (by decide) rfl rfl (Nat.le_of_ble_eq_true rfl) ?_
      have tb := trb_bd (1 - M 10 1) (M 11 1) (M 12 1) f i
      rw [k1, k2, k3]
      change Rn cW mX8_get 30 _ [.int (iI (trM M 1 f i))] _ _
      change 0 ≤ trM M 1 f i ∧ trM M 1 f i ≤ 3 at tb
      refine r_istore dX8_get_30 (Nat.le_of_ble_eq_true rfl) ?_
      refine r_iload dX8_get_32 rfl ?_
      refine i_if_eq 48 dX8_get_34 rfl ⟨by omega, by omega⟩ (fun q34 => ?_) (fun q34 => ?_)
      · skip
        refine r_aload dX8_get_48 rfl ?_
        refine r_iload_n dX8_get_50 rfl ?_
        refine i_cvP (c_itemAt_24 σ i (by have := trb_0 (show trb (1 - M 10 1) (M 11 1) (M 12 1) f i = 0 from q34); omega) (by have := trb_0 (show trb (1 - M 10 1) (M 11 1) (M 12 1) f i = 0 from q34); omega)) lmX8_235 dX8_get_51 (Nat.le_of_ble_eq_true rfl) rfl ⟨_, _, rfl⟩ (by decide) (by decide) rfl rfl (Nat.le_of_ble_eq_true rfl) ?_
        refine r_iret rfl dX8_get_54 ?_
        have h0 := trb_0 (show trb (1 - M 10 1) (M 11 1) (M 12 1) f i = 0 from q34)
        have e1 : s_get M 1 f i = (M 13 (48 * 1 + i.toNat), M) := by unfold s_get; rw [if_pos ⟨by decide, by omega⟩, if_neg (show ¬ (trM M 1 f i ≠ 0) from fun z => z q34)]; rfl
        exact ⟨_, rfl, by rw [e1, k4 i.toNat (by omega)], by rw [e1]; exact c⟩
      · skip
        refine r_aload_n dX8_get_37 rfl ?_
        refine r_iload dX8_get_38 rfl ?_
        refine i_cvI (c_find σ (trM M 1 f i)) lmX8_231 dX8_get_40 (Nat.le_of_ble_eq_true rfl) rfl ⟨_, _, rfl⟩ (by decide) (by decide) rfl rfl (Nat.le_of_ble_eq_true rfl) (fun z1 σ1 hf => ?_)
        obtain ⟨rfl, rfl⟩ := hf
        refine r_pop dX8_get_43 rfl ?_
        refine i_ldcw lcX8_265 dX8_get_44 ?_
        rw [show (-2147483648 : Int32).toInt = -2147483648 from by decide]
        refine r_iret rfl dX8_get_47 ?_
        have e1 : s_get M 1 f i = (-2147483648, sup M 0 21 (trM M 1 f i)) := by unfold s_get; rw [if_pos ⟨by decide, by omega⟩, if_pos q34]
        exact ⟨_, rfl, by rw [e1], by rw [e1]; exact ic_find c _⟩
    · have e16 := ob_df q16
      refine i_ldcw lcX8_265 dX8_get_19 ?_
      rw [show (-2147483648 : Int32).toInt = -2147483648 from by decide]
      refine r_iret rfl dX8_get_22 ?_
      exact ⟨_, rfl, by unfold s_get; rw [if_neg (by omega)], by unfold s_get; rw [if_neg (by omega)]; exact c⟩
  · skip
    obtain ⟨k1, k2, k3, k4⟩ := gh1.2.2.1
    obtain ⟨w1, w2, w3, w4⟩ := wf_sh hw 2 (by decide)
    refine r_aload_n dX8_get_0 rfl ?_
    refine r_iload_n dX8_get_1 rfl ?_
    refine i_cvP (c_sheetOf_2 σ) lmX8_223 dX8_get_2 (Nat.le_of_ble_eq_true rfl) rfl ⟨_, _, rfl⟩ (by decide) (by decide) rfl rfl (Nat.le_of_ble_eq_true rfl) ?_
    refine r_astore dX8_get_5 (Nat.le_of_ble_eq_true rfl) ?_
    refine r_aload dX8_get_7 rfl ?_
    refine r_ifnull dX8_get_9 ?_
    refine r_iload_n dX8_get_12 rfl ?_
    refine i_csP (c_isForm σ f hf0) lmX8_253 dX8_get_13 (by decide) (by decide) rfl rfl (Nat.le_of_ble_eq_true rfl) ?_
    refine i_if_ne 23 dX8_get_16 rfl ⟨by omega, by omega⟩ (fun q16 => ?_) (fun q16 => ?_)
    · have e16 := ob_dt q16
      refine r_aload dX8_get_23 rfl ?_
      refine r_iload_n dX8_get_25 rfl ?_
      refine r_iload_n dX8_get_26 rfl ?_
      refine i_cvP (c_trouble_26 σ (by omega) (by omega) (by omega) f i hf0 hi) lmX8_259 dX8_get_27 (Nat.le_of_ble_eq_true rfl) rfl ⟨_, _, rfl⟩ (by decide) (by decide) rfl rfl (Nat.le_of_ble_eq_true rfl) ?_
      have tb := trb_bd (1 - M 10 2) (M 11 2) (M 12 2) f i
      rw [k1, k2, k3]
      change Rn cW mX8_get 30 _ [.int (iI (trM M 2 f i))] _ _
      change 0 ≤ trM M 2 f i ∧ trM M 2 f i ≤ 3 at tb
      refine r_istore dX8_get_30 (Nat.le_of_ble_eq_true rfl) ?_
      refine r_iload dX8_get_32 rfl ?_
      refine i_if_eq 48 dX8_get_34 rfl ⟨by omega, by omega⟩ (fun q34 => ?_) (fun q34 => ?_)
      · skip
        refine r_aload dX8_get_48 rfl ?_
        refine r_iload_n dX8_get_50 rfl ?_
        refine i_cvP (c_itemAt_26 σ i (by have := trb_0 (show trb (1 - M 10 2) (M 11 2) (M 12 2) f i = 0 from q34); omega) (by have := trb_0 (show trb (1 - M 10 2) (M 11 2) (M 12 2) f i = 0 from q34); omega)) lmX8_235 dX8_get_51 (Nat.le_of_ble_eq_true rfl) rfl ⟨_, _, rfl⟩ (by decide) (by decide) rfl rfl (Nat.le_of_ble_eq_true rfl) ?_
        refine r_iret rfl dX8_get_54 ?_
        have h0 := trb_0 (show trb (1 - M 10 2) (M 11 2) (M 12 2) f i = 0 from q34)
        have e1 : s_get M 2 f i = (M 13 (48 * 2 + i.toNat), M) := by unfold s_get; rw [if_pos ⟨by decide, by omega⟩, if_neg (show ¬ (trM M 2 f i ≠ 0) from fun z => z q34)]; rfl
        exact ⟨_, rfl, by rw [e1, k4 i.toNat (by omega)], by rw [e1]; exact c⟩
      · skip
        refine r_aload_n dX8_get_37 rfl ?_
        refine r_iload dX8_get_38 rfl ?_
        refine i_cvI (c_find σ (trM M 2 f i)) lmX8_231 dX8_get_40 (Nat.le_of_ble_eq_true rfl) rfl ⟨_, _, rfl⟩ (by decide) (by decide) rfl rfl (Nat.le_of_ble_eq_true rfl) (fun z1 σ1 hf => ?_)
        obtain ⟨rfl, rfl⟩ := hf
        refine r_pop dX8_get_43 rfl ?_
        refine i_ldcw lcX8_265 dX8_get_44 ?_
        rw [show (-2147483648 : Int32).toInt = -2147483648 from by decide]
        refine r_iret rfl dX8_get_47 ?_
        have e1 : s_get M 2 f i = (-2147483648, sup M 0 21 (trM M 2 f i)) := by unfold s_get; rw [if_pos ⟨by decide, by omega⟩, if_pos q34]
        exact ⟨_, rfl, by rw [e1], by rw [e1]; exact ic_find c _⟩
    · have e16 := ob_df q16
      refine i_ldcw lcX8_265 dX8_get_19 ?_
      rw [show (-2147483648 : Int32).toInt = -2147483648 from by decide]
      refine r_iret rfl dX8_get_22 ?_
      exact ⟨_, rfl, by unfold s_get; rw [if_neg (by omega)], by unfold s_get; rw [if_neg (by omega)]; exact c⟩
  · skip
    obtain ⟨k1, k2, k3, k4⟩ := gh1.2.2.2
    obtain ⟨w1, w2, w3, w4⟩ := wf_sh hw 3 (by decide)
    refine r_aload_n dX8_get_0 rfl ?_
    refine r_iload_n dX8_get_1 rfl ?_
    refine i_cvP (c_sheetOf_3 σ) lmX8_223 dX8_get_2 (Nat.le_of_ble_eq_true rfl) rfl ⟨_, _, rfl⟩ (by decide) (by decide) rfl rfl (Nat.le_of_ble_eq_true rfl) ?_
    refine r_astore dX8_get_5 (Nat.le_of_ble_eq_true rfl) ?_
    refine r_aload dX8_get_7 rfl ?_
    refine r_ifnull dX8_get_9 ?_
    refine r_iload_n dX8_get_12 rfl ?_
    refine i_csP (c_isForm σ f hf0) lmX8_253 dX8_get_13 (by decide) (by decide) rfl rfl (Nat.le_of_ble_eq_true rfl) ?_
    refine i_if_ne 23 dX8_get_16 rfl ⟨by omega, by omega⟩ (fun q16 => ?_) (fun q16 => ?_)
    · have e16 := ob_dt q16
      refine r_aload dX8_get_23 rfl ?_
      refine r_iload_n dX8_get_25 rfl ?_
      refine r_iload_n dX8_get_26 rfl ?_
      refine i_cvP (c_trouble_28 σ (by omega) (by omega) (by omega) f i hf0 hi) lmX8_259 dX8_get_27 (Nat.le_of_ble_eq_true rfl) rfl ⟨_, _, rfl⟩ (by decide) (by decide) rfl rfl (Nat.le_of_ble_eq_true rfl) ?_
      have tb := trb_bd (1 - M 10 3) (M 11 3) (M 12 3) f i
      rw [k1, k2, k3]
      change Rn cW mX8_get 30 _ [.int (iI (trM M 3 f i))] _ _
      change 0 ≤ trM M 3 f i ∧ trM M 3 f i ≤ 3 at tb
      refine r_istore dX8_get_30 (Nat.le_of_ble_eq_true rfl) ?_
      refine r_iload dX8_get_32 rfl ?_
      refine i_if_eq 48 dX8_get_34 rfl ⟨by omega, by omega⟩ (fun q34 => ?_) (fun q34 => ?_)
      · skip
        refine r_aload dX8_get_48 rfl ?_
        refine r_iload_n dX8_get_50 rfl ?_
        refine i_cvP (c_itemAt_28 σ i (by have := trb_0 (show trb (1 - M 10 3) (M 11 3) (M 12 3) f i = 0 from q34); omega) (by have := trb_0 (show trb (1 - M 10 3) (M 11 3) (M 12 3) f i = 0 from q34); omega)) lmX8_235 dX8_get_51 (Nat.le_of_ble_eq_true rfl) rfl ⟨_, _, rfl⟩ (by decide) (by decide) rfl rfl (Nat.le_of_ble_eq_true rfl) ?_
        refine r_iret rfl dX8_get_54 ?_
        have h0 := trb_0 (show trb (1 - M 10 3) (M 11 3) (M 12 3) f i = 0 from q34)
        have e1 : s_get M 3 f i = (M 13 (48 * 3 + i.toNat), M) := by unfold s_get; rw [if_pos ⟨by decide, by omega⟩, if_neg (show ¬ (trM M 3 f i ≠ 0) from fun z => z q34)]; rfl
        exact ⟨_, rfl, by rw [e1, k4 i.toNat (by omega)], by rw [e1]; exact c⟩
      · skip
        refine r_aload_n dX8_get_37 rfl ?_
        refine r_iload dX8_get_38 rfl ?_
        refine i_cvI (c_find σ (trM M 3 f i)) lmX8_231 dX8_get_40 (Nat.le_of_ble_eq_true rfl) rfl ⟨_, _, rfl⟩ (by decide) (by decide) rfl rfl (Nat.le_of_ble_eq_true rfl) (fun z1 σ1 hf => ?_)
        obtain ⟨rfl, rfl⟩ := hf
        refine r_pop dX8_get_43 rfl ?_
        refine i_ldcw lcX8_265 dX8_get_44 ?_
        rw [show (-2147483648 : Int32).toInt = -2147483648 from by decide]
        refine r_iret rfl dX8_get_47 ?_
        have e1 : s_get M 3 f i = (-2147483648, sup M 0 21 (trM M 3 f i)) := by unfold s_get; rw [if_pos ⟨by decide, by omega⟩, if_pos q34]
        exact ⟨_, rfl, by rw [e1], by rw [e1]; exact ic_find c _⟩
    · have e16 := ob_df q16
      refine i_ldcw lcX8_265 dX8_get_19 ?_
      rw [show (-2147483648 : Int32).toInt = -2147483648 from by decide]
      refine r_iret rfl dX8_get_22 ?_
      exact ⟨_, rfl, by unfold s_get; rw [if_neg (by omega)], by unfold s_get; rw [if_neg (by omega)]; exact c⟩
  · skip
    skip
    refine r_aload_n dX8_get_0 rfl ?_
    refine r_iload_n dX8_get_1 rfl ?_
    refine i_cvP (c_sheetOf_n σ s hs n0) lmX8_223 dX8_get_2 (Nat.le_of_ble_eq_true rfl) rfl ⟨_, _, rfl⟩ (by decide) (by decide) rfl rfl (Nat.le_of_ble_eq_true rfl) ?_
    refine r_astoreN dX8_get_5 (Nat.le_of_ble_eq_true rfl) ?_
    refine r_aloadN dX8_get_7 rfl ?_
    refine r_ifnullN 19 dX8_get_9 rfl ?_
    refine i_ldcw lcX8_265 dX8_get_19 ?_
    rw [show (-2147483648 : Int32).toInt = -2147483648 from by decide]
    refine r_iret rfl dX8_get_22 ?_
    exact ⟨_, rfl, by unfold s_get; rw [if_neg (by omega)], by unfold s_get; rw [if_neg (by omega)]; exact c⟩
