/-! what was seen -/
def lup (L : Int → Int) (s l : Int) : Int → Int := fun z => if z = s then l else L z
theorem rawU_up (H L P : Int → Int) (t s l : Int) : ∀ n : Nat, rawU H (lup L s l) P t n = if 0 ≤ s ∧ s < n then rawU H L P t n - alo H P (L s) s t + alo H P l s t else rawU H L P t n
  | 0 => by rw [if_neg (by omega)]; rfl
  | n + 1 => by
    rw [rawU_s, rawU_s, rawU_up H L P t s l n]
    by_cases q : s = n
    · subst q
      rw [if_neg (by omega), if_pos (by omega)]
      have : lup L n l n = l := by unfold lup; rw [if_pos rfl]
      rw [this]
      omega
    · have : lup L s l n = L n := by unfold lup; rw [if_neg (fun e => q e.symm)]
      rw [this]
      by_cases p : 0 ≤ s ∧ s < n
      · rw [if_pos p, if_pos (by omega)]; omega
      · rw [if_neg p, if_neg (by omega)]
theorem sup_sup (σ : rl_S) (k i : Nat) (x y : Int) : sup (sup σ k i x) k i y = sup σ k i y := by
  funext a j
  by_cases h : a = k
  · subst h
    by_cases q : j = i
    · subst q; rw [sup_h, sup_h]
    · rw [sup_i _ _ _ _ q, sup_i _ _ _ _ q, sup_i _ _ _ _ q]
  · rw [sup_k _ _ _ _ _ h, sup_k _ _ _ _ _ h, sup_k _ _ _ _ _ h]
theorem m_learn_in (M σ : rl_S) (c : IR M σ) (hw : WF M) (s i : Int) (s0 : 0 ≤ s) (s1 : s < nS M) (tl cn fd l : Int) (l0 : 2 ≤ l) (l1 : l ≤ 99) (Post : Option Value → rl_S → Prop) : ∀ (n : Nat) (k : Nat) (b : Bool), (k : Int) + n = M 0 12 → (∀ r, r = (b && als M s l n k) → Rn mW mX9_learnOf 89 [.ref 0, .int (iI s), .int (iI i), .int (iI tl), .int (iI cn), .int (iI fd), .int (iI l), .int (iI (ob r)), .int (iI (M 0 12))] [] (sup σ 4 s.toNat l) Post) → Rn mW mX9_learnOf 41 [.ref 0, .int (iI s), .int (iI i), .int (iI tl), .int (iI cn), .int (iI fd), .int (iI l), .int (iI (ob b)), .int (iI (k : Int))] [] (sup σ 4 s.toNat l) Post := by
  intro n
  have sn := wf_seen9 hw
  have w1 := wf_1 hw
  have e12 : sup σ 4 s.toNat l 0 12 = M 0 12 := (sup_k _ _ _ _ _ (by decide)).trans c.1.2.2.2.1
  have e8 : ∀ j : Nat, sup σ 4 s.toNat l 8 j = M 8 j := fun j => (sup_k _ _ _ _ _ (by decide)).trans (c.1.1 8 j (by decide))
  have e9 : ∀ j : Nat, sup σ 4 s.toNat l 9 j = M 9 j := fun j => (sup_k _ _ _ _ _ (by decide)).trans (c.1.1 9 j (by decide))
  have sw := wf_sw hw
  have rh : RH (sup σ 4 s.toNat l) (nS M) (hS M) (lup (lS M) s l) (pS M) := by
    have r0 := ir_rh c hw
    refine ⟨(sup_k _ _ _ _ _ (by decide)).trans r0.1, ⟨sw.1, sw.2.1, fun z z0 z1 => ?_⟩, fun z z0 z1 => ⟨(sup_k _ _ _ _ _ (by decide)).trans (r0.2.2 z z0 z1).1, ?_, (sup_k _ _ _ _ _ (by decide)).trans (r0.2.2 z z0 z1).2.2⟩⟩
    · obtain ⟨a1, a2, a3⟩ := sw.2.2 z z0 z1
      refine ⟨a1, fun q => ?_, a3⟩
      unfold lup
      split
      · exact ⟨l0, l1⟩
      · exact a2 q
    · unfold lup
      by_cases q : z = s
      · subst q; rw [if_pos rfl, sup_h]
      · rw [if_neg q, sup_i _ _ _ _ (by omega)]; exact (r0.2.2 z z0 z1).2.1
  have e7a : sup σ 4 s.toNat l 0 7 = M 0 7 := (sup_k _ _ _ _ _ (by decide)).trans c.1.2.1
  have e7b : sup σ 4 s.toNat l 0 8 = M 0 8 := (sup_k _ _ _ _ _ (by decide)).trans c.1.2.2.1
  have hh : ∀ t : Int, cut (M 0 7) (M 0 8) t (rawU (hS M) (lup (lS M) s l) (pS M) t (nS M).toNat) = hwi M s l t := fun t => by
    rw [rawU_up, if_pos (by omega)]; rfl
  induction n with
  | zero =>
    intro k b hk K
    have bb := ob_bd b
    have K := K b (by simp [als])
    rw [← hk, show (k : Int) + (0 : Nat) = k by omega] at K
    refine r_iload dX9_learnOf_41 rfl ?_
    refine r_aload_n dX9_learnOf_43 rfl ?_
    refine r_get (k := 0) lfX9_206 dX9_learnOf_44 (Nat.le_of_ble_eq_true rfl) rfl rfl ?_
    rw [e12]
    refine i_icmp_ge 89 dX9_learnOf_47 rfl ⟨by omega, by omega⟩ ⟨by omega, by omega⟩ (fun q47 => ?_) (fun q47 => ?_)
    · skip
      exact K
    · exfalso
      omega
  | succ n ih =>
    intro k b hk K
    have bb := ob_bd b
    have sk := sn.2 k (by omega)
    have hv := hwi_ok hw (s := s) (l := l) (t := M 8 k) s0 s1 l0 l1 (by omega)
    have hc : hwi M s l (M 8 k) = cut (M 0 7) (M 0 8) (M 8 k) (raw M (M 8 k) - alo (hS M) (pS M) (lS M s) s (M 8 k) + alo (hS M) (pS M) l s (M 8 k)) := rfl
    have hv2 : 0 ≤ hwi M s l (M 8 k) ∧ hwi M s l (M 8 k) ≤ 4000 := by
      rw [hc]; unfold cut; split <;> omega
    simp only [als] at K
    refine r_iload dX9_learnOf_41 rfl ?_
    refine r_aload_n dX9_learnOf_43 rfl ?_
    refine r_get (k := 0) lfX9_206 dX9_learnOf_44 (Nat.le_of_ble_eq_true rfl) rfl rfl ?_
    rw [e12]
    refine i_icmp_ge 89 dX9_learnOf_47 rfl ⟨by omega, by omega⟩ ⟨by omega, by omega⟩ (fun q47 => ?_) (fun q47 => ?_)
    · exfalso
      omega
    · skip
      refine r_iload dX9_learnOf_50 rfl ?_
      refine i_if_eq 80 dX9_learnOf_52 rfl ⟨by omega, by omega⟩ (fun q52 => ?_) (fun q52 => ?_)
      · skip
        refine i_const dX9_learnOf_80 ?_
        refine r_istore dX9_learnOf_81 (Nat.le_of_ble_eq_true rfl) ?_
        refine i_iinc dX9_learnOf_83 rfl (Nat.le_of_ble_eq_true rfl) ?_
        refine r_goto 41 dX9_learnOf_86 rfl ?_
        first
          | (have hb : b = true := ob_t q52
             subst hb
             first
             | (rw [if_neg (by omega)] at K; exact ih (k + 1) false (by omega) (fun r hr => K r (by rw [hr]; rfl)))
             | (rw [if_pos (by omega)] at K; exact ih (k + 1) true (by omega) K))
          | (have hb : b = false := ob_f q52
             subst hb
             exact ih (k + 1) false (by omega) (fun r hr => K r (by rw [hr]; rfl)))
      · skip
        refine r_aload_n dX9_learnOf_55 rfl ?_
        refine r_aload_n dX9_learnOf_56 rfl ?_
        refine r_get (k := 0) lfX9_31 dX9_learnOf_57 (Nat.le_of_ble_eq_true rfl) rfl rfl ?_
        refine r_iload dX9_learnOf_60 rfl ?_
        refine i_ald (k := 8) dX9_learnOf_62 (Nat.le_of_ble_eq_true rfl) rfl rfl ⟨by omega, by omega⟩ (by decide) ?_
        rw [show ((k : Int)).toNat = k from rfl, e8]
        refine i_cvP (m_highBy _ (nS M) (hS M) (lup (lS M) s l) (pS M) rh (M 0 7) (M 0 8) e7a e7b w1.1 w1.2 (M 8 k) (by omega) (by omega)) lmX9_111 dX9_learnOf_63 (Nat.le_of_ble_eq_true rfl) rfl ⟨_, _, rfl⟩ (by decide) (by decide) rfl rfl (Nat.le_of_ble_eq_true rfl) ?_
        rw [hh]
        refine r_aload_n dX9_learnOf_66 rfl ?_
        refine r_get (k := 0) lfX9_34 dX9_learnOf_67 (Nat.le_of_ble_eq_true rfl) rfl rfl ?_
        refine r_iload dX9_learnOf_70 rfl ?_
        refine i_ald (k := 9) dX9_learnOf_72 (Nat.le_of_ble_eq_true rfl) rfl rfl ⟨by omega, by omega⟩ (by decide) ?_
        rw [show ((k : Int)).toNat = k from rfl, e9]
        refine i_icmp_ne 80 dX9_learnOf_73 rfl ⟨by omega, by omega⟩ ⟨by omega, by omega⟩ (fun q73 => ?_) (fun q73 => ?_)
        · skip
          refine i_const dX9_learnOf_80 ?_
          refine r_istore dX9_learnOf_81 (Nat.le_of_ble_eq_true rfl) ?_
          refine i_iinc dX9_learnOf_83 rfl (Nat.le_of_ble_eq_true rfl) ?_
          refine r_goto 41 dX9_learnOf_86 rfl ?_
          first
            | (have hb : b = true := ob_t q52
               subst hb
               first
               | (rw [if_neg (by omega)] at K; exact ih (k + 1) false (by omega) (fun r hr => K r (by rw [hr]; rfl)))
               | (rw [if_pos (by omega)] at K; exact ih (k + 1) true (by omega) K))
            | (have hb : b = false := ob_f q52
               subst hb
               exact ih (k + 1) false (by omega) (fun r hr => K r (by rw [hr]; rfl)))
        · skip
          refine i_const dX9_learnOf_76 ?_
          refine r_goto 81 dX9_learnOf_77 rfl ?_
          refine r_istore dX9_learnOf_81 (Nat.le_of_ble_eq_true rfl) ?_
          refine i_iinc dX9_learnOf_83 rfl (Nat.le_of_ble_eq_true rfl) ?_
          refine r_goto 41 dX9_learnOf_86 rfl ?_
          first
            | (have hb : b = true := ob_t q52
               subst hb
               first
               | (rw [if_neg (by omega)] at K; exact ih (k + 1) false (by omega) (fun r hr => K r (by rw [hr]; rfl)))
               | (rw [if_pos (by omega)] at K; exact ih (k + 1) true (by omega) K))
            | (have hb : b = false := ob_f q52
               subst hb
               exact ih (k + 1) false (by omega) (fun r hr => K r (by rw [hr]; rfl)))

theorem m_learn_l (M σ : rl_S) (c : IR M σ) (hw : WF M) (s i : Int) (s0 : 0 ≤ s) (s1 : s < nS M) (i0 : -1 ≤ i ∧ i ≤ 97) : ∀ (n : Nat) (l cn fd : Int) (l7 l8 : Value) (σ2 : rl_S), l + n = 100 → 2 ≤ l → 0 ≤ cn → cn ≤ 100 - n → -1 ≤ fd → fd ≤ 99 → (fd ≠ -1 → i ≠ -1 ∧ i < cn) → (∀ y, sup σ2 4 s.toNat y = sup σ 4 s.toNat y) → ∀ z, (fd = -1 → z = lrn M s i n l cn) → (fd ≠ -1 → z = fd) → Rn mW mX9_learnOf 20 [.ref 0, .int (iI s), .int (iI i), .int (iI (lS M s)), .int (iI cn), .int (iI fd), .int (iI l), l7, l8] [] σ2 (pD M z) := by
  intro n
  have nb := wf_nS hw
  induction n with
  | zero =>
    intro l cn fd l7 l8 σ2 hl l2 c0 c1 f0 f1 hf hq z z1 z2
    have es : sup σ 4 s.toNat (lS M s) = σ := by
      rw [← (c.2.2.2.1 s s0 s1).2]; exact sup_id _ _ _
    simp only [lrn] at z1
    refine r_iload dX9_learnOf_20 rfl ?_
    refine i_bipush dX9_learnOf_22 (by decide) ?_
    refine i_icmp_ge 130 dX9_learnOf_24 rfl ⟨by omega, by omega⟩ ⟨by omega, by omega⟩ (fun q24 => ?_) (fun q24 => ?_)
    · skip
      refine r_aload_n dX9_learnOf_130 rfl ?_
      refine r_get (k := 0) lfX9_19 dX9_learnOf_131 (Nat.le_of_ble_eq_true rfl) rfl rfl ?_
      refine r_iload_n dX9_learnOf_134 rfl ?_
      refine r_iload_n dX9_learnOf_135 rfl ?_
      refine i_ast (k := 4) dX9_learnOf_136 (Nat.le_of_ble_eq_true rfl) rfl rfl ⟨by omega, by omega⟩ (by decide) ?_
      rw [hq, es]
      refine r_iload_n dX9_learnOf_137 rfl ?_
      refine i_const dX9_learnOf_138 ?_
      refine i_icmp_ne 147 dX9_learnOf_139 rfl ⟨by omega, by omega⟩ ⟨by omega, by omega⟩ (fun q139 => ?_) (fun q139 => ?_)
      · skip
        refine r_iload dX9_learnOf_147 rfl ?_
        refine r_iret rfl dX9_learnOf_149 ?_
        refine ⟨_, rfl, ?_, c⟩
        by_cases q : fd = -1
        · rw [z1 q]
          first
          | (rw [if_pos (by omega)])
          | (rw [if_neg (by omega)]; omega)
        · have := hf q
          have := z2 q
          omega
      · skip
        refine r_iload dX9_learnOf_142 rfl ?_
        refine r_goto 149 dX9_learnOf_144 rfl ?_
        refine r_iret rfl dX9_learnOf_149 ?_
        refine ⟨_, rfl, ?_, c⟩
        by_cases q : fd = -1
        · rw [z1 q]
          first
          | (rw [if_pos (by omega)])
          | (rw [if_neg (by omega)]; omega)
        · have := hf q
          have := z2 q
          omega
    · exfalso
      omega
  | succ n ih =>
    intro l cn fd l7 l8 σ2 hl l2 c0 c1 f0 f1 hf hq z z1 z2
    simp only [lrn] at z1
    have e41 : .int (iI 1) = Value.int (iI (ob true)) := rfl
    refine r_iload dX9_learnOf_20 rfl ?_
    refine i_bipush dX9_learnOf_22 (by decide) ?_
    refine i_icmp_ge 130 dX9_learnOf_24 rfl ⟨by omega, by omega⟩ ⟨by omega, by omega⟩ (fun q24 => ?_) (fun q24 => ?_)
    · exfalso
      omega
    · skip
      refine r_aload_n dX9_learnOf_27 rfl ?_
      refine r_get (k := 0) lfX9_19 dX9_learnOf_28 (Nat.le_of_ble_eq_true rfl) rfl rfl ?_
      refine r_iload_n dX9_learnOf_31 rfl ?_
      refine r_iload dX9_learnOf_32 rfl ?_
      refine i_ast (k := 4) dX9_learnOf_34 (Nat.le_of_ble_eq_true rfl) rfl rfl ⟨by omega, by omega⟩ (by decide) ?_
      rw [hq l]
      refine i_const dX9_learnOf_35 ?_
      refine r_istore dX9_learnOf_36 (Nat.le_of_ble_eq_true rfl) ?_
      refine i_const dX9_learnOf_38 ?_
      refine r_istore dX9_learnOf_39 (Nat.le_of_ble_eq_true rfl) ?_
      refine m_learn_in M σ c hw s i s0 s1 (lS M s) cn fd l (by omega) (by omega) _ (M 0 12).toNat 0 true (by have := (wf_seen9 hw).1; omega) (fun r hr => ?_)
      have bb := ob_bd r
      have hr2 : r = asB M s l := hr
      rw [← hr2] at z1
      refine r_iload dX9_learnOf_89 rfl ?_
      refine i_if_eq 105 dX9_learnOf_91 rfl ⟨by omega, by omega⟩ (fun q91 => ?_) (fun q91 => ?_)
      · skip
        refine r_iload dX9_learnOf_105 rfl ?_
        refine r_istore dX9_learnOf_107 (Nat.le_of_ble_eq_true rfl) ?_
        refine r_iload dX9_learnOf_109 rfl ?_
        refine r_iload dX9_learnOf_111 rfl ?_
        refine i_if_eq 120 dX9_learnOf_113 rfl ⟨by omega, by omega⟩ (fun q113 => ?_) (fun q113 => ?_)
        · skip
          refine i_const dX9_learnOf_120 ?_
          refine i_iadd dX9_learnOf_121 ?_
          refine r_istore dX9_learnOf_122 (Nat.le_of_ble_eq_true rfl) ?_
          refine i_iinc dX9_learnOf_124 rfl (Nat.le_of_ble_eq_true rfl) ?_
          refine r_goto 20 dX9_learnOf_127 rfl ?_
          first
            | (exfalso; omega)
            | (have hb : r = true := ob_t (by omega)
               rw [hb] at z1
               rw [if_pos rfl] at z1
               first
               | (refine ih (l + 1) _ _ _ _ _ (by omega) (by omega) (by omega) (by omega) (by omega) (by omega) (fun _ => by omega) (sup_sup _ _ _ _) z (fun q => absurd q (by omega)) (fun _ => ?_)
                  have hfd : fd = -1 := by
                    by_cases q : fd = -1
                    · exact q
                    · have := hf q; omega
                  rw [z1 hfd, if_pos (by omega)])
               | (refine ih (l + 1) _ _ _ _ _ (by omega) (by omega) (by omega) (by omega) (by omega) (by omega) (fun q => by have := hf q; omega) (sup_sup _ _ _ _) z (fun q => ?_) z2
                  rw [z1 q, if_neg (by omega)]))
            | (have hb : r = false := ob_f (by omega)
               rw [hb] at z1
               rw [if_neg (by decide)] at z1
               exact ih (l + 1) _ _ _ _ _ (by omega) (by omega) (by omega) (by omega) (by omega) (by omega) (fun q => by have := hf q; omega) (sup_sup _ _ _ _) z (fun q => by rw [z1 q]; congr 1; omega) z2)
        · skip
          refine i_const dX9_learnOf_116 ?_
          refine r_goto 121 dX9_learnOf_117 rfl ?_
          refine i_iadd dX9_learnOf_121 ?_
          refine r_istore dX9_learnOf_122 (Nat.le_of_ble_eq_true rfl) ?_
          refine i_iinc dX9_learnOf_124 rfl (Nat.le_of_ble_eq_true rfl) ?_
          refine r_goto 20 dX9_learnOf_127 rfl ?_
          first
            | (exfalso; omega)
            | (have hb : r = true := ob_t (by omega)
               rw [hb] at z1
               rw [if_pos rfl] at z1
               first
               | (refine ih (l + 1) _ _ _ _ _ (by omega) (by omega) (by omega) (by omega) (by omega) (by omega) (fun _ => by omega) (sup_sup _ _ _ _) z (fun q => absurd q (by omega)) (fun _ => ?_)
                  have hfd : fd = -1 := by
                    by_cases q : fd = -1
                    · exact q
                    · have := hf q; omega
                  rw [z1 hfd, if_pos (by omega)])
               | (refine ih (l + 1) _ _ _ _ _ (by omega) (by omega) (by omega) (by omega) (by omega) (by omega) (fun q => by have := hf q; omega) (sup_sup _ _ _ _) z (fun q => ?_) z2
                  rw [z1 q, if_neg (by omega)]))
            | (have hb : r = false := ob_f (by omega)
               rw [hb] at z1
               rw [if_neg (by decide)] at z1
               exact ih (l + 1) _ _ _ _ _ (by omega) (by omega) (by omega) (by omega) (by omega) (by omega) (fun q => by have := hf q; omega) (sup_sup _ _ _ _) z (fun q => by rw [z1 q]; congr 1; omega) z2)
      · skip
        refine r_iload dX9_learnOf_94 rfl ?_
        refine r_iload_n dX9_learnOf_96 rfl ?_
        refine i_icmp_ne 105 dX9_learnOf_97 rfl ⟨by omega, by omega⟩ ⟨by omega, by omega⟩ (fun q97 => ?_) (fun q97 => ?_)
        · skip
          refine r_iload dX9_learnOf_105 rfl ?_
          refine r_istore dX9_learnOf_107 (Nat.le_of_ble_eq_true rfl) ?_
          refine r_iload dX9_learnOf_109 rfl ?_
          refine r_iload dX9_learnOf_111 rfl ?_
          refine i_if_eq 120 dX9_learnOf_113 rfl ⟨by omega, by omega⟩ (fun q113 => ?_) (fun q113 => ?_)
          · skip
            refine i_const dX9_learnOf_120 ?_
            refine i_iadd dX9_learnOf_121 ?_
            refine r_istore dX9_learnOf_122 (Nat.le_of_ble_eq_true rfl) ?_
            refine i_iinc dX9_learnOf_124 rfl (Nat.le_of_ble_eq_true rfl) ?_
            refine r_goto 20 dX9_learnOf_127 rfl ?_
            first
              | (exfalso; omega)
              | (have hb : r = true := ob_t (by omega)
                 rw [hb] at z1
                 rw [if_pos rfl] at z1
                 first
                 | (refine ih (l + 1) _ _ _ _ _ (by omega) (by omega) (by omega) (by omega) (by omega) (by omega) (fun _ => by omega) (sup_sup _ _ _ _) z (fun q => absurd q (by omega)) (fun _ => ?_)
                    have hfd : fd = -1 := by
                      by_cases q : fd = -1
                      · exact q
                      · have := hf q; omega
                    rw [z1 hfd, if_pos (by omega)])
                 | (refine ih (l + 1) _ _ _ _ _ (by omega) (by omega) (by omega) (by omega) (by omega) (by omega) (fun q => by have := hf q; omega) (sup_sup _ _ _ _) z (fun q => ?_) z2
                    rw [z1 q, if_neg (by omega)]))
              | (have hb : r = false := ob_f (by omega)
                 rw [hb] at z1
                 rw [if_neg (by decide)] at z1
                 exact ih (l + 1) _ _ _ _ _ (by omega) (by omega) (by omega) (by omega) (by omega) (by omega) (fun q => by have := hf q; omega) (sup_sup _ _ _ _) z (fun q => by rw [z1 q]; congr 1; omega) z2)
          · skip
            refine i_const dX9_learnOf_116 ?_
            refine r_goto 121 dX9_learnOf_117 rfl ?_
            refine i_iadd dX9_learnOf_121 ?_
            refine r_istore dX9_learnOf_122 (Nat.le_of_ble_eq_true rfl) ?_
            refine i_iinc dX9_learnOf_124 rfl (Nat.le_of_ble_eq_true rfl) ?_
            refine r_goto 20 dX9_learnOf_127 rfl ?_
            first
              | (exfalso; omega)
              | (have hb : r = true := ob_t (by omega)
                 rw [hb] at z1
                 rw [if_pos rfl] at z1
                 first
                 | (refine ih (l + 1) _ _ _ _ _ (by omega) (by omega) (by omega) (by omega) (by omega) (by omega) (fun _ => by omega) (sup_sup _ _ _ _) z (fun q => absurd q (by omega)) (fun _ => ?_)
                    have hfd : fd = -1 := by
                      by_cases q : fd = -1
                      · exact q
                      · have := hf q; omega
                    rw [z1 hfd, if_pos (by omega)])
                 | (refine ih (l + 1) _ _ _ _ _ (by omega) (by omega) (by omega) (by omega) (by omega) (by omega) (fun q => by have := hf q; omega) (sup_sup _ _ _ _) z (fun q => ?_) z2
                    rw [z1 q, if_neg (by omega)]))
              | (have hb : r = false := ob_f (by omega)
                 rw [hb] at z1
                 rw [if_neg (by decide)] at z1
                 exact ih (l + 1) _ _ _ _ _ (by omega) (by omega) (by omega) (by omega) (by omega) (by omega) (fun q => by have := hf q; omega) (sup_sup _ _ _ _) z (fun q => by rw [z1 q]; congr 1; omega) z2)
        · skip
          refine r_iload dX9_learnOf_100 rfl ?_
          refine r_goto 107 dX9_learnOf_102 rfl ?_
          refine r_istore dX9_learnOf_107 (Nat.le_of_ble_eq_true rfl) ?_
          refine r_iload dX9_learnOf_109 rfl ?_
          refine r_iload dX9_learnOf_111 rfl ?_
          refine i_if_eq 120 dX9_learnOf_113 rfl ⟨by omega, by omega⟩ (fun q113 => ?_) (fun q113 => ?_)
          · skip
            refine i_const dX9_learnOf_120 ?_
            refine i_iadd dX9_learnOf_121 ?_
            refine r_istore dX9_learnOf_122 (Nat.le_of_ble_eq_true rfl) ?_
            refine i_iinc dX9_learnOf_124 rfl (Nat.le_of_ble_eq_true rfl) ?_
            refine r_goto 20 dX9_learnOf_127 rfl ?_
            first
              | (exfalso; omega)
              | (have hb : r = true := ob_t (by omega)
                 rw [hb] at z1
                 rw [if_pos rfl] at z1
                 first
                 | (refine ih (l + 1) _ _ _ _ _ (by omega) (by omega) (by omega) (by omega) (by omega) (by omega) (fun _ => by omega) (sup_sup _ _ _ _) z (fun q => absurd q (by omega)) (fun _ => ?_)
                    have hfd : fd = -1 := by
                      by_cases q : fd = -1
                      · exact q
                      · have := hf q; omega
                    rw [z1 hfd, if_pos (by omega)])
                 | (refine ih (l + 1) _ _ _ _ _ (by omega) (by omega) (by omega) (by omega) (by omega) (by omega) (fun q => by have := hf q; omega) (sup_sup _ _ _ _) z (fun q => ?_) z2
                    rw [z1 q, if_neg (by omega)]))
              | (have hb : r = false := ob_f (by omega)
                 rw [hb] at z1
                 rw [if_neg (by decide)] at z1
                 exact ih (l + 1) _ _ _ _ _ (by omega) (by omega) (by omega) (by omega) (by omega) (by omega) (fun q => by have := hf q; omega) (sup_sup _ _ _ _) z (fun q => by rw [z1 q]; congr 1; omega) z2)
          · skip
            refine i_const dX9_learnOf_116 ?_
            refine r_goto 121 dX9_learnOf_117 rfl ?_
            refine i_iadd dX9_learnOf_121 ?_
            refine r_istore dX9_learnOf_122 (Nat.le_of_ble_eq_true rfl) ?_
            refine i_iinc dX9_learnOf_124 rfl (Nat.le_of_ble_eq_true rfl) ?_
            refine r_goto 20 dX9_learnOf_127 rfl ?_
            first
              | (exfalso; omega)
              | (have hb : r = true := ob_t (by omega)
                 rw [hb] at z1
                 rw [if_pos rfl] at z1
                 first
                 | (refine ih (l + 1) _ _ _ _ _ (by omega) (by omega) (by omega) (by omega) (by omega) (by omega) (fun _ => by omega) (sup_sup _ _ _ _) z (fun q => absurd q (by omega)) (fun _ => ?_)
                    have hfd : fd = -1 := by
                      by_cases q : fd = -1
                      · exact q
                      · have := hf q; omega
                    rw [z1 hfd, if_pos (by omega)])
                 | (refine ih (l + 1) _ _ _ _ _ (by omega) (by omega) (by omega) (by omega) (by omega) (by omega) (fun q => by have := hf q; omega) (sup_sup _ _ _ _) z (fun q => ?_) z2
                    rw [z1 q, if_neg (by omega)]))
              | (have hb : r = false := ob_f (by omega)
                 rw [hb] at z1
                 rw [if_neg (by decide)] at z1
                 exact ih (l + 1) _ _ _ _ _ (by omega) (by omega) (by omega) (by omega) (by omega) (by omega) (fun q => by have := hf q; omega) (sup_sup _ _ _ _) z (fun q => by rw [z1 q]; congr 1; omega) z2)

set_option maxRecDepth 20000 in
theorem m_learnOf (M σ : rl_S) (c : IM M σ) (hw : WF M) (s i : Int) (s0 : 0 ≤ s) (s1 : s < nS M) (i0 : -1 ≤ i ∧ i ≤ 97) : Ct mW mX9_learnOf [.ref 0, .int (iI s), .int (iI i)] σ (pD M (q_learn M s i)) := by
  refine Ct.of plX9 (Nat.le_of_ble_eq_true rfl) ?_
  have nb := wf_nS hw
  refine r_aload_n dX9_learnOf_0 rfl ?_
  refine i_cvV (m_reads M σ c hw) lmX9_81 dX9_learnOf_1 (Nat.le_of_ble_eq_true rfl) rfl ⟨_, _, rfl⟩ (by decide) (by decide) rfl rfl (Nat.le_of_ble_eq_true rfl) (fun σ1 c1 => ?_)
  refine r_aload_n dX9_learnOf_4 rfl ?_
  refine r_get (k := 0) lfX9_19 dX9_learnOf_5 (Nat.le_of_ble_eq_true rfl) rfl rfl ?_
  refine r_iload_n dX9_learnOf_8 rfl ?_
  refine i_ald (k := 4) dX9_learnOf_9 (Nat.le_of_ble_eq_true rfl) rfl rfl ⟨by omega, by omega⟩ (by decide) ?_
  rw [(c1.2.2.2.1 s s0 s1).2]
  refine r_istore_n dX9_learnOf_10 (Nat.le_of_ble_eq_true rfl) ?_
  refine i_const dX9_learnOf_11 ?_
  refine r_istore dX9_learnOf_12 (Nat.le_of_ble_eq_true rfl) ?_
  refine i_const dX9_learnOf_14 ?_
  refine r_istore dX9_learnOf_15 (Nat.le_of_ble_eq_true rfl) ?_
  refine i_const dX9_learnOf_17 ?_
  refine r_istore dX9_learnOf_18 (Nat.le_of_ble_eq_true rfl) ?_
  exact m_learn_l M σ1 c1 hw s i s0 s1 i0 98 2 0 (-1) _ _ σ1 (by omega) (by omega) (by omega) (by omega) (by omega) (by omega) (fun q => absurd rfl q) (fun _ => rfl) _ (fun _ => by unfold q_learn; rw [if_pos (by omega)]) (fun q => absurd rfl q)

set_option maxRecDepth 20000 in
theorem m_learn (M σ : rl_S) (c : IM M σ) (hw : WF M) (s i : Int) (hs : -2147483648 ≤ s ∧ s < 2147483648) (hi : -2147483648 ≤ i ∧ i < 2147483648) : Ct mW mX9_learn [.ref 0, .int (iI s), .int (iI i)] σ (pM M (q_learn M s i)) := by
  refine Ct.of plX9 (Nat.le_of_ble_eq_true rfl) ?_
  have nb := wf_nS hw
  have ob1 := ob_bd (decide (0 ≤ s ∧ s ≤ nS M - 1))
  have ob2 := ob_bd (decide (-1 ≤ i ∧ i ≤ 97))
  refine r_aload_n dX9_learn_0 rfl ?_
  refine r_iload_n dX9_learn_1 rfl ?_
  refine i_cvI (m_isSwell M σ c hw s hs) lmX9_84 dX9_learn_2 (Nat.le_of_ble_eq_true rfl) rfl ⟨_, _, rfl⟩ (by decide) (by decide) rfl rfl (Nat.le_of_ble_eq_true rfl) (fun z1 σ1 hd => ?_)
  obtain ⟨rfl, hd⟩ := hd
  refine i_if_eq 27 dX9_learn_5 rfl (ob_i32 _) (fun q5 => ?_) (fun q5 => ?_)
  · have e5 := ob_df q5
    refine i_bipush dX9_learn_27 (by decide) ?_
    refine r_iret rfl dX9_learn_29 ?_
    first
      | exact ⟨_, rfl, hd2.1, hd2.2.1⟩
      | exact ⟨_, rfl, by unfold q_learn; rw [if_neg (by omega)], hd.1⟩
  · have e5 := ob_dt q5
    refine r_iload_n dX9_learn_8 rfl ?_
    refine i_const dX9_learn_9 ?_
    refine i_bipush dX9_learn_10 (by decide) ?_
    refine i_csP (m_in σ1 i (-1) 97 hi (by decide) (by decide)) lmX9_55 dX9_learn_12 (by decide) (by decide) rfl rfl (Nat.le_of_ble_eq_true rfl) ?_
    refine i_if_eq 27 dX9_learn_15 rfl (ob_i32 _) (fun q15 => ?_) (fun q15 => ?_)
    · have e15 := ob_df q15
      refine i_bipush dX9_learn_27 (by decide) ?_
      refine r_iret rfl dX9_learn_29 ?_
      first
        | exact ⟨_, rfl, hd2.1, hd2.2.1⟩
        | exact ⟨_, rfl, by unfold q_learn; rw [if_neg (by omega)], hd.1⟩
    · have e15 := ob_dt q15
      refine r_aload_n dX9_learn_18 rfl ?_
      refine r_iload_n dX9_learn_19 rfl ?_
      refine r_iload_n dX9_learn_20 rfl ?_
      refine i_cvI (m_learnOf M σ1 hd.1 hw s i (by omega) (by omega) (by omega)) lmX9_218 dX9_learn_21 (Nat.le_of_ble_eq_true rfl) rfl ⟨_, _, rfl⟩ (by decide) (by decide) rfl rfl (Nat.le_of_ble_eq_true rfl) (fun z2 σ2 hd2 => ?_)
      refine r_goto 29 dX9_learn_24 rfl ?_
      refine r_iret rfl dX9_learn_29 ?_
      first
        | exact ⟨_, rfl, hd2.1, hd2.2.1⟩
        | exact ⟨_, rfl, by unfold q_learn; rw [if_neg (by omega)], hd.1⟩
