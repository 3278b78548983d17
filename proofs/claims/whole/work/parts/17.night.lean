/-! nights, what was seen -/
def nst (M : rl_S) (f seed : Int) : Int × Int := if cF (hi M) f 1 = -1 then (-1, seed) else (if 399 < cF (hi M) f 1 + draw seed 3 then -1 else cF (hi M) f 1 + draw seed 3, nsd seed)
theorem nst_bd (M : rl_S) {f : Int} (seed : Int) (f0 : 0 ≤ f) (f1 : f ≤ 400) : (nst M f seed).1 = -1 ∨ (0 ≤ (nst M f seed).1 ∧ (nst M f seed).1 < 400) := by
  have := cF_bd (hi M) 1 f0 f1
  have := draw_bd seed (show (0 : Int) < 3 by decide)
  unfold nst
  split
  · left; rfl
  · dsimp only
    split <;> omega
def bl (B : Int) : Nat → Int → Bool × Int
  | 0, s => (true, s)
  | n + 1, s => if draw s 16 < B then (false, nsd s) else bl B n (nsd s)
def gu (M : rl_S) (t seed : Int) : Bool × Int := if draw seed 16 < fll M t then (false, nsd seed) else ((bl (M 6 8) (clM M t).2.toNat (nsd seed)).1 && decide ((clM M t).1 ≠ -1), (bl (M 6 8) (clM M t).2.toNat (nsd seed)).2)
def ng (M : rl_S) : Nat → Int → Int → Int → Int
  | 0, up, _, _ => up
  | n + 1, up, f, seed => if (nst M f seed).1 = -1 then up else (if (gu M (nst M f seed).1 (nst M f seed).2).1 = true then ng M n (up + 1) (clM M (nst M f seed).1).1 (gu M (nst M f seed).1 (nst M f seed).2).2 else ng M n up (nst M f seed).1 (gu M (nst M f seed).1 (nst M f seed).2).2)
def q_night (M : rl_S) (seed n : Int) : Int := if 1 ≤ n ∧ n ≤ 20 then ng M n.toNat 0 0 seed else -2
theorem ng_bd (M : rl_S) : ∀ (n : Nat) (up f s : Int), 0 ≤ up → up ≤ ng M n up f s ∧ ng M n up f s ≤ up + n
  | 0, up, f, s, h => by simp only [ng]; omega
  | n + 1, up, f, s, h => by
    have i1 := ng_bd M n (up + 1) (clM M (nst M f s).1).1 (gu M (nst M f s).1 (nst M f s).2).2 (by omega)
    have i2 := ng_bd M n up (nst M f s).1 (gu M (nst M f s).1 (nst M f s).2).2 h
    simp only [ng]
    split
    · omega
    · split <;> omega
def IL (σ σ' : rl_S) : Prop := ∀ k i, k ≠ 16 → k ≠ 20 → σ' k i = σ k i
set_option maxRecDepth 20000 in
theorem c_nextStep (M σ : rl_S) (c : IC M σ) (hw : WF M) (f : Int) (f0 : 0 ≤ f) (f1 : f < 400) : Ct cW mX8_nextStep [.ref 0, .int (iI f)] σ (qI (fun z σ' => z = (nst M f (σ 20 0)).1 ∧ σ' 20 0 = (nst M f (σ 20 0)).2 ∧ IL σ σ')) := by
  refine Ct.of plX8 (Nat.le_of_ble_eq_true rfl) ?_
  obtain ⟨gt, gs, gp, gg, gn, gh1, gf⟩ := id c
  have hb := wf_hb hw
  have hh := gs.2.2.2.2
  have cb := cF_bd (hi M) (t := f) 1 (by omega) (by omega)
  have db := draw_bd (σ 20 0) (show (0 : Int) < 3 by decide)
  refine r_aload_n dX8_nextStep_0 rfl ?_
  refine r_get (k := 0) lfX8_26 dX8_nextStep_1 (Nat.le_of_ble_eq_true rfl) rfl rfl ?_
  refine r_iload_n dX8_nextStep_4 rfl ?_
  refine i_const dX8_nextStep_5 ?_
  refine i_cvP (c_crestFrom σ (hi M) hh hb f 1 (by omega) (by omega) (by decide)) lmX8_153 dX8_nextStep_6 (Nat.le_of_ble_eq_true rfl) rfl ⟨_, _, rfl⟩ (by decide) (by decide) rfl rfl (Nat.le_of_ble_eq_true rfl) ?_
  refine r_istore_n dX8_nextStep_9 (Nat.le_of_ble_eq_true rfl) ?_
  refine r_iload_n dX8_nextStep_10 rfl ?_
  refine i_const dX8_nextStep_11 ?_
  refine i_icmp_ne 17 dX8_nextStep_12 rfl ⟨by omega, by omega⟩ ⟨by omega, by omega⟩ (fun q12 => ?_) (fun q12 => ?_)
  · skip
    refine r_iload_n dX8_nextStep_17 rfl ?_
    refine r_aload_n dX8_nextStep_18 rfl ?_
    refine r_get (k := 0) lfX8_63 dX8_nextStep_19 (Nat.le_of_ble_eq_true rfl) rfl rfl ?_
    refine i_const dX8_nextStep_22 ?_
    refine i_cvI (c_draw σ 3 (by decide) (by decide)) lmX8_376 dX8_nextStep_23 (Nat.le_of_ble_eq_true rfl) rfl ⟨_, _, rfl⟩ (by decide) (by decide) rfl rfl (Nat.le_of_ble_eq_true rfl) (fun z1 σ1 hd => ?_)
    obtain ⟨rfl, rfl⟩ := hd
    refine i_iadd dX8_nextStep_26 ?_
    refine r_istore_n dX8_nextStep_27 (Nat.le_of_ble_eq_true rfl) ?_
    refine r_iload_n dX8_nextStep_28 rfl ?_
    refine i_sipush dX8_nextStep_29 (by decide) ?_
    refine i_icmp_le 39 dX8_nextStep_32 rfl ⟨by omega, by omega⟩ ⟨by omega, by omega⟩ (fun q32 => ?_) (fun q32 => ?_)
    · skip
      refine r_iload_n dX8_nextStep_39 rfl ?_
      refine r_iret rfl dX8_nextStep_40 ?_
      exact ⟨_, rfl, by unfold nst; rw [if_neg (by omega)]; first | (rw [if_pos (by omega)]) | (rw [if_neg (by omega)]), by unfold nst; rw [if_neg (by omega)]; exact sup_h _ _ _ _, fun k i _ g => sup_k _ _ _ _ _ g⟩
    · skip
      refine i_const dX8_nextStep_35 ?_
      refine r_goto 40 dX8_nextStep_36 rfl ?_
      refine r_iret rfl dX8_nextStep_40 ?_
      exact ⟨_, rfl, by unfold nst; rw [if_neg (by omega)]; first | (rw [if_pos (by omega)]) | (rw [if_neg (by omega)]), by unfold nst; rw [if_neg (by omega)]; exact sup_h _ _ _ _, fun k i _ g => sup_k _ _ _ _ _ g⟩
  · skip
    refine i_const dX8_nextStep_15 ?_
    refine r_iret rfl dX8_nextStep_16 ?_
    exact ⟨_, rfl, by unfold nst; rw [if_pos (by omega)], by unfold nst; rw [if_pos (by omega)], fun _ _ _ _ => rfl⟩

theorem c_getsUp_l (M σ : rl_S) (c : IC M σ) (hw : WF M) (t : Int) (cb : ((clM M t).1 = -1 ∨ (t ≤ (clM M t).1 ∧ (clM M t).1 < 400)) ∧ 0 ≤ (clM M t).2 ∧ (clM M t).2 ≤ 12) (t0 : 0 ≤ t) : ∀ (n : Nat) (k : Int) (σ2 : rl_S), k + n = (clM M t).2 → 0 ≤ k → IL σ σ2 → σ2 16 3 = (clM M t).1 → σ2 16 4 = (clM M t).2 → ∀ r, r = bl (M 6 8) n (σ2 20 0) → Rn cW mX8_getsUp 29 [.ref 0, .int (iI t), .int (iI k)] [] σ2 (qI (fun z σ' => z = ob (r.1 && decide ((clM M t).1 ≠ -1)) ∧ σ' 20 0 = r.2 ∧ σ' 16 3 = (clM M t).1 ∧ IL σ σ')) := by
  intro n
  induction n with
  | zero =>
    intro k σ2 hk k0 hf e3 e4 r hr
    simp only [bl] at hr
    refine r_iload_n dX8_getsUp_29 rfl ?_
    refine r_aload_n dX8_getsUp_30 rfl ?_
    refine r_get (k := 0) lfX8_49 dX8_getsUp_31 (Nat.le_of_ble_eq_true rfl) rfl rfl ?_
    refine r_get (k := 16) lfX8_183 dX8_getsUp_34 (Nat.le_of_ble_eq_true rfl) rfl rfl ?_
    rw [e4]
    refine i_icmp_ge 69 dX8_getsUp_37 rfl ⟨by omega, by omega⟩ ⟨by omega, by omega⟩ (fun q37 => ?_) (fun q37 => ?_)
    · skip
      refine r_aload_n dX8_getsUp_69 rfl ?_
      refine r_get (k := 0) lfX8_49 dX8_getsUp_70 (Nat.le_of_ble_eq_true rfl) rfl rfl ?_
      refine r_get (k := 16) lfX8_180 dX8_getsUp_73 (Nat.le_of_ble_eq_true rfl) rfl rfl ?_
      refine i_const dX8_getsUp_76 ?_
      refine i_icmp_eq 84 dX8_getsUp_77 rfl ⟨by omega, by omega⟩ ⟨by omega, by omega⟩ (fun q77 => ?_) (fun q77 => ?_)
      · skip
        refine i_const dX8_getsUp_84 ?_
        refine r_zret rfl dX8_getsUp_85 rfl ?_
        exact ⟨_, rfl, by rw [hr]; first | (rw [decide_eq_true (by omega)]; rfl) | (rw [decide_eq_false (by omega)]; rfl), by rw [hr], e3, hf⟩
      · skip
        refine i_const dX8_getsUp_80 ?_
        refine r_goto 85 dX8_getsUp_81 rfl ?_
        refine r_zret rfl dX8_getsUp_85 rfl ?_
        exact ⟨_, rfl, by rw [hr]; first | (rw [decide_eq_true (by omega)]; rfl) | (rw [decide_eq_false (by omega)]; rfl), by rw [hr], e3, hf⟩
    · exfalso
      omega
  | succ n ih =>
    intro k σ2 hk k0 hf e3 e4 r hr
    have st := wf_set hw
    have c2 := ic_k c (fun k i g1 g2 => hf k i g1 g2)
    have db := draw_bd (σ2 20 0) (show (0 : Int) < 16 by decide)
    simp only [bl] at hr
    refine r_iload_n dX8_getsUp_29 rfl ?_
    refine r_aload_n dX8_getsUp_30 rfl ?_
    refine r_get (k := 0) lfX8_49 dX8_getsUp_31 (Nat.le_of_ble_eq_true rfl) rfl rfl ?_
    refine r_get (k := 16) lfX8_183 dX8_getsUp_34 (Nat.le_of_ble_eq_true rfl) rfl rfl ?_
    rw [e4]
    refine i_icmp_ge 69 dX8_getsUp_37 rfl ⟨by omega, by omega⟩ ⟨by omega, by omega⟩ (fun q37 => ?_) (fun q37 => ?_)
    · exfalso
      omega
    · skip
      refine r_aload_n dX8_getsUp_40 rfl ?_
      refine r_get (k := 0) lfX8_63 dX8_getsUp_41 (Nat.le_of_ble_eq_true rfl) rfl rfl ?_
      refine i_bipush dX8_getsUp_44 (by decide) ?_
      refine i_cvI (c_draw σ2 16 (by decide) (by decide)) lmX8_376 dX8_getsUp_46 (Nat.le_of_ble_eq_true rfl) rfl ⟨_, _, rfl⟩ (by decide) (by decide) rfl rfl (Nat.le_of_ble_eq_true rfl) (fun z1 σ1 hd => ?_)
      obtain ⟨rfl, rfl⟩ := hd
      refine r_aload_n dX8_getsUp_49 rfl ?_
      refine r_get (k := 0) lfX8_40 dX8_getsUp_50 (Nat.le_of_ble_eq_true rfl) rfl rfl ?_
      refine i_bipush dX8_getsUp_53 (by decide) ?_
      refine i_cvP (c_of _ 8 (by decide) (by decide)) lmX8_138 dX8_getsUp_55 (Nat.le_of_ble_eq_true rfl) rfl ⟨_, _, rfl⟩ (by decide) (by decide) rfl rfl (Nat.le_of_ble_eq_true rfl) ?_
      rw [show (8 : Int).toNat = 8 from rfl, show sup σ2 20 0 (nsd (σ2 20 0)) 15 8 = M 6 8 from (sup_k _ _ _ _ _ (by decide)).trans (c2.2.2.2.1 8 (by decide))]
      refine i_icmp_ge 63 dX8_getsUp_58 rfl ⟨by omega, by omega⟩ ⟨by omega, by omega⟩ (fun q58 => ?_) (fun q58 => ?_)
      · skip
        refine i_iinc dX8_getsUp_63 rfl (Nat.le_of_ble_eq_true rfl) ?_
        refine r_goto 29 dX8_getsUp_66 rfl ?_
        rw [if_neg (by omega)] at hr
        exact ih (k + 1) _ (by omega) (by omega) (fun k i g1 g2 => (sup_k _ _ _ _ _ g2).trans (hf k i g1 g2)) ((sup_k _ _ _ _ _ (by decide)).trans e3) ((sup_k _ _ _ _ _ (by decide)).trans e4) r (by rw [hr, sup_h])
      · skip
        refine i_const dX8_getsUp_61 ?_
        refine r_zret rfl dX8_getsUp_62 rfl ?_
        rw [if_pos (by omega)] at hr
        exact ⟨_, rfl, by rw [hr]; rfl, by rw [hr]; exact sup_h _ _ _ _, (sup_k _ _ _ _ _ (by decide)).trans e3, fun k i g1 g2 => (sup_k _ _ _ _ _ g2).trans (hf k i g1 g2)⟩

set_option maxRecDepth 20000 in
theorem c_getsUp (M σ : rl_S) (c : IC M σ) (hw : WF M) (t : Int) (t0 : 0 ≤ t) (t1 : t < 400) : Ct cW mX8_getsUp [.ref 0, .int (iI t)] σ (qI (fun z σ' => z = ob (gu M t (σ 20 0)).1 ∧ σ' 20 0 = (gu M t (σ 20 0)).2 ∧ (z = 1 → σ' 16 3 = (clM M t).1) ∧ IL σ σ')) := by
  refine Ct.of plX8 (Nat.le_of_ble_eq_true rfl) ?_
  have fb := fll_bd hw t
  have db := draw_bd (σ 20 0) (show (0 : Int) < 16 by decide)
  refine r_aload_n dX8_getsUp_0 rfl ?_
  refine r_get (k := 0) lfX8_63 dX8_getsUp_1 (Nat.le_of_ble_eq_true rfl) rfl rfl ?_
  refine i_bipush dX8_getsUp_4 (by decide) ?_
  refine i_cvI (c_draw σ 16 (by decide) (by decide)) lmX8_376 dX8_getsUp_6 (Nat.le_of_ble_eq_true rfl) rfl ⟨_, _, rfl⟩ (by decide) (by decide) rfl rfl (Nat.le_of_ble_eq_true rfl) (fun z1 σ1 hd => ?_)
  obtain ⟨rfl, rfl⟩ := hd
  refine r_aload_n dX8_getsUp_9 rfl ?_
  refine r_iload_n dX8_getsUp_10 rfl ?_
  refine i_cvP (c_odds M _ (ic_k c (fun k i _ g => sup_k _ _ _ _ _ g)) hw t t0 t1) lmX8_174 dX8_getsUp_11 (Nat.le_of_ble_eq_true rfl) rfl ⟨_, _, rfl⟩ (by decide) (by decide) rfl rfl (Nat.le_of_ble_eq_true rfl) ?_
  refine i_icmp_ge 19 dX8_getsUp_14 rfl ⟨by omega, by omega⟩ ⟨by omega, by omega⟩ (fun q14 => ?_) (fun q14 => ?_)
  · skip
    refine r_aload_n dX8_getsUp_19 rfl ?_
    refine r_get (k := 0) lfX8_49 dX8_getsUp_20 (Nat.le_of_ble_eq_true rfl) rfl rfl ?_
    refine r_iload_n dX8_getsUp_23 rfl ?_
    refine i_cvV (c_goFrom _ (hi M) (ic_cp (ic_k c (fun k i _ g => sup_k _ _ _ _ _ g)) hw) t t0 t1) lmX8_177 dX8_getsUp_24 (Nat.le_of_ble_eq_true rfl) rfl ⟨_, _, rfl⟩ (by decide) (by decide) rfl rfl (Nat.le_of_ble_eq_true rfl) (fun σ3 hc => ?_)
    refine i_const dX8_getsUp_27 ?_
    refine r_istore_n dX8_getsUp_28 (Nat.le_of_ble_eq_true rfl) ?_
    have eF := clF_M (ic_k c (σ' := sup σ 20 0 (nsd (σ 20 0))) (fun k i _ g => sup_k _ _ _ _ _ g)) t
    have e3 := hc.1.trans (congrArg Prod.fst eF)
    have e4 := hc.2.1.trans (congrArg Prod.snd eF)
    have cb := clM_bd hw t0 t1
    refine Rn.mono (c_getsUp_l M σ c hw t cb t0 (clM M t).2.toNat 0 σ3 (by omega) (by omega) (fun k i g1 g2 => (hc.2.2 k i g1).trans (sup_k _ _ _ _ _ g2)) e3 e4 _ rfl) (fun r σ' ⟨z, h1, h2, h3, h4, h5⟩ => ⟨z, h1, ?_, ?_, fun _ => h4, h5⟩)
    · rw [h2]; unfold gu; rw [if_neg (by omega), show σ3 20 0 = nsd (σ 20 0) from (hc.2.2 20 0 (by decide)).trans (sup_h _ _ _ _)]
    · rw [h3]; unfold gu; rw [if_neg (by omega), show σ3 20 0 = nsd (σ 20 0) from (hc.2.2 20 0 (by decide)).trans (sup_h _ _ _ _)]
  · skip
    refine i_const dX8_getsUp_17 ?_
    refine r_zret rfl dX8_getsUp_18 rfl ?_
    exact ⟨_, rfl, by unfold gu; rw [if_pos (by omega)]; rfl, by unfold gu; rw [if_pos (by omega)]; exact sup_h _ _ _ _, fun h => absurd h (by decide), fun k i _ g => sup_k _ _ _ _ _ g⟩

theorem c_night_l (M σ : rl_S) (c : IC M σ) (hw : WF M) (sd m : Int) (m1 : m ≤ 20) : ∀ (n : Nat) (k up f : Int) (l6 : Value) (σ2 : rl_S), k + n = m → 0 ≤ k → 0 ≤ f → f < 400 → IL σ σ2 → ∀ z, z = ng M n up f (σ2 20 0) → Rn cW mX8_night 30 [.ref 0, .int (iI sd), .int (iI m), .int (iI up), .int (iI f), .int (iI k), l6] [] σ2 (qI (fun y σ' => y = z ∧ IL σ σ')) := by
  intro n
  induction n with
  | zero =>
    intro k up f l6 σ2 hk k0 f0 f1 hf z hz
    refine r_iload dX8_night_30 rfl ?_
    refine r_iload_n dX8_night_32 rfl ?_
    refine i_icmp_ge 86 dX8_night_33 rfl ⟨by omega, by omega⟩ ⟨by omega, by omega⟩ (fun q33 => ?_) (fun q33 => ?_)
    · skip
      refine r_iload_n dX8_night_86 rfl ?_
      refine r_iret rfl dX8_night_87 ?_
      exact ⟨_, rfl, by rw [hz]; rfl, hf⟩
    · exfalso
      omega
  | succ n ih =>
    intro k up f l6 σ2 hk k0 f0 f1 hf z hz
    have nb := nst_bd M (σ2 20 0) f0 (by omega)
    simp only [ng] at hz
    refine r_iload dX8_night_30 rfl ?_
    refine r_iload_n dX8_night_32 rfl ?_
    refine i_icmp_ge 86 dX8_night_33 rfl ⟨by omega, by omega⟩ ⟨by omega, by omega⟩ (fun q33 => ?_) (fun q33 => ?_)
    · exfalso
      omega
    · skip
      refine r_aload_n dX8_night_36 rfl ?_
      refine r_iload dX8_night_37 rfl ?_
      refine i_cvI (c_nextStep M σ2 (ic_k c hf) hw f f0 f1) lmX8_247 dX8_night_39 (Nat.le_of_ble_eq_true rfl) rfl ⟨_, _, rfl⟩ (by decide) (by decide) rfl rfl (Nat.le_of_ble_eq_true rfl) (fun z1 σ1 hn => ?_)
      obtain ⟨rfl, es, hf0⟩ := hn
      have hf1 : IL σ σ1 := fun k i g1 g2 => (hf0 k i g1 g2).trans (hf k i g1 g2)
      refine r_istore dX8_night_42 (Nat.le_of_ble_eq_true rfl) ?_
      refine r_iload dX8_night_44 rfl ?_
      refine i_const dX8_night_46 ?_
      refine i_icmp_ne 52 dX8_night_47 rfl ⟨by omega, by omega⟩ ⟨by omega, by omega⟩ (fun q47 => ?_) (fun q47 => ?_)
      · skip
        refine r_aload_n dX8_night_52 rfl ?_
        refine r_iload dX8_night_53 rfl ?_
        refine i_cvI (c_getsUp M σ1 (ic_k c hf1) hw _ (by omega) (by omega)) lmX8_250 dX8_night_55 (Nat.le_of_ble_eq_true rfl) rfl ⟨_, _, rfl⟩ (by decide) (by decide) rfl rfl (Nat.le_of_ble_eq_true rfl) (fun z2 σ3 hg => ?_)
        obtain ⟨rfl, es2, hend, hf4⟩ := hg
        rw [es] at es2
        have ob1 := ob_bd (gu M (nst M f (σ2 20 0)).1 (σ1 20 0)).1
        have hf3 : IL σ σ3 := fun k i g1 g2 => (hf4 k i g1 g2).trans (hf1 k i g1 g2)
        rw [if_neg (by omega)] at hz
        have cb := clM_bd hw (t := (nst M f (σ2 20 0)).1) (by omega) (by omega)
        refine i_if_eq 76 dX8_night_58 rfl ⟨by omega, by omega⟩ (fun q58 => ?_) (fun q58 => ?_)
        · skip
          refine r_iload dX8_night_76 rfl ?_
          refine r_istore dX8_night_78 (Nat.le_of_ble_eq_true rfl) ?_
          refine i_iinc dX8_night_80 rfl (Nat.le_of_ble_eq_true rfl) ?_
          refine r_goto 30 dX8_night_83 rfl ?_
          rw [es] at q58
          first
            | (rw [if_neg (by rw [ob_f q58]; decide), ← es2] at hz; exact ih (k + 1) up _ _ σ3 (by omega) (by omega) (by omega) (by omega) hf3 z hz)
            | (have eg := ob_t q58
               rw [if_pos eg, ← es2] at hz
               rw [es] at hend
               have e3 := hend (by rw [eg]; rfl)
               have en : (clM M (nst M f (σ2 20 0)).1).1 ≠ -1 := by
                 have hg2 : (gu M (nst M f (σ2 20 0)).1 (nst M f (σ2 20 0)).2).1 = true := eg
                 unfold gu at hg2
                 split at hg2
                 · cases hg2
                 · have := (Bool.and_eq_true _ _ ▸ hg2 : _ ∧ _).2
                   exact of_decide_eq_true this
               rw [e3]
               exact ih (k + 1) (up + 1) _ _ σ3 (by omega) (by omega) (by omega) (by omega) hf3 z hz)
        · skip
          refine i_iinc dX8_night_61 rfl (Nat.le_of_ble_eq_true rfl) ?_
          refine r_aload_n dX8_night_64 rfl ?_
          refine r_get (k := 0) lfX8_49 dX8_night_65 (Nat.le_of_ble_eq_true rfl) rfl rfl ?_
          refine r_get (k := 16) lfX8_180 dX8_night_68 (Nat.le_of_ble_eq_true rfl) rfl rfl ?_
          refine r_istore dX8_night_71 (Nat.le_of_ble_eq_true rfl) ?_
          refine r_goto 80 dX8_night_73 rfl ?_
          refine i_iinc dX8_night_80 rfl (Nat.le_of_ble_eq_true rfl) ?_
          refine r_goto 30 dX8_night_83 rfl ?_
          rw [es] at q58
          first
            | (rw [if_neg (by rw [ob_f q58]; decide), ← es2] at hz; exact ih (k + 1) up _ _ σ3 (by omega) (by omega) (by omega) (by omega) hf3 z hz)
            | (have eg := ob_t q58
               rw [if_pos eg, ← es2] at hz
               rw [es] at hend
               have e3 := hend (by rw [eg]; rfl)
               have en : (clM M (nst M f (σ2 20 0)).1).1 ≠ -1 := by
                 have hg2 : (gu M (nst M f (σ2 20 0)).1 (nst M f (σ2 20 0)).2).1 = true := eg
                 unfold gu at hg2
                 split at hg2
                 · cases hg2
                 · have := (Bool.and_eq_true _ _ ▸ hg2 : _ ∧ _).2
                   exact of_decide_eq_true this
               rw [e3]
               exact ih (k + 1) (up + 1) _ _ σ3 (by omega) (by omega) (by omega) (by omega) hf3 z hz)
      · skip
        refine r_iload_n dX8_night_50 rfl ?_
        refine r_iret rfl dX8_night_51 ?_
        rw [if_pos (by omega)] at hz
        exact ⟨_, rfl, hz.symm, hf1⟩

set_option maxRecDepth 20000 in
theorem c_night (M σ : rl_S) (c : IC M σ) (hw : WF M) (sd n : Int) (hn : -2147483648 ≤ n ∧ n < 2147483648) : Ct cW mX8_night [.ref 0, .int (iI sd), .int (iI n)] σ (qI (fun z σ' => z = q_night M sd n ∧ IL σ σ')) := by
  refine Ct.of plX8 (Nat.le_of_ble_eq_true rfl) ?_
  refine r_iload_n dX8_night_0 rfl ?_
  refine i_const dX8_night_1 ?_
  refine i_icmp_lt 11 dX8_night_2 rfl ⟨by omega, by omega⟩ ⟨by omega, by omega⟩ (fun q2 => ?_) (fun q2 => ?_)
  · skip
    refine i_bipush dX8_night_11 (by decide) ?_
    refine r_iret rfl dX8_night_13 ?_
    exact ⟨_, rfl, by unfold q_night; rw [if_neg (by omega)], fun _ _ _ _ => rfl⟩
  · skip
    refine r_iload_n dX8_night_5 rfl ?_
    refine i_bipush dX8_night_6 (by decide) ?_
    refine i_icmp_le 14 dX8_night_8 rfl ⟨by omega, by omega⟩ ⟨by omega, by omega⟩ (fun q8 => ?_) (fun q8 => ?_)
    · skip
      refine r_aload_n dX8_night_14 rfl ?_
      refine r_get (k := 0) lfX8_63 dX8_night_15 (Nat.le_of_ble_eq_true rfl) rfl rfl ?_
      refine r_iload_n dX8_night_18 rfl ?_
      refine i_put (k := 20) lpX8_244 dX8_night_19 (Nat.le_of_ble_eq_true rfl) rfl rfl ?_
      refine i_const dX8_night_22 ?_
      refine r_istore_n dX8_night_23 (Nat.le_of_ble_eq_true rfl) ?_
      refine i_const dX8_night_24 ?_
      refine r_istore dX8_night_25 (Nat.le_of_ble_eq_true rfl) ?_
      refine i_const dX8_night_27 ?_
      refine r_istore dX8_night_28 (Nat.le_of_ble_eq_true rfl) ?_
      exact c_night_l M σ c hw sd n (by omega) n.toNat 0 0 0 _ _ (by omega) (by omega) (by omega) (by omega) (fun k i _ g => sup_k _ _ _ _ _ g) _ (by rw [sup_h]; unfold q_night; rw [if_pos (by omega)])
    · skip
      refine i_bipush dX8_night_11 (by decide) ?_
      refine r_iret rfl dX8_night_13 ?_
      exact ⟨_, rfl, by unfold q_night; rw [if_neg (by omega)], fun _ _ _ _ => rfl⟩

def hwi (M : rl_S) (s l t : Int) : Int := cut (M 0 7) (M 0 8) t (raw M t - alo (hS M) (pS M) (lS M s) s t + alo (hS M) (pS M) l s t)
def als (M : rl_S) (s l : Int) : Nat → Nat → Bool
  | 0, _ => true
  | n + 1, i => if hwi M s l (M 8 i) = M 9 i then als M s l n (i + 1) else false
def asB (M : rl_S) (s l : Int) : Bool := als M s l (M 0 12).toNat 0
def lrn (M : rl_S) (s i : Int) : Nat → Int → Int → Int
  | 0, _, m => if i = -1 then m else -1
  | n + 1, l, m => if asB M s l = true then (if m = i then l else lrn M s i n (l + 1) (m + 1)) else lrn M s i n (l + 1) m
def q_learn (M : rl_S) (s i : Int) : Int := if (0 ≤ s ∧ s < nS M) ∧ -1 ≤ i ∧ i ≤ 97 then lrn M s i 98 2 0 else -2
theorem raw_ge {N : Int} {H L P : Int → Int} (h : SW N H L P) {t : Int} (ht : 0 ≤ t) (s : Nat) : ∀ n : Nat, s < n → (n : Int) ≤ N → alo H P (L s) s t ≤ rawU H L P t n
  | 0, h0, _ => by omega
  | n + 1, h0, hn => by
    obtain ⟨h1, h2, h3⟩ := h.2.2 n (by omega) (by have := h.2.1; omega)
    have i2 := alo_bd (P := P) (t := t) h1 h3.1 (h2 (by omega)) ht
    have i3 := rawU_bd h t ht n (by omega)
    rw [rawU_s]
    by_cases hs : s = n
    · subst hs; omega
    · have := raw_ge h ht s n (by omega) (by omega)
      omega
theorem hwi_ok {M : rl_S} (hw : WF M) {s l t : Int} (s0 : 0 ≤ s) (s1 : s < nS M) (l0 : 2 ≤ l) (l1 : l ≤ 99) (t0 : 0 ≤ t) : 0 ≤ raw M t - alo (hS M) (pS M) (lS M s) s t + alo (hS M) (pS M) l s t ∧ raw M t - alo (hS M) (pS M) (lS M s) s t + alo (hS M) (pS M) l s t ≤ 4000 := by
  have h := wf_sw hw
  have h1 := raw_ge h t0 s.toNat (nS M).toNat (by omega) (by omega)
  rw [show ((s.toNat : Nat) : Int) = s by omega] at h1
  change _ ≤ raw M t at h1
  have h2 := wf_raw hw t0
  obtain ⟨g1, g2, g3⟩ := h.2.2 s s0 (by have := h.2.1; omega)
  have h3 := alo_bd (P := pS M) (t := t) (l := l) g1 g3.1 ⟨l0, l1⟩ t0
  have h4 := alo_bd (P := pS M) (t := t) (l := lS M s) g1 g3.1 (g2 s1) t0
  omega
theorem wf_seen9 {M : rl_S} (h : WF M) : (0 ≤ M 0 12 ∧ M 0 12 ≤ 8) ∧ ∀ i : Nat, i < 8 → (0 ≤ M 8 i ∧ M 8 i ≤ 399) ∧ 0 ≤ M 9 i ∧ M 9 i ≤ 3000 := ⟨h.2.2.2.2.2.2.2.2.1, h.2.2.2.2.2.2.2.2.2.1⟩
theorem c_allSeen_l (M σ : rl_S) (c : IC M σ) (hw : WF M) (s l : Int) (s0 : 0 ≤ s) (s1 : s < nS M) (l0 : 2 ≤ l) (l1 : l ≤ 99) : ∀ (n : Nat) (i : Nat), (i : Int) + n = M 0 12 → ∀ z, z = als M s l n i → Rn cW mX8_allSeenComesOut 2 [.ref 0, .int (iI s), .int (iI l), .int (iI (i : Int))] [] σ (pR (.int (iI (ob z))) σ) := by
  intro n
  induction n with
  | zero =>
    intro i hi z hz
    have w9 := wf_seen9 hw
    have en : σ 17 2 = M 0 12 := c.2.2.2.2.1.1
    simp only [als] at hz
    refine r_iload_n dX8_allSeenComesOut_2 rfl ?_
    refine r_aload_n dX8_allSeenComesOut_3 rfl ?_
    refine r_get (k := 0) lfX8_56 dX8_allSeenComesOut_4 (Nat.le_of_ble_eq_true rfl) rfl rfl ?_
    refine r_get (k := 17) lfX8_220 dX8_allSeenComesOut_7 (Nat.le_of_ble_eq_true rfl) rfl rfl ?_
    refine i_icmp_ge 49 dX8_allSeenComesOut_10 rfl ⟨by omega, by omega⟩ ⟨by omega, by omega⟩ (fun q10 => ?_) (fun q10 => ?_)
    · skip
      refine i_const dX8_allSeenComesOut_49 ?_
      refine r_zret rfl dX8_allSeenComesOut_50 rfl ?_
      exact ⟨by rw [hz]; rfl, rfl⟩
    · exfalso
      omega
  | succ n ih =>
    intro i hi z hz
    obtain ⟨gt, gs, gp, gg, gn, gh1, gf⟩ := id c
    have hb := wf_hb hw
    have hh := gs.2.2.2.2
    have w9 := wf_seen9 hw
    have en : σ 17 2 = M 0 12 := gn.1
    obtain ⟨w8, w10⟩ := w9.2 i (by omega)
    obtain ⟨n8, n9⟩ := gn.2 i (by omega)
    have ok := hwi_ok hw s0 s1 l0 l1 w8.1
    have sw := wf_sw hw
    have w1 := wf_1 hw
    obtain ⟨g1, g2, g3⟩ := sw.2.2 s s0 (by have := sw.2.1; omega)
    have hq : 0 ≤ hwi M s l (M 8 i) ∧ hwi M s l (M 8 i) ≤ 4000 := by unfold hwi cut; split <;> omega
    simp only [als] at hz
    refine r_iload_n dX8_allSeenComesOut_2 rfl ?_
    refine r_aload_n dX8_allSeenComesOut_3 rfl ?_
    refine r_get (k := 0) lfX8_56 dX8_allSeenComesOut_4 (Nat.le_of_ble_eq_true rfl) rfl rfl ?_
    refine r_get (k := 17) lfX8_220 dX8_allSeenComesOut_7 (Nat.le_of_ble_eq_true rfl) rfl rfl ?_
    refine i_icmp_ge 49 dX8_allSeenComesOut_10 rfl ⟨by omega, by omega⟩ ⟨by omega, by omega⟩ (fun q10 => ?_) (fun q10 => ?_)
    · exfalso
      omega
    · skip
      refine r_aload_n dX8_allSeenComesOut_13 rfl ?_
      refine r_get (k := 0) lfX8_26 dX8_allSeenComesOut_14 (Nat.le_of_ble_eq_true rfl) rfl rfl ?_
      refine r_iload_n dX8_allSeenComesOut_17 rfl ?_
      refine r_iload_n dX8_allSeenComesOut_18 rfl ?_
      refine r_aload_n dX8_allSeenComesOut_19 rfl ?_
      refine r_get (k := 0) lfX8_56 dX8_allSeenComesOut_20 (Nat.le_of_ble_eq_true rfl) rfl rfl ?_
      refine r_iload_n dX8_allSeenComesOut_23 rfl ?_
      refine i_cvP (c_tenthOf σ i (by omega) (by omega)) lmX8_369 dX8_allSeenComesOut_24 (Nat.le_of_ble_eq_true rfl) rfl ⟨_, _, rfl⟩ (by decide) (by decide) rfl rfl (Nat.le_of_ble_eq_true rfl) ?_
      rw [show ((i : Int)).toNat = i from rfl, n8]
      refine i_cvP (c_heightWith σ (hS M) (lS M) (pS M) gt.2.2.2.2.2.2.2.2.1 gs.1 gt.2.2.2.2.2.2.2.2.2.1 (raw M) gs.2.2.2.1 (by rw [gs.2.1]; exact w1.1) (by rw [gs.2.2.1]; exact w1.2) s l (M 8 i) s0 (by have := sw.2.1; omega) l0 l1 (g2 s1) w8.1 (by omega) g3 ok.1 (by omega)) lmX8_372 dX8_allSeenComesOut_27 (Nat.le_of_ble_eq_true rfl) rfl ⟨_, _, rfl⟩ (by decide) (by decide) rfl rfl (Nat.le_of_ble_eq_true rfl) ?_
      rw [gs.2.1, gs.2.2.1]
      change Rn cW mX8_allSeenComesOut 30 _ [.int (iI (hwi M s l (M 8 i)))] _ _
      refine r_aload_n dX8_allSeenComesOut_30 rfl ?_
      refine r_get (k := 0) lfX8_56 dX8_allSeenComesOut_31 (Nat.le_of_ble_eq_true rfl) rfl rfl ?_
      refine r_iload_n dX8_allSeenComesOut_34 rfl ?_
      refine i_cvP (c_seenHeightOf σ i (by omega) (by omega)) lmX8_375 dX8_allSeenComesOut_35 (Nat.le_of_ble_eq_true rfl) rfl ⟨_, _, rfl⟩ (by decide) (by decide) rfl rfl (Nat.le_of_ble_eq_true rfl) ?_
      rw [show ((i : Int)).toNat = i from rfl, n9]
      refine i_icmp_eq 43 dX8_allSeenComesOut_38 rfl ⟨by omega, by omega⟩ ⟨by omega, by omega⟩ (fun q38 => ?_) (fun q38 => ?_)
      · skip
        refine i_iinc dX8_allSeenComesOut_43 rfl (Nat.le_of_ble_eq_true rfl) ?_
        refine r_goto 2 dX8_allSeenComesOut_46 rfl ?_
        rw [if_pos (by omega)] at hz
        exact ih (i + 1) (by omega) z hz
      · skip
        refine i_const dX8_allSeenComesOut_41 ?_
        refine r_zret rfl dX8_allSeenComesOut_42 rfl ?_
        rw [if_neg (by omega)] at hz
        exact ⟨by rw [hz]; rfl, rfl⟩

set_option maxRecDepth 20000 in
theorem c_allSeen (M σ : rl_S) (c : IC M σ) (hw : WF M) (s l : Int) (s0 : 0 ≤ s) (s1 : s < nS M) (l0 : 2 ≤ l) (l1 : l ≤ 99) : Ct cW mX8_allSeenComesOut [.ref 0, .int (iI s), .int (iI l)] σ (pR (.int (iI (ob (asB M s l)))) σ) := by
  refine Ct.of plX8 (Nat.le_of_ble_eq_true rfl) ?_
  have w9 := wf_seen9 hw
  refine i_const dX8_allSeenComesOut_0 ?_
  refine r_istore_n dX8_allSeenComesOut_1 (Nat.le_of_ble_eq_true rfl) ?_
  exact c_allSeen_l M σ c hw s l s0 s1 l0 l1 (M 0 12).toNat 0 (by omega) _ rfl

theorem c_learn_l (M σ : rl_S) (c : IC M σ) (hw : WF M) (s i : Int) (s0 : 0 ≤ s) (s1 : s < nS M) (i0 : -1 ≤ i ∧ i ≤ 97) : ∀ (n : Nat) (l m : Int), l + n = 100 → 2 ≤ l → 0 ≤ m → m ≤ 100 - n → ∀ z, z = lrn M s i n l m → Rn cW mX8_learn 27 [.ref 0, .int (iI s), .int (iI i), .int (iI m), .int (iI l)] [] σ (pR (.int (iI z)) σ) := by
  intro n
  induction n with
  | zero =>
    intro l m hl l0 m0 m1 z hz
    simp only [lrn] at hz
    refine r_iload dX8_learn_27 rfl ?_
    refine i_bipush dX8_learn_29 (by decide) ?_
    refine i_icmp_gt 61 dX8_learn_31 rfl ⟨by omega, by omega⟩ ⟨by omega, by omega⟩ (fun q31 => ?_) (fun q31 => ?_)
    · skip
      refine r_iload_n dX8_learn_61 rfl ?_
      refine i_const dX8_learn_62 ?_
      refine i_icmp_ne 70 dX8_learn_63 rfl ⟨by omega, by omega⟩ ⟨by omega, by omega⟩ (fun q63 => ?_) (fun q63 => ?_)
      · skip
        refine i_const dX8_learn_70 ?_
        refine r_iret rfl dX8_learn_71 ?_
        exact ⟨by rw [hz]; first | (rw [if_pos (by omega)]) | (rw [if_neg (by omega)]), rfl⟩
      · skip
        refine r_iload_n dX8_learn_66 rfl ?_
        refine r_goto 71 dX8_learn_67 rfl ?_
        refine r_iret rfl dX8_learn_71 ?_
        exact ⟨by rw [hz]; first | (rw [if_pos (by omega)]) | (rw [if_neg (by omega)]), rfl⟩
    · exfalso
      omega
  | succ n ih =>
    intro l m hl l0 m0 m1 z hz
    have ob1 := ob_bd (asB M s l)
    simp only [lrn] at hz
    refine r_iload dX8_learn_27 rfl ?_
    refine i_bipush dX8_learn_29 (by decide) ?_
    refine i_icmp_gt 61 dX8_learn_31 rfl ⟨by omega, by omega⟩ ⟨by omega, by omega⟩ (fun q31 => ?_) (fun q31 => ?_)
    · exfalso
      omega
    · skip
      refine r_aload_n dX8_learn_34 rfl ?_
      refine r_iload_n dX8_learn_35 rfl ?_
      refine r_iload dX8_learn_36 rfl ?_
      refine i_cvP (c_allSeen M σ c hw s l s0 s1 (by omega) (by omega)) lmX8_241 dX8_learn_38 (Nat.le_of_ble_eq_true rfl) rfl ⟨_, _, rfl⟩ (by decide) (by decide) rfl rfl (Nat.le_of_ble_eq_true rfl) ?_
      refine i_if_eq 55 dX8_learn_41 rfl ⟨by omega, by omega⟩ (fun q41 => ?_) (fun q41 => ?_)
      · skip
        refine i_iinc dX8_learn_55 rfl (Nat.le_of_ble_eq_true rfl) ?_
        refine r_goto 27 dX8_learn_58 rfl ?_
        first
          | (rw [if_neg (by rw [ob_f q41]; decide)] at hz; exact ih (l + 1) m (by omega) (by omega) (by omega) (by omega) z hz)
          | (rw [if_pos (ob_t q41), if_neg (by omega)] at hz; exact ih (l + 1) (m + 1) (by omega) (by omega) (by omega) (by omega) z hz)
      · skip
        refine r_iload_n dX8_learn_44 rfl ?_
        refine r_iload_n dX8_learn_45 rfl ?_
        refine i_icmp_ne 52 dX8_learn_46 rfl ⟨by omega, by omega⟩ ⟨by omega, by omega⟩ (fun q46 => ?_) (fun q46 => ?_)
        · skip
          refine i_iinc dX8_learn_52 rfl (Nat.le_of_ble_eq_true rfl) ?_
          refine i_iinc dX8_learn_55 rfl (Nat.le_of_ble_eq_true rfl) ?_
          refine r_goto 27 dX8_learn_58 rfl ?_
          first
            | (rw [if_neg (by rw [ob_f q41]; decide)] at hz; exact ih (l + 1) m (by omega) (by omega) (by omega) (by omega) z hz)
            | (rw [if_pos (ob_t q41), if_neg (by omega)] at hz; exact ih (l + 1) (m + 1) (by omega) (by omega) (by omega) (by omega) z hz)
        · skip
          refine r_iload dX8_learn_49 rfl ?_
          refine r_iret rfl dX8_learn_51 ?_
          rw [if_pos (ob_t q41), if_pos (by omega)] at hz
          exact ⟨by rw [hz], rfl⟩

set_option maxRecDepth 20000 in
theorem c_learn (M σ : rl_S) (c : IC M σ) (hw : WF M) (s i : Int) (hs : -2147483648 ≤ s ∧ s < 2147483648) (hi : -2147483648 ≤ i ∧ i < 2147483648) : Ct cW mX8_learn [.ref 0, .int (iI s), .int (iI i)] σ (pR (.int (iI (q_learn M s i))) σ) := by
  refine Ct.of plX8 (Nat.le_of_ble_eq_true rfl) ?_
  obtain ⟨gt, gs, gp, gg, gn, gh1, gf⟩ := id c
  have hb := wf_hb hw
  have hh := gs.2.2.2.2
  have hn := (wf_sw hw).1
  have hn2 := (wf_sw hw).2.1
  have e7 := gt.2.2.2.2.2.2.1
  have ob1 := ob_bd (decide (0 ≤ s ∧ s < σ 1 7))
  refine r_aload_n dX8_learn_0 rfl ?_
  refine r_iload_n dX8_learn_1 rfl ?_
  refine i_cvP (c_isSwell σ (by omega) s hs) lmX8_99 dX8_learn_2 (Nat.le_of_ble_eq_true rfl) rfl ⟨_, _, rfl⟩ (by decide) (by decide) rfl rfl (Nat.le_of_ble_eq_true rfl) ?_
  refine i_if_eq 19 dX8_learn_5 rfl ⟨by omega, by omega⟩ (fun q5 => ?_) (fun q5 => ?_)
  · have e5 := ob_df q5
    refine i_bipush dX8_learn_19 (by decide) ?_
    refine r_iret rfl dX8_learn_21 ?_
    exact ⟨by unfold q_learn; rw [if_neg (by omega)], rfl⟩
  · have e5 := ob_dt q5
    refine r_iload_n dX8_learn_8 rfl ?_
    refine i_const dX8_learn_9 ?_
    refine i_icmp_lt 19 dX8_learn_10 rfl ⟨by omega, by omega⟩ ⟨by omega, by omega⟩ (fun q10 => ?_) (fun q10 => ?_)
    · skip
      refine i_bipush dX8_learn_19 (by decide) ?_
      refine r_iret rfl dX8_learn_21 ?_
      exact ⟨by unfold q_learn; rw [if_neg (by omega)], rfl⟩
    · skip
      refine r_iload_n dX8_learn_13 rfl ?_
      refine i_bipush dX8_learn_14 (by decide) ?_
      refine i_icmp_le 22 dX8_learn_16 rfl ⟨by omega, by omega⟩ ⟨by omega, by omega⟩ (fun q16 => ?_) (fun q16 => ?_)
      · skip
        refine i_const dX8_learn_22 ?_
        refine r_istore_n dX8_learn_23 (Nat.le_of_ble_eq_true rfl) ?_
        refine i_const dX8_learn_24 ?_
        refine r_istore dX8_learn_25 (Nat.le_of_ble_eq_true rfl) ?_
        exact c_learn_l M σ c hw s i (by omega) (by omega) (by omega) 98 2 0 (by omega) (by omega) (by omega) (by omega) _ (by unfold q_learn; rw [if_pos (by omega)])
      · skip
        refine i_bipush dX8_learn_19 (by decide) ?_
        refine r_iret rfl dX8_learn_21 ?_
        exact ⟨by unfold q_learn; rw [if_neg (by omega)], rfl⟩
