/-! ship, settings, lots, climbs -/
def ln (g l t : Int) : Int := if g = 0 ∨ l < 2 then 0 else if 4 * (t % l) < l ∨ 3 * l ≤ 4 * (t % l) then 1 else 2
theorem ln_bd (g l t : Int) : 0 ≤ ln g l t ∧ ln g l t ≤ 2 := by
  unfold ln
  repeat' split
  all_goals decide
def nout (q : Int → Int) : Nat → Int → Int
  | 0, t => 400
  | n + 1, t => if q t = 1 then nout q n (t + 1) else t
theorem nout_bd (q : Int → Int) : ∀ (n : Nat) (t : Int), t + n ≤ 400 → nout q n t = 400 ∨ (t ≤ nout q n t ∧ nout q n t < 400)
  | 0, t, h => Or.inl rfl
  | n + 1, t, h => by
    have := nout_bd q n (t + 1) (by omega)
    simp only [nout]
    split <;> omega
/-- a climb: n rungs are left, the k-th comes; the tenth, the bangs -/
def clm (q h : Int → Int) (foot space pace : Int) : Nat → Int → Int → Int → Int × Int
  | 0, _, t, b => (t, b)
  | n + 1, k, t, b => if 399 < nout q (400 - (t + pace)).toNat (t + pace) ∨ foot + k * space < h (nout q (400 - (t + pace)).toNat (t + pace)) then (-1, b)
    else clm q h foot space pace n (k + 1) (nout q (400 - (t + pace)).toNat (t + pace)) (b + (if q (nout q (400 - (t + pace)).toNat (t + pace)) = 2 then 1 else 0))
theorem clm_bd (q h : Int → Int) (foot space pace : Int) (hp : 1 ≤ pace) : ∀ (n : Nat) (k t b : Int), 0 ≤ t → t < 400 → 0 ≤ b → ((clm q h foot space pace n k t b).1 = -1 ∨ (t ≤ (clm q h foot space pace n k t b).1 ∧ (clm q h foot space pace n k t b).1 < 400)) ∧ b ≤ (clm q h foot space pace n k t b).2 ∧ (clm q h foot space pace n k t b).2 ≤ b + n
  | 0, k, t, b, h0, h1, h2 => by simp only [clm]; omega
  | n + 1, k, t, b, h0, h1, h2 => by
    simp only [clm]
    split
    · exact ⟨Or.inl rfl, Int.le_refl _, by show b ≤ b + _; omega⟩
    · rename_i hc
      by_cases ht : t + pace ≤ 400
      · have i1 := nout_bd q (400 - (t + pace)).toNat (t + pace) (by omega)
        have i2 := clm_bd q h foot space pace hp n (k + 1) (nout q (400 - (t + pace)).toNat (t + pace)) (b + (if q (nout q (400 - (t + pace)).toNat (t + pace)) = 2 then 1 else 0)) (by omega) (by omega) (by split <;> omega)
        have i3 : 0 ≤ (if q (nout q (400 - (t + pace)).toNat (t + pace)) = 2 then (1 : Int) else 0) ∧ (if q (nout q (400 - (t + pace)).toNat (t + pace)) = 2 then (1 : Int) else 0) ≤ 1 := by split <;> decide
        omega
      · exfalso
        apply hc
        left
        rw [show (400 - (t + pace)).toNat = 0 by omega]
        show (399 : Int) < 400
        decide
theorem us16_bd (z : Int) : 0 ≤ us16 z ∧ us16 z < 65536 := by
  unfold us16
  have e : ((iI 16).toUInt32 &&& Int32.toUInt32 31) = 16 := by decide
  rw [e]
  generalize (iI z).toUInt32 = u
  have h : (u >>> 16).toNat = u.toNat / 65536 := by simp [UInt32.toNat_shiftRight, Nat.shiftRight_eq_div_pow]
  have h2 := u.toNat_lt
  have h3 : (u >>> 16).toInt32.toInt = ((u >>> 16).toNat : Int) := by
    show (u >>> 16).toBitVec.toInt = _
    rw [BitVec.toInt_eq_toNat_of_lt (by show 2 * (u >>> 16).toNat < _; omega)]
    rfl
  omega
/-- the next seed -/
def nsd (z : Int) : Int := 1103515245 * z + 12345
def draw (z m : Int) : Int := us16 (nsd z) % m
theorem draw_bd (z : Int) {m : Int} (h : 0 < m) : 0 ≤ draw z m ∧ draw z m < m := ⟨Int.emod_nonneg _ (by omega), Int.emod_lt_of_pos _ h⟩
def nar (f v : Int) : Int := if f = 0 then b8 v else if f = 1 then s16 v else v
def trb (lost form size f i : Int) : Int := if lost ≠ 0 then 1 else if form ≠ f then 3 else if i < 0 ∨ size ≤ i then 2 else 0
theorem zL_bd : ∀ j, j < 12 → 0 ≤ zLEAST j ∧ zLEAST j ≤ 1000 ∧ 0 ≤ zMOST j ∧ zMOST j ≤ 1000 := by decide

set_option maxRecDepth 20000 in
theorem c_leanAt (σ : rl_S) (g0 : 0 ≤ σ 13 1 ∧ σ 13 1 ≤ 9) (l0 : 0 ≤ σ 13 2 ∧ σ 13 2 ≤ 99) (t : Int) (t0 : 0 ≤ t) (t1 : t < 400) : Ct cW mX5_leanAt [.ref 13, .int (iI t)] σ (pR (.int (iI (ln (σ 13 1) (σ 13 2) t))) σ) := by
  refine Ct.of plX5 (Nat.le_of_ble_eq_true rfl) ?_
  refine r_aload_n dX5_leanAt_0 rfl ?_
  refine r_get (k := 13) lfX5_21 dX5_leanAt_1 (Nat.le_of_ble_eq_true rfl) rfl rfl ?_
  refine i_if_eq 15 dX5_leanAt_4 rfl ⟨by omega, by omega⟩ (fun q4 => ?_) (fun q4 => ?_)
  · skip
    refine i_const dX5_leanAt_15 ?_
    refine r_iret rfl dX5_leanAt_16 ?_
    refine ⟨?_, rfl⟩
    congr 2
    simp only [ln]
    (repeat (first | rfl | (rw [if_pos (by omega)]) | (rw [if_neg (by omega)])))
  · skip
    refine r_aload_n dX5_leanAt_7 rfl ?_
    refine r_get (k := 13) lfX5_28 dX5_leanAt_8 (Nat.le_of_ble_eq_true rfl) rfl rfl ?_
    refine i_const dX5_leanAt_11 ?_
    refine i_icmp_ge 17 dX5_leanAt_12 rfl ⟨by omega, by omega⟩ ⟨by omega, by omega⟩ (fun q12 => ?_) (fun q12 => ?_)
    · skip
      refine i_const dX5_leanAt_17 ?_
      refine r_iload_n dX5_leanAt_18 rfl ?_
      refine r_aload_n dX5_leanAt_19 rfl ?_
      refine r_get (k := 13) lfX5_28 dX5_leanAt_20 (Nat.le_of_ble_eq_true rfl) rfl rfl ?_
      refine i_irem dX5_leanAt_23 ⟨by omega, by omega⟩ ⟨by omega, by omega⟩ ?_
      have h1 := Int.emod_nonneg t (show σ 13 2 ≠ 0 by omega)
      have h2 := Int.emod_lt_of_pos t (show 0 < σ 13 2 by omega)
      refine i_imul dX5_leanAt_24 ?_
      refine r_istore_n dX5_leanAt_25 (Nat.le_of_ble_eq_true rfl) ?_
      refine r_iload_n dX5_leanAt_26 rfl ?_
      refine r_aload_n dX5_leanAt_27 rfl ?_
      refine r_get (k := 13) lfX5_28 dX5_leanAt_28 (Nat.le_of_ble_eq_true rfl) rfl rfl ?_
      refine i_icmp_lt 44 dX5_leanAt_31 rfl ⟨by omega, by omega⟩ ⟨by omega, by omega⟩ (fun q31 => ?_) (fun q31 => ?_)
      · skip
        refine i_const dX5_leanAt_44 ?_
        refine r_goto 49 dX5_leanAt_45 rfl ?_
        refine r_iret rfl dX5_leanAt_49 ?_
        refine ⟨?_, rfl⟩
        congr 2
        simp only [ln]
        (repeat (first | rfl | (rw [if_pos (by omega)]) | (rw [if_neg (by omega)])))
      · skip
        refine r_iload_n dX5_leanAt_34 rfl ?_
        refine i_const dX5_leanAt_35 ?_
        refine r_aload_n dX5_leanAt_36 rfl ?_
        refine r_get (k := 13) lfX5_28 dX5_leanAt_37 (Nat.le_of_ble_eq_true rfl) rfl rfl ?_
        refine i_imul dX5_leanAt_40 ?_
        refine i_icmp_lt 48 dX5_leanAt_41 rfl ⟨by omega, by omega⟩ ⟨by omega, by omega⟩ (fun q41 => ?_) (fun q41 => ?_)
        · skip
          refine i_const dX5_leanAt_48 ?_
          refine r_iret rfl dX5_leanAt_49 ?_
          refine ⟨?_, rfl⟩
          congr 2
          simp only [ln]
          (repeat (first | rfl | (rw [if_pos (by omega)]) | (rw [if_neg (by omega)])))
        · skip
          refine i_const dX5_leanAt_44 ?_
          refine r_goto 49 dX5_leanAt_45 rfl ?_
          refine r_iret rfl dX5_leanAt_49 ?_
          refine ⟨?_, rfl⟩
          congr 2
          simp only [ln]
          (repeat (first | rfl | (rw [if_pos (by omega)]) | (rw [if_neg (by omega)])))
    · skip
      refine i_const dX5_leanAt_15 ?_
      refine r_iret rfl dX5_leanAt_16 ?_
      refine ⟨?_, rfl⟩
      congr 2
      simp only [ln]
      (repeat (first | rfl | (rw [if_pos (by omega)]) | (rw [if_neg (by omega)])))

theorem c_notOut_l (σ : rl_S) (g0 : 0 ≤ σ 13 1 ∧ σ 13 1 ≤ 9) (l0 : 0 ≤ σ 13 2 ∧ σ 13 2 ≤ 99) (a : Int) : ∀ (n : Nat) (t : Int), 0 ≤ t → ((t + n = 400) ∨ (n = 0 ∧ 400 ≤ t ∧ t < 1000)) → ∀ z, z = nout (ln (σ 13 1) (σ 13 2)) n t → Rn cW mX5_notOutFrom 2 [.ref 13, .int (iI a), .int (iI t)] [] σ (pR (.int (iI z)) σ) := by
  intro n
  induction n with
  | zero =>
    intro t h0 ht z hz
    refine r_iload_n dX5_notOutFrom_2 rfl ?_
    refine i_sipush dX5_notOutFrom_3 (by decide) ?_
    refine i_icmp_ge 26 dX5_notOutFrom_6 rfl ⟨by omega, by omega⟩ ⟨by omega, by omega⟩ (fun q6 => ?_) (fun q6 => ?_)
    · skip
      refine i_sipush dX5_notOutFrom_26 (by decide) ?_
      refine r_iret rfl dX5_notOutFrom_29 ?_
      exact ⟨by rw [hz]; rfl, rfl⟩
    · exfalso
      omega
  | succ n ih =>
    intro t h0 ht z hz
    have hm := ln_bd (σ 13 1) (σ 13 2) t
    simp only [nout] at hz
    refine r_iload_n dX5_notOutFrom_2 rfl ?_
    refine i_sipush dX5_notOutFrom_3 (by decide) ?_
    refine i_icmp_ge 26 dX5_notOutFrom_6 rfl ⟨by omega, by omega⟩ ⟨by omega, by omega⟩ (fun q6 => ?_) (fun q6 => ?_)
    · exfalso
      omega
    · skip
      refine r_aload_n dX5_notOutFrom_9 rfl ?_
      refine r_iload_n dX5_notOutFrom_10 rfl ?_
      refine i_cvP (c_leanAt σ g0 l0 t (by omega) (by omega)) lmX5_31 dX5_notOutFrom_11 (Nat.le_of_ble_eq_true rfl) rfl ⟨_, _, rfl⟩ (by decide) (by decide) rfl rfl (Nat.le_of_ble_eq_true rfl) ?_
      refine i_const dX5_notOutFrom_14 ?_
      refine i_icmp_eq 20 dX5_notOutFrom_15 rfl ⟨by omega, by omega⟩ ⟨by omega, by omega⟩ (fun q15 => ?_) (fun q15 => ?_)
      · skip
        refine i_iinc dX5_notOutFrom_20 rfl (Nat.le_of_ble_eq_true rfl) ?_
        refine r_goto 2 dX5_notOutFrom_23 rfl ?_
        rw [if_pos (by omega)] at hz
        exact ih (t + 1) (by omega) (by omega) z hz
      · skip
        refine r_iload_n dX5_notOutFrom_18 rfl ?_
        refine r_iret rfl dX5_notOutFrom_19 ?_
        rw [if_neg (by omega)] at hz
        exact ⟨by rw [hz], rfl⟩

set_option maxRecDepth 20000 in
theorem c_notOut (σ : rl_S) (g0 : 0 ≤ σ 13 1 ∧ σ 13 1 ≤ 9) (l0 : 0 ≤ σ 13 2 ∧ σ 13 2 ≤ 99) (t : Int) (t0 : 0 ≤ t) (t1 : t < 1000) : Ct cW mX5_notOutFrom [.ref 13, .int (iI t)] σ (pR (.int (iI (nout (ln (σ 13 1) (σ 13 2)) (400 - t).toNat t))) σ) := by
  refine Ct.of plX5 (Nat.le_of_ble_eq_true rfl) ?_
  refine r_iload_n dX5_notOutFrom_0 rfl ?_
  refine r_istore_n dX5_notOutFrom_1 (Nat.le_of_ble_eq_true rfl) ?_
  exact c_notOut_l σ g0 l0 t (400 - t).toNat t t0 (by omega) _ rfl

set_option maxRecDepth 20000 in
theorem c_shipRenew (σ : rl_S) (f g : Int → Int) (hf : S6 7 σ f) (hg : S6 8 σ g) : Ct cW mX5_renew [.ref 13] σ (qV (fun σ' => σ' = sup (sup σ 13 1 (f 0)) 13 2 (g 0))) := by
  refine Ct.of plX5 (Nat.le_of_ble_eq_true rfl) ?_
  refine r_aload_n dX5_renew_0 rfl ?_
  refine r_aload_n dX5_renew_1 rfl ?_
  refine r_get (k := 13) lfX5_9 dX5_renew_2 (Nat.le_of_ble_eq_true rfl) rfl rfl ?_
  refine i_const dX5_renew_5 ?_
  refine i_cvP (c_heightOf_5 σ f hf 0 (by decide) (by decide)) lmX5_15 dX5_renew_6 (Nat.le_of_ble_eq_true rfl) rfl ⟨_, _, rfl⟩ (by decide) (by decide) rfl rfl (Nat.le_of_ble_eq_true rfl) ?_
  refine i_put (k := 13) lpX5_21 dX5_renew_9 (Nat.le_of_ble_eq_true rfl) rfl rfl ?_
  refine r_aload_n dX5_renew_12 rfl ?_
  refine r_aload_n dX5_renew_13 rfl ?_
  refine r_get (k := 13) lfX5_9 dX5_renew_14 (Nat.le_of_ble_eq_true rfl) rfl rfl ?_
  refine i_const dX5_renew_17 ?_
  refine i_cvP (c_lengthOf_5 _ g (row_o hg (by decide)) 0 (by decide) (by decide)) lmX5_25 dX5_renew_18 (Nat.le_of_ble_eq_true rfl) rfl ⟨_, _, rfl⟩ (by decide) (by decide) rfl rfl (Nat.le_of_ble_eq_true rfl) ?_
  refine i_put (k := 13) lpX5_28 dX5_renew_21 (Nat.le_of_ble_eq_true rfl) rfl rfl ?_
  refine r_vret rfl dX5_renew_24 ?_
  exact ⟨rfl, rfl⟩

set_option maxRecDepth 20000 in
theorem c_of (σ : rl_S) (t : Int) (h0 : 0 ≤ t) (h1 : t < 12) : Ct cW mX3_of [.ref 14, .int (iI t)] σ (pR (.int (iI (σ 15 t.toNat))) σ) := by
  refine Ct.of plX3 (Nat.le_of_ble_eq_true rfl) ?_
  refine r_iload_n dX3_of_0 rfl ?_
  refine i_if_lt 22 dX3_of_1 rfl ⟨by omega, by omega⟩ (fun q1 => ?_) (fun q1 => ?_)
  · exfalso
    omega
  · skip
    refine r_iload_n dX3_of_4 rfl ?_
    refine r_aload_n dX3_of_5 rfl ?_
    refine r_get (k := 14) lfX3_13 dX3_of_6 (Nat.le_of_ble_eq_true rfl) rfl rfl ?_
    refine i_alen (k := 15) dX3_of_9 (Nat.le_of_ble_eq_true rfl) rfl rfl ?_
    refine i_icmp_ge 22 dX3_of_10 rfl ⟨by omega, by omega⟩ ⟨by omega, by omega⟩ (fun q10 => ?_) (fun q10 => ?_)
    · exfalso
      omega
    · skip
      refine r_aload_n dX3_of_13 rfl ?_
      refine r_get (k := 14) lfX3_13 dX3_of_14 (Nat.le_of_ble_eq_true rfl) rfl rfl ?_
      refine r_iload_n dX3_of_17 rfl ?_
      refine i_ald (k := 15) dX3_of_18 (Nat.le_of_ble_eq_true rfl) rfl rfl ⟨by omega, by omega⟩ (by decide) ?_
      refine r_goto 23 dX3_of_19 rfl ?_
      refine r_iret rfl dX3_of_23 ?_
      exact ⟨rfl, rfl⟩

set_option maxRecDepth 20000 in
theorem c_change (σ : rl_S) (t v : Int) (h0 : 0 ≤ t) (h1 : t < 12) : Ct cW mX3_change [.ref 14, .int (iI t), .int (iI v)] σ (qV (fun σ' => σ' = sup σ 15 t.toNat v)) := by
  refine Ct.of plX3 (Nat.le_of_ble_eq_true rfl) ?_
  refine r_iload_n dX3_change_0 rfl ?_
  refine i_if_lt 20 dX3_change_1 rfl ⟨by omega, by omega⟩ (fun q1 => ?_) (fun q1 => ?_)
  · exfalso
    omega
  · skip
    refine r_iload_n dX3_change_4 rfl ?_
    refine r_aload_n dX3_change_5 rfl ?_
    refine r_get (k := 14) lfX3_13 dX3_change_6 (Nat.le_of_ble_eq_true rfl) rfl rfl ?_
    refine i_alen (k := 15) dX3_change_9 (Nat.le_of_ble_eq_true rfl) rfl rfl ?_
    refine i_icmp_ge 20 dX3_change_10 rfl ⟨by omega, by omega⟩ ⟨by omega, by omega⟩ (fun q10 => ?_) (fun q10 => ?_)
    · exfalso
      omega
    · skip
      refine r_aload_n dX3_change_13 rfl ?_
      refine r_get (k := 14) lfX3_13 dX3_change_14 (Nat.le_of_ble_eq_true rfl) rfl rfl ?_
      refine r_iload_n dX3_change_17 rfl ?_
      refine r_iload_n dX3_change_18 rfl ?_
      refine i_ast (k := 15) dX3_change_19 (Nat.le_of_ble_eq_true rfl) rfl rfl ⟨by omega, by omega⟩ (by decide) ?_
      refine r_vret rfl dX3_change_20 ?_
      exact ⟨rfl, rfl⟩

def alw (t v : Int) : Bool := decide (0 ≤ t ∧ t < 12 ∧ zLEAST t.toNat ≤ v ∧ v ≤ zMOST t.toNat)
set_option maxRecDepth 20000 in
theorem c_allows (σ : rl_S) (t v : Int) (ht : -2147483648 ≤ t ∧ t < 2147483648) (hv : -2147483648 ≤ v ∧ v < 2147483648) : Ct cW mX3_allows [.ref 14, .int (iI t), .int (iI v)] σ (pR (.int (iI (ob (alw t v)))) σ) := by
  refine Ct.of plX3 (Nat.le_of_ble_eq_true rfl) ?_
  refine r_iload_n dX3_allows_0 rfl ?_
  refine i_if_lt 42 dX3_allows_1 rfl ⟨by omega, by omega⟩ (fun q1 => ?_) (fun q1 => ?_)
  · skip
    refine i_const dX3_allows_42 ?_
    refine r_zret rfl dX3_allows_43 rfl ?_
    first
      | exact ⟨by rw [show alw t v = true from decide_eq_true (by omega)]; rfl, rfl⟩
      | exact ⟨by rw [show alw t v = false from decide_eq_false (by omega)]; rfl, rfl⟩
  · skip
    refine r_iload_n dX3_allows_4 rfl ?_
    refine r_gets (ref := "") zin_LEAST lsX3_16 dX3_allows_5 ?_
    refine i_tlen zin_LEAST dX3_allows_8 ?_
    refine i_icmp_ge 42 dX3_allows_9 rfl ⟨by omega, by omega⟩ ⟨by omega, by omega⟩ (fun q9 => ?_) (fun q9 => ?_)
    · skip
      refine i_const dX3_allows_42 ?_
      refine r_zret rfl dX3_allows_43 rfl ?_
      first
        | exact ⟨by rw [show alw t v = true from decide_eq_true (by omega)]; rfl, rfl⟩
        | exact ⟨by rw [show alw t v = false from decide_eq_false (by omega)]; rfl, rfl⟩
    · skip
      refine r_iload_n dX3_allows_12 rfl ?_
      refine r_gets (ref := "") zin_MOST lsX3_19 dX3_allows_13 ?_
      refine i_tlen zin_MOST dX3_allows_16 ?_
      refine i_icmp_ge 42 dX3_allows_17 rfl ⟨by omega, by omega⟩ ⟨by omega, by omega⟩ (fun q17 => ?_) (fun q17 => ?_)
      · skip
        refine i_const dX3_allows_42 ?_
        refine r_zret rfl dX3_allows_43 rfl ?_
        first
          | exact ⟨by rw [show alw t v = true from decide_eq_true (by omega)]; rfl, rfl⟩
          | exact ⟨by rw [show alw t v = false from decide_eq_false (by omega)]; rfl, rfl⟩
      · skip
        have hz := zL_bd t.toNat (by omega)
        refine r_iload_n dX3_allows_20 rfl ?_
        refine r_gets (ref := "") zin_LEAST lsX3_16 dX3_allows_21 ?_
        refine r_iload_n dX3_allows_24 rfl ?_
        refine i_tald zin_LEAST dX3_allows_25 ⟨by omega, by omega⟩ (by decide) ?_
        refine i_icmp_lt 42 dX3_allows_26 rfl ⟨by omega, by omega⟩ ⟨by omega, by omega⟩ (fun q26 => ?_) (fun q26 => ?_)
        · skip
          refine i_const dX3_allows_42 ?_
          refine r_zret rfl dX3_allows_43 rfl ?_
          first
            | exact ⟨by rw [show alw t v = true from decide_eq_true (by omega)]; rfl, rfl⟩
            | exact ⟨by rw [show alw t v = false from decide_eq_false (by omega)]; rfl, rfl⟩
        · skip
          refine r_iload_n dX3_allows_29 rfl ?_
          refine r_gets (ref := "") zin_MOST lsX3_19 dX3_allows_30 ?_
          refine r_iload_n dX3_allows_33 rfl ?_
          refine i_tald zin_MOST dX3_allows_34 ⟨by omega, by omega⟩ (by decide) ?_
          refine i_icmp_gt 42 dX3_allows_35 rfl ⟨by omega, by omega⟩ ⟨by omega, by omega⟩ (fun q35 => ?_) (fun q35 => ?_)
          · skip
            refine i_const dX3_allows_42 ?_
            refine r_zret rfl dX3_allows_43 rfl ?_
            first
              | exact ⟨by rw [show alw t v = true from decide_eq_true (by omega)]; rfl, rfl⟩
              | exact ⟨by rw [show alw t v = false from decide_eq_false (by omega)]; rfl, rfl⟩
          · skip
            refine i_const dX3_allows_38 ?_
            refine r_goto 43 dX3_allows_39 rfl ?_
            refine r_zret rfl dX3_allows_43 rfl ?_
            first
              | exact ⟨by rw [show alw t v = true from decide_eq_true (by omega)]; rfl, rfl⟩
              | exact ⟨by rw [show alw t v = false from decide_eq_false (by omega)]; rfl, rfl⟩

set_option maxRecDepth 20000 in
theorem c_draw (σ : rl_S) (m : Int) (m0 : 1 ≤ m) (m1 : m ≤ 1000) : Ct cW mX1_draw [.ref 20, .int (iI m)] σ (qI (fun z σ' => z = draw (σ 20 0) m ∧ σ' = sup σ 20 0 (nsd (σ 20 0)))) := by
  refine Ct.of plX1 (Nat.le_of_ble_eq_true rfl) ?_
  refine r_aload_n dX1_draw_0 rfl ?_
  refine i_ldc lcX1_7 dX1_draw_1 ?_
  rw [show (1103515245 : Int32).toInt = 1103515245 from by decide]
  refine r_aload_n dX1_draw_3 rfl ?_
  refine r_get (k := 20) lfX1_8 dX1_draw_4 (Nat.le_of_ble_eq_true rfl) rfl rfl ?_
  refine i_imul dX1_draw_7 ?_
  refine i_sipush dX1_draw_8 (by decide) ?_
  refine i_iadd dX1_draw_11 ?_
  refine i_put (k := 20) lpX1_8 dX1_draw_12 (Nat.le_of_ble_eq_true rfl) rfl rfl ?_
  refine r_iload_n dX1_draw_15 rfl ?_
  refine i_const dX1_draw_16 ?_
  refine i_icmp_ge 24 dX1_draw_17 rfl ⟨by omega, by omega⟩ ⟨by omega, by omega⟩ (fun q17 => ?_) (fun q17 => ?_)
  · skip
    refine r_aload_n dX1_draw_24 rfl ?_
    refine r_get (k := 20) lfX1_8 dX1_draw_25 (Nat.le_of_ble_eq_true rfl) rfl rfl ?_
    rw [sup_h]
    refine i_bipush dX1_draw_28 (by decide) ?_
    refine i_iushr16 dX1_draw_30 ?_
    have hu := us16_bd (1103515245 * σ 20 0 + 12345)
    refine r_iload_n dX1_draw_31 rfl ?_
    refine i_irem dX1_draw_32 ⟨by omega, by omega⟩ ⟨by omega, by omega⟩ ?_
    refine r_iret rfl dX1_draw_33 ?_
    exact ⟨_, rfl, rfl, rfl⟩
  · exfalso
    omega

set_option maxRecDepth 20000 in
theorem c_seenAppend (σ : rl_S) (n0 : 0 ≤ σ 17 2) (n1 : σ 17 2 < 8) (t v : Int) : Ct cW mX6_append [.ref 17, .int (iI t), .int (iI v)] σ (qV (fun σ' => σ' = sup (sup (sup σ 18 (σ 17 2).toNat t) 19 (σ 17 2).toNat v) 17 2 (σ 17 2 + 1))) := by
  refine Ct.of plX6 (Nat.le_of_ble_eq_true rfl) ?_
  refine r_aload_n dX6_append_0 rfl ?_
  refine r_get (k := 17) lfX6_18 dX6_append_1 (Nat.le_of_ble_eq_true rfl) rfl rfl ?_
  refine i_if_lt 61 dX6_append_4 rfl ⟨by omega, by omega⟩ (fun q4 => ?_) (fun q4 => ?_)
  · exfalso
    omega
  · skip
    refine r_aload_n dX6_append_7 rfl ?_
    refine r_get (k := 17) lfX6_18 dX6_append_8 (Nat.le_of_ble_eq_true rfl) rfl rfl ?_
    refine r_aload_n dX6_append_11 rfl ?_
    refine r_get (k := 17) lfX6_9 dX6_append_12 (Nat.le_of_ble_eq_true rfl) rfl rfl ?_
    refine i_alen (k := 18) dX6_append_15 (Nat.le_of_ble_eq_true rfl) rfl rfl ?_
    refine i_icmp_ge 61 dX6_append_16 rfl ⟨by omega, by omega⟩ ⟨by omega, by omega⟩ (fun q16 => ?_) (fun q16 => ?_)
    · exfalso
      omega
    · skip
      refine r_aload_n dX6_append_19 rfl ?_
      refine r_get (k := 17) lfX6_18 dX6_append_20 (Nat.le_of_ble_eq_true rfl) rfl rfl ?_
      refine r_aload_n dX6_append_23 rfl ?_
      refine r_get (k := 17) lfX6_15 dX6_append_24 (Nat.le_of_ble_eq_true rfl) rfl rfl ?_
      refine i_alen (k := 19) dX6_append_27 (Nat.le_of_ble_eq_true rfl) rfl rfl ?_
      refine i_icmp_ge 61 dX6_append_28 rfl ⟨by omega, by omega⟩ ⟨by omega, by omega⟩ (fun q28 => ?_) (fun q28 => ?_)
      · exfalso
        omega
      · skip
        refine r_aload_n dX6_append_31 rfl ?_
        refine r_get (k := 17) lfX6_9 dX6_append_32 (Nat.le_of_ble_eq_true rfl) rfl rfl ?_
        refine r_aload_n dX6_append_35 rfl ?_
        refine r_get (k := 17) lfX6_18 dX6_append_36 (Nat.le_of_ble_eq_true rfl) rfl rfl ?_
        refine r_iload_n dX6_append_39 rfl ?_
        refine i_ast (k := 18) dX6_append_40 (Nat.le_of_ble_eq_true rfl) rfl rfl ⟨by omega, by omega⟩ (by decide) ?_
        refine r_aload_n dX6_append_41 rfl ?_
        refine r_get (k := 17) lfX6_15 dX6_append_42 (Nat.le_of_ble_eq_true rfl) rfl rfl ?_
        refine r_aload_n dX6_append_45 rfl ?_
        refine r_get (k := 17) lfX6_18 dX6_append_46 (Nat.le_of_ble_eq_true rfl) rfl rfl ?_
        rw [sup_k _ _ _ _ _ (show 17 ≠ 18 by decide)]
        refine r_iload_n dX6_append_49 rfl ?_
        refine i_ast (k := 19) dX6_append_50 (Nat.le_of_ble_eq_true rfl) rfl rfl ⟨by omega, by omega⟩ (by decide) ?_
        refine r_aload_n dX6_append_51 rfl ?_
        refine r_dup dX6_append_52 rfl ?_
        refine r_get (k := 17) lfX6_18 dX6_append_53 (Nat.le_of_ble_eq_true rfl) rfl rfl ?_
        rw [sup_k _ _ _ _ _ (show 17 ≠ 19 by decide), sup_k _ _ _ _ _ (show 17 ≠ 18 by decide)]
        refine i_const dX6_append_56 ?_
        refine i_iadd dX6_append_57 ?_
        refine i_put (k := 17) lpX6_18 dX6_append_58 (Nat.le_of_ble_eq_true rfl) rfl rfl ?_
        refine r_vret rfl dX6_append_61 ?_
        exact ⟨rfl, rfl⟩

set_option maxRecDepth 20000 in
theorem c_tenthOf (σ : rl_S) (t : Int) (h0 : 0 ≤ t) (h1 : t < 8) : Ct cW mX6_tenthOf [.ref 17, .int (iI t)] σ (pR (.int (iI (σ 18 t.toNat))) σ) := by
  refine Ct.of plX6 (Nat.le_of_ble_eq_true rfl) ?_
  refine r_iload_n dX6_tenthOf_0 rfl ?_
  refine i_if_lt 22 dX6_tenthOf_1 rfl ⟨by omega, by omega⟩ (fun q1 => ?_) (fun q1 => ?_)
  · exfalso
    omega
  · skip
    refine r_iload_n dX6_tenthOf_4 rfl ?_
    refine r_aload_n dX6_tenthOf_5 rfl ?_
    refine r_get (k := 17) lfX6_9 dX6_tenthOf_6 (Nat.le_of_ble_eq_true rfl) rfl rfl ?_
    refine i_alen (k := 18) dX6_tenthOf_9 (Nat.le_of_ble_eq_true rfl) rfl rfl ?_
    refine i_icmp_ge 22 dX6_tenthOf_10 rfl ⟨by omega, by omega⟩ ⟨by omega, by omega⟩ (fun q10 => ?_) (fun q10 => ?_)
    · exfalso
      omega
    · skip
      refine r_aload_n dX6_tenthOf_13 rfl ?_
      refine r_get (k := 17) lfX6_9 dX6_tenthOf_14 (Nat.le_of_ble_eq_true rfl) rfl rfl ?_
      refine r_iload_n dX6_tenthOf_17 rfl ?_
      refine i_ald (k := 18) dX6_tenthOf_18 (Nat.le_of_ble_eq_true rfl) rfl rfl ⟨by omega, by omega⟩ (by decide) ?_
      refine r_goto 23 dX6_tenthOf_19 rfl ?_
      refine r_iret rfl dX6_tenthOf_23 ?_
      exact ⟨rfl, rfl⟩

set_option maxRecDepth 20000 in
theorem c_seenHeightOf (σ : rl_S) (t : Int) (h0 : 0 ≤ t) (h1 : t < 8) : Ct cW mX6_heightOf [.ref 17, .int (iI t)] σ (pR (.int (iI (σ 19 t.toNat))) σ) := by
  refine Ct.of plX6 (Nat.le_of_ble_eq_true rfl) ?_
  refine r_iload_n dX6_heightOf_0 rfl ?_
  refine i_if_lt 22 dX6_heightOf_1 rfl ⟨by omega, by omega⟩ (fun q1 => ?_) (fun q1 => ?_)
  · exfalso
    omega
  · skip
    refine r_iload_n dX6_heightOf_4 rfl ?_
    refine r_aload_n dX6_heightOf_5 rfl ?_
    refine r_get (k := 17) lfX6_15 dX6_heightOf_6 (Nat.le_of_ble_eq_true rfl) rfl rfl ?_
    refine i_alen (k := 19) dX6_heightOf_9 (Nat.le_of_ble_eq_true rfl) rfl rfl ?_
    refine i_icmp_ge 22 dX6_heightOf_10 rfl ⟨by omega, by omega⟩ ⟨by omega, by omega⟩ (fun q10 => ?_) (fun q10 => ?_)
    · exfalso
      omega
    · skip
      refine r_aload_n dX6_heightOf_13 rfl ?_
      refine r_get (k := 17) lfX6_15 dX6_heightOf_14 (Nat.le_of_ble_eq_true rfl) rfl rfl ?_
      refine r_iload_n dX6_heightOf_17 rfl ?_
      refine i_ald (k := 19) dX6_heightOf_18 (Nat.le_of_ble_eq_true rfl) rfl rfl ⟨by omega, by omega⟩ (by decide) ?_
      refine r_goto 23 dX6_heightOf_19 rfl ?_
      refine r_iret rfl dX6_heightOf_23 ?_
      exact ⟨rfl, rfl⟩

/-- what a climb needs of the world -/
def CP (σ : rl_S) (h : Int → Int) : Prop := SH σ h ∧ HB h ∧ (0 ≤ σ 13 1 ∧ σ 13 1 ≤ 9) ∧ (0 ≤ σ 13 2 ∧ σ 13 2 ≤ 99) ∧ (0 ≤ σ 15 0 ∧ σ 15 0 ≤ 999) ∧ (1 ≤ σ 15 1 ∧ σ 15 1 ≤ 12) ∧ (1 ≤ σ 15 2 ∧ σ 15 2 ≤ 30) ∧ (1 ≤ σ 15 10 ∧ σ 15 10 ≤ 9)
def fr16 (σ σ2 : rl_S) : Prop := ∀ k i, k ≠ 16 → σ2 k i = σ k i
theorem CP.fr {σ σ2 : rl_S} {h : Int → Int} (c : CP σ h) (f : fr16 σ σ2) : CP σ2 h := by
  obtain ⟨c1, c2, c3, c4, c5, c6, c7, c8⟩ := c
  refine ⟨fun z z0 z1 => (f 12 _ (by decide)).trans (c1 z z0 z1), c2, ?_⟩
  rw [f 13 1 (by decide), f 13 2 (by decide), f 15 0 (by decide), f 15 1 (by decide), f 15 2 (by decide), f 15 10 (by decide)]
  exact ⟨c3, c4, c5, c6, c7, c8⟩
theorem mul_bd {k s : Int} (k0 : 0 ≤ k) (k1 : k ≤ 12) (s0 : 0 ≤ s) (s1 : s ≤ 30) : 0 ≤ k * s ∧ k * s ≤ 360 := by
  refine ⟨Int.mul_nonneg k0 s0, ?_⟩
  have := Int.mul_le_mul k1 s1 s0 (by decide : (0 : Int) ≤ 12)
  omega
/-- what a climb from t comes to -/
def clF (σ : rl_S) (h : Int → Int) (t : Int) : Int × Int := clm (ln (σ 13 1) (σ 13 2)) h (σ 15 0) (σ 15 2) (σ 15 10) (σ 15 1).toNat 1 t 0
def clP (σ : rl_S) (h : Int → Int) (t : Int) : rl_S → Prop := fun σ2 => σ2 16 3 = (clF σ h t).1 ∧ σ2 16 4 = (clF σ h t).2 ∧ fr16 σ σ2
set_option maxRecDepth 20000 in
theorem c_rung (σ : rl_S) (k : Int) : Ct cW mX0_rungHeight [.ref 16, .int (iI k)] σ (pR (.int (iI (σ 15 0 + k * σ 15 2))) σ) := by
  refine Ct.of plX0 (Nat.le_of_ble_eq_true rfl) ?_
  refine r_aload_n dX0_rungHeight_0 rfl ?_
  refine r_get (k := 16) lfX0_23 dX0_rungHeight_1 (Nat.le_of_ble_eq_true rfl) rfl rfl ?_
  refine i_const dX0_rungHeight_4 ?_
  refine i_cvP (c_of σ 0 (by decide) (by decide)) lmX0_32 dX0_rungHeight_5 (Nat.le_of_ble_eq_true rfl) rfl ⟨_, _, rfl⟩ (by decide) (by decide) rfl rfl (Nat.le_of_ble_eq_true rfl) ?_
  refine r_iload_n dX0_rungHeight_8 rfl ?_
  refine r_aload_n dX0_rungHeight_9 rfl ?_
  refine r_get (k := 16) lfX0_23 dX0_rungHeight_10 (Nat.le_of_ble_eq_true rfl) rfl rfl ?_
  refine i_const dX0_rungHeight_13 ?_
  refine i_cvP (c_of σ 2 (by decide) (by decide)) lmX0_32 dX0_rungHeight_14 (Nat.le_of_ble_eq_true rfl) rfl ⟨_, _, rfl⟩ (by decide) (by decide) rfl rfl (Nat.le_of_ble_eq_true rfl) ?_
  refine i_imul dX0_rungHeight_17 ?_
  refine i_iadd dX0_rungHeight_18 ?_
  refine r_iret rfl dX0_rungHeight_19 ?_
  exact ⟨rfl, rfl⟩

theorem c_goFrom_l (σ : rl_S) (h : Int → Int) (c : CP σ h) (a : Int) : ∀ (n : Nat) (k t b : Int) (σ2 : rl_S), k + n = σ 15 1 + 1 → 1 ≤ k → 0 ≤ t → t < 400 → 0 ≤ b → b < k → fr16 σ σ2 → σ2 16 3 = -1 → σ2 16 4 = b → (clF σ h a) = clm (ln (σ 13 1) (σ 13 2)) h (σ 15 0) (σ 15 2) (σ 15 10) n k t b → Rn cW mX0_goFrom 24 [.ref 16, .int (iI a), .int (iI t), .int (iI (σ 15 1)), .int (iI k)] [] σ2 (qV (clP σ h a)) := by
  intro n
  induction n with
  | zero =>
    intro k t b σ2 hk k1 t0 t1 b0 b1 hf e3 e4 hz
    have c6 := c.2.2.2.2.2.1
    simp only [clm] at hz
    refine r_iload dX0_goFrom_24 rfl ?_
    refine r_iload_n dX0_goFrom_26 rfl ?_
    refine i_icmp_gt 102 dX0_goFrom_27 rfl ⟨by omega, by omega⟩ ⟨by omega, by omega⟩ (fun q27 => ?_) (fun q27 => ?_)
    · skip
      refine r_aload_n dX0_goFrom_102 rfl ?_
      refine r_iload_n dX0_goFrom_103 rfl ?_
      refine i_put (k := 16) lpX0_9 dX0_goFrom_104 (Nat.le_of_ble_eq_true rfl) rfl rfl ?_
      refine r_vret rfl dX0_goFrom_107 ?_
      exact ⟨rfl, by rw [hz, sup_h], by rw [hz, sup_i _ _ _ _ (show 4 ≠ 3 by decide)]; exact e4, fun x i g => (sup_k _ _ _ _ _ g).trans (hf x i g)⟩
    · exfalso
      omega
  | succ n ih =>
    intro k t b σ2 hk k1 t0 t1 b0 b1 hf e3 e4 hz
    have c' := c.fr hf
    have c6 := c.2.2.2.2.2.1
    have c5 := c.2.2.2.2.1
    have c7 := c.2.2.2.2.2.2.1
    have c8 := c.2.2.2.2.2.2.2
    have f1 : σ2 13 1 = σ 13 1 := hf 13 1 (by decide)
    have f2 : σ2 13 2 = σ 13 2 := hf 13 2 (by decide)
    have f3 : σ2 15 0 = σ 15 0 := hf 15 0 (by decide)
    have f4 : σ2 15 2 = σ 15 2 := hf 15 2 (by decide)
    have f5 : σ2 15 10 = σ 15 10 := hf 15 10 (by decide)
    have hmu := mul_bd (k := k) (s := σ 15 2) (by omega) (by omega) (by omega) (by omega)
    have hno : nout (ln (σ 13 1) (σ 13 2)) (400 - (t + σ 15 10)).toNat (t + σ 15 10) = 400 ∨ (t + σ 15 10 ≤ nout (ln (σ 13 1) (σ 13 2)) (400 - (t + σ 15 10)).toNat (t + σ 15 10) ∧ nout (ln (σ 13 1) (σ 13 2)) (400 - (t + σ 15 10)).toNat (t + σ 15 10) < 400) := by
      by_cases hle : t + σ 15 10 ≤ 400
      · exact nout_bd _ _ _ (by omega)
      · left; rw [show (400 - (t + σ 15 10)).toNat = 0 by omega]; rfl
    simp only [clm] at hz
    generalize hu : nout (ln (σ 13 1) (σ 13 2)) (400 - (t + σ 15 10)).toNat (t + σ 15 10) = u at hno hz
    refine r_iload dX0_goFrom_24 rfl ?_
    refine r_iload_n dX0_goFrom_26 rfl ?_
    refine i_icmp_gt 102 dX0_goFrom_27 rfl ⟨by omega, by omega⟩ ⟨by omega, by omega⟩ (fun q27 => ?_) (fun q27 => ?_)
    · exfalso
      omega
    · skip
      refine r_aload_n dX0_goFrom_30 rfl ?_
      refine r_get (k := 16) lfX0_19 dX0_goFrom_31 (Nat.le_of_ble_eq_true rfl) rfl rfl ?_
      refine r_iload_n dX0_goFrom_34 rfl ?_
      refine r_aload_n dX0_goFrom_35 rfl ?_
      refine r_get (k := 16) lfX0_23 dX0_goFrom_36 (Nat.le_of_ble_eq_true rfl) rfl rfl ?_
      refine i_bipush dX0_goFrom_39 (by decide) ?_
      refine i_cvP (c_of σ2 10 (by decide) (by decide)) lmX0_32 dX0_goFrom_41 (Nat.le_of_ble_eq_true rfl) rfl ⟨_, _, rfl⟩ (by decide) (by decide) rfl rfl (Nat.le_of_ble_eq_true rfl) ?_
      rw [show (10 : Int).toNat = 10 from rfl, f5]
      refine i_iadd dX0_goFrom_44 ?_
      refine i_cvP (c_notOut σ2 c'.2.2.1 c'.2.2.2.1 (t + σ 15 10) (by omega) (by omega)) lmX0_36 dX0_goFrom_45 (Nat.le_of_ble_eq_true rfl) rfl ⟨_, _, rfl⟩ (by decide) (by decide) rfl rfl (Nat.le_of_ble_eq_true rfl) ?_
      rw [f1, f2, hu]
      refine r_istore_n dX0_goFrom_48 (Nat.le_of_ble_eq_true rfl) ?_
      refine r_iload_n dX0_goFrom_49 rfl ?_
      refine i_sipush dX0_goFrom_50 (by decide) ?_
      refine i_icmp_gt 73 dX0_goFrom_53 rfl ⟨by omega, by omega⟩ ⟨by omega, by omega⟩ (fun q53 => ?_) (fun q53 => ?_)
      · skip
        refine r_vret rfl dX0_goFrom_73 ?_
        rw [if_pos (by omega)] at hz
        exact ⟨rfl, by rw [hz]; exact e3, by rw [hz]; exact e4, hf⟩
      · skip
        refine r_aload_n dX0_goFrom_56 rfl ?_
        refine r_get (k := 16) lfX0_15 dX0_goFrom_57 (Nat.le_of_ble_eq_true rfl) rfl rfl ?_
        refine r_iload_n dX0_goFrom_60 rfl ?_
        have hbu := c.2.1 u (by omega) (by omega)
        refine i_cvP (c_heightAt σ2 h c'.1 c'.2.1 u (by omega) (by omega)) lmX0_41 dX0_goFrom_61 (Nat.le_of_ble_eq_true rfl) rfl ⟨_, _, rfl⟩ (by decide) (by decide) rfl rfl (Nat.le_of_ble_eq_true rfl) ?_
        refine r_aload_n dX0_goFrom_64 rfl ?_
        refine r_iload dX0_goFrom_65 rfl ?_
        refine i_cvP (c_rung σ2 k) lmX0_46 dX0_goFrom_67 (Nat.le_of_ble_eq_true rfl) rfl ⟨_, _, rfl⟩ (by decide) (by decide) rfl rfl (Nat.le_of_ble_eq_true rfl) ?_
        rw [f3, f4]
        refine i_icmp_le 74 dX0_goFrom_70 rfl ⟨by omega, by omega⟩ ⟨by omega, by omega⟩ (fun q70 => ?_) (fun q70 => ?_)
        · skip
          refine r_aload_n dX0_goFrom_74 rfl ?_
          refine r_get (k := 16) lfX0_19 dX0_goFrom_75 (Nat.le_of_ble_eq_true rfl) rfl rfl ?_
          refine r_iload_n dX0_goFrom_78 rfl ?_
          refine i_cvP (c_leanAt σ2 c'.2.2.1 c'.2.2.2.1 u (by omega) (by omega)) lmX0_49 dX0_goFrom_79 (Nat.le_of_ble_eq_true rfl) rfl ⟨_, _, rfl⟩ (by decide) (by decide) rfl rfl (Nat.le_of_ble_eq_true rfl) ?_
          have hlb := ln_bd (σ2 13 1) (σ2 13 2) u
          refine i_const dX0_goFrom_82 ?_
          refine i_icmp_ne 96 dX0_goFrom_83 rfl ⟨by omega, by omega⟩ ⟨by omega, by omega⟩ (fun q83 => ?_) (fun q83 => ?_)
          · skip
            refine i_iinc dX0_goFrom_96 rfl (Nat.le_of_ble_eq_true rfl) ?_
            refine r_goto 24 dX0_goFrom_99 rfl ?_
            rw [if_neg (by omega)] at hz
            rw [f1, f2] at q83
            first
              | (rw [if_pos (by omega)] at hz; exact ih (k + 1) u (b + 1) _ (by omega) (by omega) (by omega) (by omega) (by omega) (by omega) (fun x i g => (sup_k _ _ _ _ _ g).trans (hf x i g)) ((sup_i _ _ _ _ (show 3 ≠ 4 by decide)).trans e3) (sup_h _ _ _ _) hz)
              | (rw [if_neg (by omega), Int.add_zero] at hz; exact ih (k + 1) u b _ (by omega) (by omega) (by omega) (by omega) (by omega) (by omega) hf e3 e4 hz)
          · skip
            refine r_aload_n dX0_goFrom_86 rfl ?_
            refine r_dup dX0_goFrom_87 rfl ?_
            refine r_get (k := 16) lfX0_27 dX0_goFrom_88 (Nat.le_of_ble_eq_true rfl) rfl rfl ?_
            rw [e4]
            refine i_const dX0_goFrom_91 ?_
            refine i_iadd dX0_goFrom_92 ?_
            refine i_put (k := 16) lpX0_27 dX0_goFrom_93 (Nat.le_of_ble_eq_true rfl) rfl rfl ?_
            refine i_iinc dX0_goFrom_96 rfl (Nat.le_of_ble_eq_true rfl) ?_
            refine r_goto 24 dX0_goFrom_99 rfl ?_
            rw [if_neg (by omega)] at hz
            rw [f1, f2] at q83
            first
              | (rw [if_pos (by omega)] at hz; exact ih (k + 1) u (b + 1) _ (by omega) (by omega) (by omega) (by omega) (by omega) (by omega) (fun x i g => (sup_k _ _ _ _ _ g).trans (hf x i g)) ((sup_i _ _ _ _ (show 3 ≠ 4 by decide)).trans e3) (sup_h _ _ _ _) hz)
              | (rw [if_neg (by omega), Int.add_zero] at hz; exact ih (k + 1) u b _ (by omega) (by omega) (by omega) (by omega) (by omega) (by omega) hf e3 e4 hz)
        · skip
          refine r_vret rfl dX0_goFrom_73 ?_
          rw [if_pos (by omega)] at hz
          exact ⟨rfl, by rw [hz]; exact e3, by rw [hz]; exact e4, hf⟩

set_option maxRecDepth 20000 in
theorem c_goFrom (σ : rl_S) (h : Int → Int) (c : CP σ h) (t : Int) (t0 : 0 ≤ t) (t1 : t < 400) : Ct cW mX0_goFrom [.ref 16, .int (iI t)] σ (qV (clP σ h t)) := by
  refine Ct.of plX0 (Nat.le_of_ble_eq_true rfl) ?_
  refine r_aload_n dX0_goFrom_0 rfl ?_
  refine i_const dX0_goFrom_1 ?_
  refine i_put (k := 16) lpX0_9 dX0_goFrom_2 (Nat.le_of_ble_eq_true rfl) rfl rfl ?_
  refine r_aload_n dX0_goFrom_5 rfl ?_
  refine i_const dX0_goFrom_6 ?_
  refine i_put (k := 16) lpX0_27 dX0_goFrom_7 (Nat.le_of_ble_eq_true rfl) rfl rfl ?_
  refine r_iload_n dX0_goFrom_10 rfl ?_
  refine r_istore_n dX0_goFrom_11 (Nat.le_of_ble_eq_true rfl) ?_
  refine r_aload_n dX0_goFrom_12 rfl ?_
  refine r_get (k := 16) lfX0_23 dX0_goFrom_13 (Nat.le_of_ble_eq_true rfl) rfl rfl ?_
  refine i_const dX0_goFrom_16 ?_
  refine i_cvP (c_of _ 1 (by decide) (by decide)) lmX0_32 dX0_goFrom_17 (Nat.le_of_ble_eq_true rfl) rfl ⟨_, _, rfl⟩ (by decide) (by decide) rfl rfl (Nat.le_of_ble_eq_true rfl) ?_
  rw [show sup (sup σ 16 3 (-1)) 16 4 0 15 (1 : Int).toNat = σ 15 1 from rfl]
  refine r_istore_n dX0_goFrom_20 (Nat.le_of_ble_eq_true rfl) ?_
  refine i_const dX0_goFrom_21 ?_
  refine r_istore dX0_goFrom_22 (Nat.le_of_ble_eq_true rfl) ?_
  exact c_goFrom_l σ h c t (σ 15 1).toNat 1 t 0 _ (by have := c.2.2.2.2.2.1; omega) (by omega) t0 t1 (by omega) (by omega) (fun x i g => (sup_k _ _ _ _ _ g).trans (sup_k _ _ _ _ _ g)) ((sup_i _ _ _ _ (show 3 ≠ 4 by decide)).trans (sup_h _ _ _ _)) (sup_h _ _ _ _) rfl
