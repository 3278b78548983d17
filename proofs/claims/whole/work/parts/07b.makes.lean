/-! constructors -/
def zFIRST (j : Nat) : Int := [20, 9, 3, 5, 0, 2, 3, 1, 1, 1, 2, 1].getD j 0
def fW : rl_W := (0, fun _ => .inl (0, 0), [], [("RopeLadder$Settings", "FIRST", 0, 12, fun j => iI (zFIRST j))])
/-- a row filled up to k -/
def fw (k : Nat) : Nat → Int32 := fun j => if j < k then iI (zFIRST j) else 0
theorem fw_0 : (fun _ => 0 : Nat → Int32) = fw 0 := by
  funext j; unfold fw; rw [if_neg (by omega)]
theorem fw_s (k : Nat) : upd (fw k) k (iI (zFIRST k)) = fw (k + 1) := by
  funext j
  unfold fw upd
  by_cases h : j = k
  · subst h; rw [if_pos rfl, if_pos (by omega)]
  · rw [if_neg h]
    dsimp only
    by_cases q : j < k
    · rw [if_pos q, if_pos (by omega)]
    · rw [if_neg q, if_neg (by omega)]
theorem fw_1 : upd (fun _ => 0) 0 (iI (zFIRST 0)) = fw 1 := by rw [fw_0]; exact fw_s 0
theorem fw_4 : fw 4 = fw 5 := by
  funext j
  unfold fw
  by_cases q : j < 4
  · rw [if_pos q, if_pos (by omega)]
  · rw [if_neg q]
    by_cases h : j = 4
    · subst h; rfl
    · rw [if_neg (by omega)]
theorem fw_12 : fw 12 = fun j => iI (zFIRST j) := by
  funext j
  unfold fw
  by_cases q : j < 12
  · rw [if_pos q]
  · rw [if_neg q]
    unfold zFIRST
    have e0 : ([20, 9, 3, 5, 0, 2, 3, 1, 1, 1, 2, 1] : List Int)[j]? = none := List.getElem?_eq_none (by simp only [List.length_cons, List.length_nil]; omega)
    rw [List.getD_eq_getElem?_getD, e0]
    rfl
theorem rl_Z.to {w : rl_W} {ad : Nat → Nat} {A : Nat → Prop} {s : State} {H : Heap} {locs : List Loc} (h : rl_Z w ad A s s.heap) (hS : va_S A s.heap H locs) : rl_Z w ad A s H := by
  intro q hq
  obtain ⟨⟨cf, kf, fi, f, a, cell, g1, g2, g3, g4, g5, g6, g7, g8⟩, ⟨cell2, k1, k2, k3, k4, k5, k6, k7⟩⟩ := h q hq
  have l1 : a < s.heap.size := (Array.getElem?_eq_some_iff.mp g5).1
  have l2 : ad q.2.2.1 < s.heap.size := (Array.getElem?_eq_some_iff.mp k1).1
  exact ⟨⟨cf, kf, fi, f, a, cell, g1, g2, g3, g4, by rw [hS.2.1 a l1 g8]; exact g5, g6, g7, g8⟩, ⟨cell2, by rw [hS.2.1 _ l2 k7]; exact k1, k2, k3, k4, k5, k6, k7⟩⟩
theorem kw_0 : Cond.methodLink RX7 3 Lib.objectInit ∈ rl_T := rl_in 88 (by decide +kernel) rfl
theorem kw_1 : Cond.instanceMethod Lib.objectInit ∈ rl_T := rl_in 81 (by decide +kernel) rfl
theorem kw_2 : Cond.code Lib.objectInit ⟨#[0xb1]⟩ 1 none ∈ rl_T := rl_in 82 (by decide +kernel) rfl
theorem kw_3 : Cond.arrayClass FieldType.int ∈ rl_T := rl_in 118 (by decide +kernel) rfl
theorem kw_4 : Cond.fieldLink RX7 9 "RopeLadder$Text" "bytes" "[I" ∈ rl_T := rl_in 91 (by decide +kernel) rfl
theorem kw_5 : Cond.fieldLink RX7 15 "RopeLadder$Text" "heights" "[I" ∈ rl_T := rl_in 92 (by decide +kernel) rfl
theorem kw_6 : Cond.fieldLink RX7 18 "RopeLadder$Text" "lengths" "[I" ∈ rl_T := rl_in 93 (by decide +kernel) rfl
theorem kw_7 : Cond.fieldLink RX7 21 "RopeLadder$Text" "faultPlace" "I" ∈ rl_T := rl_in 96 (by decide +kernel) rfl
theorem kw_8 : Cond.fieldLink RX7 25 "RopeLadder$Text" "mostBytes" "I" ∈ rl_T := rl_in 89 (by decide +kernel) rfl
theorem kw_9 : Cond.fieldLink RX7 28 "RopeLadder$Text" "mostSwells" "I" ∈ rl_T := rl_in 90 (by decide +kernel) rfl
abbrev mX7_init : rl_M := (yX7_init, cX7_init, 3, none, 0)
set_option maxHeartbeats 4000000 in
set_option maxRecDepth 100000 in
theorem k_X7 (l : Launch) (D : va_G) (h0 sz : Nat) (p1 : Int32) (p2 : Int32) : Met l yX7_init (rl_ws mX7_init) ({ frames := 1, cells := 3, slots := 35, locals := 12 }) (va_Pc [.ref h0, .int p1, .int p2] (fun U => U.heap.size = sz ∧ va_P D vwCl [(h0, .inr (7, [.int 0, .int 0, .null, .null, .null, .int 0, .int 0, .int 0]))] U.heap ∧ va_K D vwCl [] U ∧ va_D (fun _ => True) [(h0, .inr (7, [.int 0, .int 0, .null, .null, .null, .int 0, .int 0, .int 0]))])) (va_Qv (fun _ : Unit => True) (fun _ t => ∃ (q1 q2 q3 : Nat) (c1 c2 c3 : ClassId), va_P D vwCl [(h0, .inr (7, [.int p1, .int p2, .ref q1, .ref q2, .ref q3, .int 0, .int (iI (-1)), .int 0])), (q1, .inl (c1, (23, .inl (fun _ => 0)))), (q2, .inl (c2, (6, .inl (fun _ => 0)))), (q3, .inl (c3, (6, .inl (fun _ => 0))))] t.heap ∧ va_K D vwCl [(c1, .int), (c2, .int), (c3, .int)] t ∧ va_D (va_A [(h0, .inr (7, [.int 0, .int 0, .null, .null, .null, .int 0, .int 0, .int 0]))] sz) [(h0, .inr (7, [.int p1, .int p2, .ref q1, .ref q2, .ref q3, .int 0, .int (iI (-1)), .int 0])), (q1, .inl (c1, (23, .inl (fun _ => 0)))), (q2, .inl (c2, (6, .inl (fun _ => 0)))), (q3, .inl (c3, (6, .inl (fun _ => 0))))]) (va_A [(h0, .inr (7, [.int 0, .int 0, .null, .null, .null, .int 0, .int 0, .int 0]))] sz)) 3 35 (va_A [(h0, .inr (7, [.int 0, .int 0, .null, .null, .null, .int 0, .int 0, .int 0]))] sz) := by
  refine Met.ofW (cc := cX7_init) (maxL := 3) (ret := none) (ws' := rl_T) plX7 rfl ?_
  intro p e s m args below meth c s₁ B hml hv
  obtain ⟨rfl, hsz, hP, hK, hD0⟩ := hv
  have hx := B.exec
  have hb := B.bytes
  have hr := B.returns
  have hts := atoms_spec (ws := rl_ws mX7_init) B.pre
  have hw : ∀ {q : Cond}, q ∈ rl_T → q.before ([.ref h0, .int p1, .int p2] : List Value).toArray s = true := fun h => hts _ (List.mem_cons_of_mem _ h)
  have hown : s.vm.findClass RX7 = some m.cls := findClass_of_methodNamed B.named
  have hlocks := B.notSynchronized
  have hin : meth.name = "<init>" := (name_of_methodNamed B.named B.method).1
  subst hsz
  have hD := hD0.self (sz := s.heap.size)
  generalize hAe : va_A [(h0, .inr (7, [.int 0, .int 0, .null, .null, .null, .int 0, .int 0, .int 0]))] s.heap.size = A at hD ⊢
  have hA : ∀ q : Nat, s.heap.size ≤ q → A q := fun q h => by rw [← hAe]; exact Or.inr h
  have hS : va_S A s.heap s.heap [] := va_S.rf
  have hP : va_P D vwCl [(h0, .inr (7, [.int 0, .int 0, .null, .null, .null, .int 0, .int 0, .int 0]))] s.heap := hP
  have hl := lv_entry ([.ref h0, .int p1, .int p2]) (n := 3) (Nat.le_of_ble_eq_true rfl)
  rw [lg_entry_eq]
  generalize (lg_sl ([.ref h0, .int p1, .int p2]) ++ List.replicate (3 - (lg_sl ([.ref h0, .int p1, .int p2])).length) Slot.unset).toArray = ls at hl ⊢
  have hl : lv_has ls 3 [(0, .ref h0), (1, .int p1), (2, .int p2)] := hl
  refine lv_aload_n hx hb dX7_init_0 rfl (lv_at hl 0 rfl) ?_
  refine W.objInit hx hb hown (hw kw_0) (hw kw_1) (hw kw_2) rfl (by rw [hml]; exact hl.1) rfl dX7_init_1 (Nat.le_of_ble_eq_true rfl) (Nat.le_of_ble_eq_true rfl) ?_
  refine W.eq (g2 := F0 m 4 ls []) rfl ?_
  refine lv_aload_n hx hb dX7_init_4 rfl (lv_at hl 0 rfl) ?_
  refine lv_bipush (v := iI (23)) hx hb dX7_init_5 (by decide) ?_
  refine va_newa (atype := .int) hx hb (hw kw_3) (ty := .int) rfl hK hP hD hS hA (n := iI (23)) (N' := 23) (a0 := (23, .inl (fun _ => 0))) (fun _ => rfl) (by decide) (by decide) (Nat.le_of_ble_eq_true rfl) (Nat.le_of_ble_eq_true rfl) (Nat.le_of_ble_eq_true rfl) dX7_init_7 (fun q1 c1 H hK hP hD hS => ?_)
  have hP : va_P D vwCl [(h0, .inr (7, [.int 0, .int 0, .null, .null, .null, .int 0, .int 0, .int 0])), (q1, .inl (c1, (23, .inl (fun _ => 0))))] H := hP
  have hD : va_D A [(h0, .inr (7, [.int 0, .int 0, .null, .null, .null, .int 0, .int 0, .int 0])), (q1, .inl (c1, (23, .inl (fun _ => 0))))] := hD
  have hK : va_K D vwCl [(c1, .int)] s := hK
  refine W.widen (k := 1) (n := 23) (by omega) (by omega) ?_
  refine va_putF (D := D) (ci := 7) (v := .ref q1) (ty := .array .int) (C := RX7) (T := TX7) (N := 8) hx hb hts (fun w h => List.mem_cons_of_mem _ (kkX7.2.1 w h)) tyX7 tyX7_ok nmX7 hown hK hP hD hS 0 rfl rfl 2 (by decide) (hw kw_4) (fun _ h9 => h9) rfl hin rfl (by decide +kernel) rfl rfl (Nat.le_of_ble_eq_true rfl) dX7_init_9 (fun H locs hP hD hS => ?_)
  have hP : va_P D vwCl [(h0, .inr (7, [.int 0, .int 0, .ref q1, .null, .null, .int 0, .int 0, .int 0])), (q1, .inl (c1, (23, .inl (fun _ => 0))))] H := hP
  have hD : va_D A [(h0, .inr (7, [.int 0, .int 0, .ref q1, .null, .null, .int 0, .int 0, .int 0])), (q1, .inl (c1, (23, .inl (fun _ => 0))))] := hD
  refine lv_aload_n hx hb dX7_init_12 rfl (lv_at hl 0 rfl) ?_
  refine lv_bipush (v := iI (6)) hx hb dX7_init_13 (by decide) ?_
  refine va_newa (atype := .int) hx hb (hw kw_3) (ty := .int) rfl hK hP hD hS hA (n := iI (6)) (N' := 6) (a0 := (6, .inl (fun _ => 0))) (fun _ => rfl) (by decide) (by decide) (Nat.le_of_ble_eq_true rfl) (Nat.le_of_ble_eq_true rfl) (Nat.le_of_ble_eq_true rfl) dX7_init_15 (fun q2 c2 H hK hP hD hS => ?_)
  have hP : va_P D vwCl [(h0, .inr (7, [.int 0, .int 0, .ref q1, .null, .null, .int 0, .int 0, .int 0])), (q1, .inl (c1, (23, .inl (fun _ => 0)))), (q2, .inl (c2, (6, .inl (fun _ => 0))))] H := hP
  have hD : va_D A [(h0, .inr (7, [.int 0, .int 0, .ref q1, .null, .null, .int 0, .int 0, .int 0])), (q1, .inl (c1, (23, .inl (fun _ => 0)))), (q2, .inl (c2, (6, .inl (fun _ => 0))))] := hD
  have hK : va_K D vwCl [(c1, .int), (c2, .int)] s := hK
  refine W.widen (k := 2) (n := 29) (by omega) (by omega) ?_
  refine va_putF (D := D) (ci := 7) (v := .ref q2) (ty := .array .int) (C := RX7) (T := TX7) (N := 8) hx hb hts (fun w h => List.mem_cons_of_mem _ (kkX7.2.1 w h)) tyX7 tyX7_ok nmX7 hown hK hP hD hS 0 rfl rfl 3 (by decide) (hw kw_5) (fun _ h9 => h9) rfl hin rfl (by decide +kernel) rfl rfl (Nat.le_of_ble_eq_true rfl) dX7_init_17 (fun H locs hP hD hS => ?_)
  have hP : va_P D vwCl [(h0, .inr (7, [.int 0, .int 0, .ref q1, .ref q2, .null, .int 0, .int 0, .int 0])), (q1, .inl (c1, (23, .inl (fun _ => 0)))), (q2, .inl (c2, (6, .inl (fun _ => 0))))] H := hP
  have hD : va_D A [(h0, .inr (7, [.int 0, .int 0, .ref q1, .ref q2, .null, .int 0, .int 0, .int 0])), (q1, .inl (c1, (23, .inl (fun _ => 0)))), (q2, .inl (c2, (6, .inl (fun _ => 0))))] := hD
  refine lv_aload_n hx hb dX7_init_20 rfl (lv_at hl 0 rfl) ?_
  refine lv_bipush (v := iI (6)) hx hb dX7_init_21 (by decide) ?_
  refine va_newa (atype := .int) hx hb (hw kw_3) (ty := .int) rfl hK hP hD hS hA (n := iI (6)) (N' := 6) (a0 := (6, .inl (fun _ => 0))) (fun _ => rfl) (by decide) (by decide) (Nat.le_of_ble_eq_true rfl) (Nat.le_of_ble_eq_true rfl) (Nat.le_of_ble_eq_true rfl) dX7_init_23 (fun q3 c3 H hK hP hD hS => ?_)
  have hP : va_P D vwCl [(h0, .inr (7, [.int 0, .int 0, .ref q1, .ref q2, .null, .int 0, .int 0, .int 0])), (q1, .inl (c1, (23, .inl (fun _ => 0)))), (q2, .inl (c2, (6, .inl (fun _ => 0)))), (q3, .inl (c3, (6, .inl (fun _ => 0))))] H := hP
  have hD : va_D A [(h0, .inr (7, [.int 0, .int 0, .ref q1, .ref q2, .null, .int 0, .int 0, .int 0])), (q1, .inl (c1, (23, .inl (fun _ => 0)))), (q2, .inl (c2, (6, .inl (fun _ => 0)))), (q3, .inl (c3, (6, .inl (fun _ => 0))))] := hD
  have hK : va_K D vwCl [(c1, .int), (c2, .int), (c3, .int)] s := hK
  refine W.widen (k := 3) (n := 35) (by omega) (by omega) ?_
  refine va_putF (D := D) (ci := 7) (v := .ref q3) (ty := .array .int) (C := RX7) (T := TX7) (N := 8) hx hb hts (fun w h => List.mem_cons_of_mem _ (kkX7.2.1 w h)) tyX7 tyX7_ok nmX7 hown hK hP hD hS 0 rfl rfl 4 (by decide) (hw kw_6) (fun _ h9 => h9) rfl hin rfl (by decide +kernel) rfl rfl (Nat.le_of_ble_eq_true rfl) dX7_init_25 (fun H locs hP hD hS => ?_)
  have hP : va_P D vwCl [(h0, .inr (7, [.int 0, .int 0, .ref q1, .ref q2, .ref q3, .int 0, .int 0, .int 0])), (q1, .inl (c1, (23, .inl (fun _ => 0)))), (q2, .inl (c2, (6, .inl (fun _ => 0)))), (q3, .inl (c3, (6, .inl (fun _ => 0))))] H := hP
  have hD : va_D A [(h0, .inr (7, [.int 0, .int 0, .ref q1, .ref q2, .ref q3, .int 0, .int 0, .int 0])), (q1, .inl (c1, (23, .inl (fun _ => 0)))), (q2, .inl (c2, (6, .inl (fun _ => 0)))), (q3, .inl (c3, (6, .inl (fun _ => 0))))] := hD
  refine lv_aload_n hx hb dX7_init_28 rfl (lv_at hl 0 rfl) ?_
  refine lv_iconst (v := iI (-1)) hx hb dX7_init_29 (by decide) ?_
  refine va_put (D := D) (ci := 7) (v := .int (iI (-1))) (ty := .int) (C := RX7) (T := TX7) (N := 8) hx hb hts (fun w h => List.mem_cons_of_mem _ (kkX7.2.1 w h)) tyX7 tyX7_ok nmX7 hown hK hP hD hS 0 rfl rfl 6 (by decide) (hw kw_7) (fun _ h9 => h9) rfl (by decide +kernel) rfl rfl (Nat.le_of_ble_eq_true rfl) dX7_init_30 (fun H locs hP hD hS => ?_)
  have hP : va_P D vwCl [(h0, .inr (7, [.int 0, .int 0, .ref q1, .ref q2, .ref q3, .int 0, .int (iI (-1)), .int 0])), (q1, .inl (c1, (23, .inl (fun _ => 0)))), (q2, .inl (c2, (6, .inl (fun _ => 0)))), (q3, .inl (c3, (6, .inl (fun _ => 0))))] H := hP
  have hD : va_D A [(h0, .inr (7, [.int 0, .int 0, .ref q1, .ref q2, .ref q3, .int 0, .int (iI (-1)), .int 0])), (q1, .inl (c1, (23, .inl (fun _ => 0)))), (q2, .inl (c2, (6, .inl (fun _ => 0)))), (q3, .inl (c3, (6, .inl (fun _ => 0))))] := hD
  refine lv_aload_n hx hb dX7_init_33 rfl (lv_at hl 0 rfl) ?_
  refine lv_iload_n hx hb dX7_init_34 rfl (lv_at hl 1 rfl) ?_
  refine va_putF (D := D) (ci := 7) (v := .int p1) (ty := .int) (C := RX7) (T := TX7) (N := 8) hx hb hts (fun w h => List.mem_cons_of_mem _ (kkX7.2.1 w h)) tyX7 tyX7_ok nmX7 hown hK hP hD hS 0 rfl rfl 0 (by decide) (hw kw_8) (fun _ h9 => h9) rfl hin rfl (by decide +kernel) rfl rfl (Nat.le_of_ble_eq_true rfl) dX7_init_35 (fun H locs hP hD hS => ?_)
  have hP : va_P D vwCl [(h0, .inr (7, [.int p1, .int 0, .ref q1, .ref q2, .ref q3, .int 0, .int (iI (-1)), .int 0])), (q1, .inl (c1, (23, .inl (fun _ => 0)))), (q2, .inl (c2, (6, .inl (fun _ => 0)))), (q3, .inl (c3, (6, .inl (fun _ => 0))))] H := hP
  have hD : va_D A [(h0, .inr (7, [.int p1, .int 0, .ref q1, .ref q2, .ref q3, .int 0, .int (iI (-1)), .int 0])), (q1, .inl (c1, (23, .inl (fun _ => 0)))), (q2, .inl (c2, (6, .inl (fun _ => 0)))), (q3, .inl (c3, (6, .inl (fun _ => 0))))] := hD
  refine lv_aload_n hx hb dX7_init_38 rfl (lv_at hl 0 rfl) ?_
  refine lv_iload_n hx hb dX7_init_39 rfl (lv_at hl 2 rfl) ?_
  refine va_putF (D := D) (ci := 7) (v := .int p2) (ty := .int) (C := RX7) (T := TX7) (N := 8) hx hb hts (fun w h => List.mem_cons_of_mem _ (kkX7.2.1 w h)) tyX7 tyX7_ok nmX7 hown hK hP hD hS 0 rfl rfl 1 (by decide) (hw kw_9) (fun _ h9 => h9) rfl hin rfl (by decide +kernel) rfl rfl (Nat.le_of_ble_eq_true rfl) dX7_init_40 (fun H locs hP hD hS => ?_)
  have hP : va_P D vwCl [(h0, .inr (7, [.int p1, .int p2, .ref q1, .ref q2, .ref q3, .int 0, .int (iI (-1)), .int 0])), (q1, .inl (c1, (23, .inl (fun _ => 0)))), (q2, .inl (c2, (6, .inl (fun _ => 0)))), (q3, .inl (c3, (6, .inl (fun _ => 0))))] H := hP
  have hD : va_D A [(h0, .inr (7, [.int p1, .int p2, .ref q1, .ref q2, .ref q3, .int 0, .int (iI (-1)), .int 0])), (q1, .inl (c1, (23, .inl (fun _ => 0)))), (q2, .inl (c2, (6, .inl (fun _ => 0)))), (q3, .inl (c3, (6, .inl (fun _ => 0))))] := hD
  have hP9 := hP.sub (ws' := [(h0, .inr (7, [.int p1, .int p2, .ref q1, .ref q2, .ref q3, .int 0, .int (iI (-1)), .int 0])), (q1, .inl (c1, (23, .inl (fun _ => 0)))), (q2, .inl (c2, (6, .inl (fun _ => 0)))), (q3, .inl (c3, (6, .inl (fun _ => 0))))]) [0, 1, 2, 3] rfl
  have hD9 := hD.sub (ws' := [(h0, .inr (7, [.int p1, .int p2, .ref q1, .ref q2, .ref q3, .int 0, .int (iI (-1)), .int 0])), (q1, .inl (c1, (23, .inl (fun _ => 0)))), (q2, .inl (c2, (6, .inl (fun _ => 0)))), (q3, .inl (c3, (6, .inl (fun _ => 0))))]) [0, 1, 2, 3] (by decide) rfl
  refine W.widen (k := 3) (n := 35) (by omega) (by omega) ?_
  exact W.vret hx hb hr (fun t ht hW => ⟨⟨(), rfl, trivial, q1, q2, q3, c1, c2, c3, by rw [ht]; exact hP9, va_K.moved hW.alike hK, hD9⟩, hS.F ht⟩) hS.2.2 dX7_init_43
theorem kw_10 : Cond.methodLink RX2 3 Lib.objectInit ∈ rl_T := rl_in 124 (by decide +kernel) rfl
theorem kw_11 : Cond.fieldLink RX2 9 "RopeLadder$Sea" "begins" "[I" ∈ rl_T := rl_in 126 (by decide +kernel) rfl
theorem kw_12 : Cond.fieldLink RX2 15 "RopeLadder$Sea" "withoutLee" "[I" ∈ rl_T := rl_in 127 (by decide +kernel) rfl
theorem kw_13 : Cond.fieldLink RX2 18 "RopeLadder$Sea" "heights" "[I" ∈ rl_T := rl_in 128 (by decide +kernel) rfl
theorem kw_14 : Cond.fieldLink RX2 21 "RopeLadder$Sea" "swells" "LRopeLadder$Text;" ∈ rl_T := rl_in 125 (by decide +kernel) rfl
abbrev mX2_init : rl_M := (yX2_init, cX2_init, 2, none, 0)
set_option maxHeartbeats 4000000 in
set_option maxRecDepth 100000 in
theorem k_X2 (l : Launch) (D : va_G) (h0 sz : Nat) (p1 : Nat) : Met l yX2_init (rl_ws mX2_init) ({ frames := 1, cells := 3, slots := 806, locals := 12 }) (va_Pc [.ref h0, .ref p1] (fun U => U.heap.size = sz ∧ va_P D vwCl [(h0, .inr (2, [.null, .null, .null, .null, .int 0, .int 0]))] U.heap ∧ va_K D vwCl [] U ∧ va_D (fun _ => True) [(h0, .inr (2, [.null, .null, .null, .null, .int 0, .int 0]))])) (va_Qv (fun _ : Unit => True) (fun _ t => ∃ (q1 q2 q3 : Nat) (c1 c2 c3 : ClassId), va_P D vwCl [(h0, .inr (2, [.ref p1, .ref q1, .ref q2, .ref q3, .int 0, .int 0])), (q1, .inl (c1, (6, .inl (fun _ => 0)))), (q2, .inl (c2, (400, .inl (fun _ => 0)))), (q3, .inl (c3, (400, .inl (fun _ => 0))))] t.heap ∧ va_K D vwCl [(c1, .int), (c2, .int), (c3, .int)] t ∧ va_D (va_A [(h0, .inr (2, [.null, .null, .null, .null, .int 0, .int 0]))] sz) [(h0, .inr (2, [.ref p1, .ref q1, .ref q2, .ref q3, .int 0, .int 0])), (q1, .inl (c1, (6, .inl (fun _ => 0)))), (q2, .inl (c2, (400, .inl (fun _ => 0)))), (q3, .inl (c3, (400, .inl (fun _ => 0))))]) (va_A [(h0, .inr (2, [.null, .null, .null, .null, .int 0, .int 0]))] sz)) 3 806 (va_A [(h0, .inr (2, [.null, .null, .null, .null, .int 0, .int 0]))] sz) := by
  refine Met.ofW (cc := cX2_init) (maxL := 2) (ret := none) (ws' := rl_T) plX2 rfl ?_
  intro p e s m args below meth c s₁ B hml hv
  obtain ⟨rfl, hsz, hP, hK, hD0⟩ := hv
  have hx := B.exec
  have hb := B.bytes
  have hr := B.returns
  have hts := atoms_spec (ws := rl_ws mX2_init) B.pre
  have hw : ∀ {q : Cond}, q ∈ rl_T → q.before ([.ref h0, .ref p1] : List Value).toArray s = true := fun h => hts _ (List.mem_cons_of_mem _ h)
  have hown : s.vm.findClass RX2 = some m.cls := findClass_of_methodNamed B.named
  have hlocks := B.notSynchronized
  have hin : meth.name = "<init>" := (name_of_methodNamed B.named B.method).1
  subst hsz
  have hD := hD0.self (sz := s.heap.size)
  generalize hAe : va_A [(h0, .inr (2, [.null, .null, .null, .null, .int 0, .int 0]))] s.heap.size = A at hD ⊢
  have hA : ∀ q : Nat, s.heap.size ≤ q → A q := fun q h => by rw [← hAe]; exact Or.inr h
  have hS : va_S A s.heap s.heap [] := va_S.rf
  have hP : va_P D vwCl [(h0, .inr (2, [.null, .null, .null, .null, .int 0, .int 0]))] s.heap := hP
  have hl := lv_entry ([.ref h0, .ref p1]) (n := 2) (Nat.le_of_ble_eq_true rfl)
  rw [lg_entry_eq]
  generalize (lg_sl ([.ref h0, .ref p1]) ++ List.replicate (2 - (lg_sl ([.ref h0, .ref p1])).length) Slot.unset).toArray = ls at hl ⊢
  have hl : lv_has ls 2 [(0, .ref h0), (1, .ref p1)] := hl
  refine lv_aload_n hx hb dX2_init_0 rfl (lv_at hl 0 rfl) ?_
  refine W.objInit hx hb hown (hw kw_10) (hw kw_1) (hw kw_2) rfl (by rw [hml]; exact hl.1) rfl dX2_init_1 (Nat.le_of_ble_eq_true rfl) (Nat.le_of_ble_eq_true rfl) ?_
  refine W.eq (g2 := F0 m 4 ls []) rfl ?_
  refine lv_aload_n hx hb dX2_init_4 rfl (lv_at hl 0 rfl) ?_
  refine lv_bipush (v := iI (6)) hx hb dX2_init_5 (by decide) ?_
  refine va_newa (atype := .int) hx hb (hw kw_3) (ty := .int) rfl hK hP hD hS hA (n := iI (6)) (N' := 6) (a0 := (6, .inl (fun _ => 0))) (fun _ => rfl) (by decide) (by decide) (Nat.le_of_ble_eq_true rfl) (Nat.le_of_ble_eq_true rfl) (Nat.le_of_ble_eq_true rfl) dX2_init_7 (fun q1 c1 H hK hP hD hS => ?_)
  have hP : va_P D vwCl [(h0, .inr (2, [.null, .null, .null, .null, .int 0, .int 0])), (q1, .inl (c1, (6, .inl (fun _ => 0))))] H := hP
  have hD : va_D A [(h0, .inr (2, [.null, .null, .null, .null, .int 0, .int 0])), (q1, .inl (c1, (6, .inl (fun _ => 0))))] := hD
  have hK : va_K D vwCl [(c1, .int)] s := hK
  refine W.widen (k := 1) (n := 6) (by omega) (by omega) ?_
  refine va_putF (D := D) (ci := 2) (v := .ref q1) (ty := .array .int) (C := RX2) (T := TX2) (N := 6) hx hb hts (fun w h => List.mem_cons_of_mem _ (kkX2.2.1 w h)) tyX2 tyX2_ok nmX2 hown hK hP hD hS 0 rfl rfl 1 (by decide) (hw kw_11) (fun _ h9 => h9) rfl hin rfl (by decide +kernel) rfl rfl (Nat.le_of_ble_eq_true rfl) dX2_init_9 (fun H locs hP hD hS => ?_)
  have hP : va_P D vwCl [(h0, .inr (2, [.null, .ref q1, .null, .null, .int 0, .int 0])), (q1, .inl (c1, (6, .inl (fun _ => 0))))] H := hP
  have hD : va_D A [(h0, .inr (2, [.null, .ref q1, .null, .null, .int 0, .int 0])), (q1, .inl (c1, (6, .inl (fun _ => 0))))] := hD
  refine lv_aload_n hx hb dX2_init_12 rfl (lv_at hl 0 rfl) ?_
  refine lv_sipush (v := iI (400)) hx hb dX2_init_13 (by decide) ?_
  refine va_newa (atype := .int) hx hb (hw kw_3) (ty := .int) rfl hK hP hD hS hA (n := iI (400)) (N' := 400) (a0 := (400, .inl (fun _ => 0))) (fun _ => rfl) (by decide) (by decide) (Nat.le_of_ble_eq_true rfl) (Nat.le_of_ble_eq_true rfl) (Nat.le_of_ble_eq_true rfl) dX2_init_16 (fun q2 c2 H hK hP hD hS => ?_)
  have hP : va_P D vwCl [(h0, .inr (2, [.null, .ref q1, .null, .null, .int 0, .int 0])), (q1, .inl (c1, (6, .inl (fun _ => 0)))), (q2, .inl (c2, (400, .inl (fun _ => 0))))] H := hP
  have hD : va_D A [(h0, .inr (2, [.null, .ref q1, .null, .null, .int 0, .int 0])), (q1, .inl (c1, (6, .inl (fun _ => 0)))), (q2, .inl (c2, (400, .inl (fun _ => 0))))] := hD
  have hK : va_K D vwCl [(c1, .int), (c2, .int)] s := hK
  refine W.widen (k := 2) (n := 406) (by omega) (by omega) ?_
  refine va_putF (D := D) (ci := 2) (v := .ref q2) (ty := .array .int) (C := RX2) (T := TX2) (N := 6) hx hb hts (fun w h => List.mem_cons_of_mem _ (kkX2.2.1 w h)) tyX2 tyX2_ok nmX2 hown hK hP hD hS 0 rfl rfl 2 (by decide) (hw kw_12) (fun _ h9 => h9) rfl hin rfl (by decide +kernel) rfl rfl (Nat.le_of_ble_eq_true rfl) dX2_init_18 (fun H locs hP hD hS => ?_)
  have hP : va_P D vwCl [(h0, .inr (2, [.null, .ref q1, .ref q2, .null, .int 0, .int 0])), (q1, .inl (c1, (6, .inl (fun _ => 0)))), (q2, .inl (c2, (400, .inl (fun _ => 0))))] H := hP
  have hD : va_D A [(h0, .inr (2, [.null, .ref q1, .ref q2, .null, .int 0, .int 0])), (q1, .inl (c1, (6, .inl (fun _ => 0)))), (q2, .inl (c2, (400, .inl (fun _ => 0))))] := hD
  refine lv_aload_n hx hb dX2_init_21 rfl (lv_at hl 0 rfl) ?_
  refine lv_sipush (v := iI (400)) hx hb dX2_init_22 (by decide) ?_
  refine va_newa (atype := .int) hx hb (hw kw_3) (ty := .int) rfl hK hP hD hS hA (n := iI (400)) (N' := 400) (a0 := (400, .inl (fun _ => 0))) (fun _ => rfl) (by decide) (by decide) (Nat.le_of_ble_eq_true rfl) (Nat.le_of_ble_eq_true rfl) (Nat.le_of_ble_eq_true rfl) dX2_init_25 (fun q3 c3 H hK hP hD hS => ?_)
  have hP : va_P D vwCl [(h0, .inr (2, [.null, .ref q1, .ref q2, .null, .int 0, .int 0])), (q1, .inl (c1, (6, .inl (fun _ => 0)))), (q2, .inl (c2, (400, .inl (fun _ => 0)))), (q3, .inl (c3, (400, .inl (fun _ => 0))))] H := hP
  have hD : va_D A [(h0, .inr (2, [.null, .ref q1, .ref q2, .null, .int 0, .int 0])), (q1, .inl (c1, (6, .inl (fun _ => 0)))), (q2, .inl (c2, (400, .inl (fun _ => 0)))), (q3, .inl (c3, (400, .inl (fun _ => 0))))] := hD
  have hK : va_K D vwCl [(c1, .int), (c2, .int), (c3, .int)] s := hK
  refine W.widen (k := 3) (n := 806) (by omega) (by omega) ?_
  refine va_putF (D := D) (ci := 2) (v := .ref q3) (ty := .array .int) (C := RX2) (T := TX2) (N := 6) hx hb hts (fun w h => List.mem_cons_of_mem _ (kkX2.2.1 w h)) tyX2 tyX2_ok nmX2 hown hK hP hD hS 0 rfl rfl 3 (by decide) (hw kw_13) (fun _ h9 => h9) rfl hin rfl (by decide +kernel) rfl rfl (Nat.le_of_ble_eq_true rfl) dX2_init_27 (fun H locs hP hD hS => ?_)
  have hP : va_P D vwCl [(h0, .inr (2, [.null, .ref q1, .ref q2, .ref q3, .int 0, .int 0])), (q1, .inl (c1, (6, .inl (fun _ => 0)))), (q2, .inl (c2, (400, .inl (fun _ => 0)))), (q3, .inl (c3, (400, .inl (fun _ => 0))))] H := hP
  have hD : va_D A [(h0, .inr (2, [.null, .ref q1, .ref q2, .ref q3, .int 0, .int 0])), (q1, .inl (c1, (6, .inl (fun _ => 0)))), (q2, .inl (c2, (400, .inl (fun _ => 0)))), (q3, .inl (c3, (400, .inl (fun _ => 0))))] := hD
  refine lv_aload_n hx hb dX2_init_30 rfl (lv_at hl 0 rfl) ?_
  refine lv_aload_n hx hb dX2_init_31 rfl (lv_at hl 1 rfl) ?_
  refine va_putF (D := D) (ci := 2) (v := .ref p1) (ty := .object "RopeLadder$Text") (C := RX2) (T := TX2) (N := 6) hx hb hts (fun w h => List.mem_cons_of_mem _ (kkX2.2.1 w h)) tyX2 tyX2_ok nmX2 hown hK hP hD hS 0 rfl rfl 0 (by decide) (hw kw_14) (fun _ h9 => h9) rfl hin rfl (by decide +kernel) rfl rfl (Nat.le_of_ble_eq_true rfl) dX2_init_32 (fun H locs hP hD hS => ?_)
  have hP : va_P D vwCl [(h0, .inr (2, [.ref p1, .ref q1, .ref q2, .ref q3, .int 0, .int 0])), (q1, .inl (c1, (6, .inl (fun _ => 0)))), (q2, .inl (c2, (400, .inl (fun _ => 0)))), (q3, .inl (c3, (400, .inl (fun _ => 0))))] H := hP
  have hD : va_D A [(h0, .inr (2, [.ref p1, .ref q1, .ref q2, .ref q3, .int 0, .int 0])), (q1, .inl (c1, (6, .inl (fun _ => 0)))), (q2, .inl (c2, (400, .inl (fun _ => 0)))), (q3, .inl (c3, (400, .inl (fun _ => 0))))] := hD
  have hP9 := hP.sub (ws' := [(h0, .inr (2, [.ref p1, .ref q1, .ref q2, .ref q3, .int 0, .int 0])), (q1, .inl (c1, (6, .inl (fun _ => 0)))), (q2, .inl (c2, (400, .inl (fun _ => 0)))), (q3, .inl (c3, (400, .inl (fun _ => 0))))]) [0, 1, 2, 3] rfl
  have hD9 := hD.sub (ws' := [(h0, .inr (2, [.ref p1, .ref q1, .ref q2, .ref q3, .int 0, .int 0])), (q1, .inl (c1, (6, .inl (fun _ => 0)))), (q2, .inl (c2, (400, .inl (fun _ => 0)))), (q3, .inl (c3, (400, .inl (fun _ => 0))))]) [0, 1, 2, 3] (by decide) rfl
  refine W.widen (k := 3) (n := 806) (by omega) (by omega) ?_
  exact W.vret hx hb hr (fun t ht hW => ⟨⟨(), rfl, trivial, q1, q2, q3, c1, c2, c3, by rw [ht]; exact hP9, va_K.moved hW.alike hK, hD9⟩, hS.F ht⟩) hS.2.2 dX2_init_35
theorem kw_15 : Cond.methodLink RX5 3 Lib.objectInit ∈ rl_T := rl_in 151 (by decide +kernel) rfl
theorem kw_16 : Cond.fieldLink RX5 9 "RopeLadder$Ship" "roll" "LRopeLadder$Text;" ∈ rl_T := rl_in 152 (by decide +kernel) rfl
abbrev mX5_init : rl_M := (yX5_init, cX5_init, 2, none, 0)
set_option maxHeartbeats 4000000 in
set_option maxRecDepth 100000 in
theorem k_X5 (l : Launch) (D : va_G) (h0 sz : Nat) (p1 : Nat) : Met l yX5_init (rl_ws mX5_init) ({ frames := 1, cells := 0, slots := 0, locals := 12 }) (va_Pc [.ref h0, .ref p1] (fun U => U.heap.size = sz ∧ va_P D vwCl [(h0, .inr (5, [.null, .int 0, .int 0]))] U.heap ∧ va_K D vwCl [] U ∧ va_D (fun _ => True) [(h0, .inr (5, [.null, .int 0, .int 0]))])) (va_Qv (fun _ : Unit => True) (fun _ t => va_P D vwCl [(h0, .inr (5, [.ref p1, .int 0, .int 0]))] t.heap ∧ va_K D vwCl [] t ∧ va_D (va_A [(h0, .inr (5, [.null, .int 0, .int 0]))] sz) [(h0, .inr (5, [.ref p1, .int 0, .int 0]))]) (va_A [(h0, .inr (5, [.null, .int 0, .int 0]))] sz)) 0 0 (va_A [(h0, .inr (5, [.null, .int 0, .int 0]))] sz) := by
  refine Met.ofW (cc := cX5_init) (maxL := 2) (ret := none) (ws' := rl_T) plX5 rfl ?_
  intro p e s m args below meth c s₁ B hml hv
  obtain ⟨rfl, hsz, hP, hK, hD0⟩ := hv
  have hx := B.exec
  have hb := B.bytes
  have hr := B.returns
  have hts := atoms_spec (ws := rl_ws mX5_init) B.pre
  have hw : ∀ {q : Cond}, q ∈ rl_T → q.before ([.ref h0, .ref p1] : List Value).toArray s = true := fun h => hts _ (List.mem_cons_of_mem _ h)
  have hown : s.vm.findClass RX5 = some m.cls := findClass_of_methodNamed B.named
  have hlocks := B.notSynchronized
  have hin : meth.name = "<init>" := (name_of_methodNamed B.named B.method).1
  subst hsz
  have hD := hD0.self (sz := s.heap.size)
  generalize hAe : va_A [(h0, .inr (5, [.null, .int 0, .int 0]))] s.heap.size = A at hD ⊢
  have hA : ∀ q : Nat, s.heap.size ≤ q → A q := fun q h => by rw [← hAe]; exact Or.inr h
  have hS : va_S A s.heap s.heap [] := va_S.rf
  have hP : va_P D vwCl [(h0, .inr (5, [.null, .int 0, .int 0]))] s.heap := hP
  have hl := lv_entry ([.ref h0, .ref p1]) (n := 2) (Nat.le_of_ble_eq_true rfl)
  rw [lg_entry_eq]
  generalize (lg_sl ([.ref h0, .ref p1]) ++ List.replicate (2 - (lg_sl ([.ref h0, .ref p1])).length) Slot.unset).toArray = ls at hl ⊢
  have hl : lv_has ls 2 [(0, .ref h0), (1, .ref p1)] := hl
  refine lv_aload_n hx hb dX5_init_0 rfl (lv_at hl 0 rfl) ?_
  refine W.objInit hx hb hown (hw kw_15) (hw kw_1) (hw kw_2) rfl (by rw [hml]; exact hl.1) rfl dX5_init_1 (Nat.le_of_ble_eq_true rfl) (Nat.le_of_ble_eq_true rfl) ?_
  refine W.eq (g2 := F0 m 4 ls []) rfl ?_
  refine lv_aload_n hx hb dX5_init_4 rfl (lv_at hl 0 rfl) ?_
  refine lv_aload_n hx hb dX5_init_5 rfl (lv_at hl 1 rfl) ?_
  refine va_putF (D := D) (ci := 5) (v := .ref p1) (ty := .object "RopeLadder$Text") (C := RX5) (T := TX5) (N := 3) hx hb hts (fun w h => List.mem_cons_of_mem _ (kkX5.2.1 w h)) tyX5 tyX5_ok nmX5 hown hK hP hD hS 0 rfl rfl 0 (by decide) (hw kw_16) (fun _ h9 => h9) rfl hin rfl (by decide +kernel) rfl rfl (Nat.le_of_ble_eq_true rfl) dX5_init_6 (fun H locs hP hD hS => ?_)
  have hP : va_P D vwCl [(h0, .inr (5, [.ref p1, .int 0, .int 0]))] H := hP
  have hD : va_D A [(h0, .inr (5, [.ref p1, .int 0, .int 0]))] := hD
  have hP9 := hP.sub (ws' := [(h0, .inr (5, [.ref p1, .int 0, .int 0]))]) [0] rfl
  have hD9 := hD.sub (ws' := [(h0, .inr (5, [.ref p1, .int 0, .int 0]))]) [0] (by decide) rfl
  refine W.widen (k := 0) (n := 0) (by omega) (by omega) ?_
  exact W.vret hx hb hr (fun t ht hW => ⟨⟨(), rfl, trivial, by rw [ht]; exact hP9, va_K.moved hW.alike hK, hD9⟩, hS.F ht⟩) hS.2.2 dX5_init_9
theorem kw_17 : Cond.methodLink RX3 1 Lib.objectInit ∈ rl_T := rl_in 167 (by decide +kernel) rfl
theorem kw_18 : Cond.fieldLink RX3 7 "RopeLadder$Settings" "FIRST" "[I" ∈ rl_T := rl_in 168 (by decide +kernel) rfl
theorem kw_19 : Cond.fieldLink RX3 13 "RopeLadder$Settings" "values" "[I" ∈ rl_T := rl_in 170 (by decide +kernel) rfl
abbrev mX3_init : rl_M := (yX3_init, cX3_init, 2, none, 0)
set_option maxHeartbeats 4000000 in
set_option maxRecDepth 100000 in
theorem k_X3 (l : Launch) (D : va_G) (h0 sz : Nat) (f0 : Nat)  : Met l yX3_init (rl_ws mX3_init) ({ frames := 1, cells := 1, slots := 12, locals := 12 }) (va_Pc [.ref h0] (fun U => U.heap.size = sz ∧ va_P D vwCl [(h0, .inr (3, [.null]))] U.heap ∧ va_K D vwCl [] U ∧ va_D (fun _ => True) [(h0, .inr (3, [.null]))] ∧ rl_Z fW (fun _ => f0) (va_A [(h0, .inr (3, [.null]))] sz) U U.heap)) (va_Qv (fun _ : Unit => True) (fun _ t => ∃ (q1 : Nat) (c1 : ClassId), va_P D vwCl [(h0, .inr (3, [.ref q1])), (q1, .inl (c1, (12, .inl (fw 12))))] t.heap ∧ va_K D vwCl [(c1, .int)] t ∧ va_D (va_A [(h0, .inr (3, [.null]))] sz) [(h0, .inr (3, [.ref q1])), (q1, .inl (c1, (12, .inl (fw 12))))]) (va_A [(h0, .inr (3, [.null]))] sz)) 1 12 (va_A [(h0, .inr (3, [.null]))] sz) := by
  refine Met.ofW (cc := cX3_init) (maxL := 2) (ret := none) (ws' := rl_T) plX3 rfl ?_
  intro p e s m args below meth c s₁ B hml hv
  obtain ⟨rfl, hsz, hP, hK, hD0, hZ⟩ := hv
  have hx := B.exec
  have hb := B.bytes
  have hr := B.returns
  have hts := atoms_spec (ws := rl_ws mX3_init) B.pre
  have hw : ∀ {q : Cond}, q ∈ rl_T → q.before ([.ref h0] : List Value).toArray s = true := fun h => hts _ (List.mem_cons_of_mem _ h)
  have hown : s.vm.findClass RX3 = some m.cls := findClass_of_methodNamed B.named
  have hlocks := B.notSynchronized
  have hin : meth.name = "<init>" := (name_of_methodNamed B.named B.method).1
  subst hsz
  have hD := hD0.self (sz := s.heap.size)
  generalize hAe : va_A [(h0, .inr (3, [.null]))] s.heap.size = A at hD hZ ⊢
  have hA : ∀ q : Nat, s.heap.size ≤ q → A q := fun q h => by rw [← hAe]; exact Or.inr h
  have hS : va_S A s.heap s.heap [] := va_S.rf
  have hP : va_P D vwCl [(h0, .inr (3, [.null]))] s.heap := hP
  have hl := lv_entry ([.ref h0]) (n := 2) (Nat.le_of_ble_eq_true rfl)
  rw [lg_entry_eq]
  generalize (lg_sl ([.ref h0]) ++ List.replicate (2 - (lg_sl ([.ref h0])).length) Slot.unset).toArray = ls at hl ⊢
  have hl : lv_has ls 2 [(0, .ref h0)] := hl
  have hZ1 : va_Z "RopeLadder$Settings" "FIRST" "[I" (.ref f0) A s s.heap := (hZ _ (List.mem_singleton.mpr rfl)).1
  have hT1 : va_T .int f0 12 (fun j => .int (iI (zFIRST j))) A s s.heap := (hZ _ (List.mem_singleton.mpr rfl)).2
  refine lv_aload_n hx hb dX3_init_0 rfl (lv_at hl 0 rfl) ?_
  refine W.objInit hx hb hown (hw kw_17) (hw kw_1) (hw kw_2) rfl (by rw [hml]; exact hl.1) rfl dX3_init_1 (Nat.le_of_ble_eq_true rfl) (Nat.le_of_ble_eq_true rfl) ?_
  refine W.eq (g2 := F0 m 4 ls []) rfl ?_
  refine lv_aload_n hx hb dX3_init_4 rfl (lv_at hl 0 rfl) ?_
  refine va_gets (ref := "RopeLadder$Settings") hx hb hZ1 hS hown (hw kw_18) (fun _ h => h) dX3_init_5 ?_
  refine va_tlen hx hb hT1 hS (v := iI (12)) (by decide) dX3_init_8 ?_
  refine va_newa (atype := .int) hx hb (hw kw_3) (ty := .int) rfl hK hP hD hS hA (n := iI (12)) (N' := 12) (a0 := (12, .inl (fun _ => 0))) (fun _ => rfl) (by decide) (by decide) (Nat.le_of_ble_eq_true rfl) (Nat.le_of_ble_eq_true rfl) (Nat.le_of_ble_eq_true rfl) dX3_init_9 (fun q1 c1 H hK hP hD hS => ?_)
  have hP : va_P D vwCl [(h0, .inr (3, [.null])), (q1, .inl (c1, (12, .inl (fun _ => 0))))] H := hP
  have hD : va_D A [(h0, .inr (3, [.null])), (q1, .inl (c1, (12, .inl (fun _ => 0))))] := hD
  have hK : va_K D vwCl [(c1, .int)] s := hK
  refine W.widen (k := 1) (n := 12) (by omega) (by omega) ?_
  refine va_putF (D := D) (ci := 3) (v := .ref q1) (ty := .array .int) (C := RX3) (T := TX3) (N := 1) hx hb hts (fun w h => List.mem_cons_of_mem _ (kkX3.2.1 w h)) tyX3 tyX3_ok nmX3 hown hK hP hD hS 0 rfl rfl 0 (by decide) (hw kw_19) (fun _ h9 => h9) rfl hin rfl (by decide +kernel) rfl rfl (Nat.le_of_ble_eq_true rfl) dX3_init_11 (fun H locs hP hD hS => ?_)
  have hP : va_P D vwCl [(h0, .inr (3, [.ref q1])), (q1, .inl (c1, (12, .inl (fun _ => 0))))] H := hP
  have hD : va_D A [(h0, .inr (3, [.ref q1])), (q1, .inl (c1, (12, .inl (fun _ => 0))))] := hD
  refine lv_iconst (v := iI (0)) hx hb dX3_init_14 (by decide) ?_
  refine lv_istore_n (lv' := [(1, .int (iI (0))), (0, .ref h0)]) hx hb dX3_init_15 rfl hl (by decide) rfl (fun ls hl => ?_)
  refine lv_iload_n hx hb dX3_init_16 rfl (lv_at hl 0 rfl) ?_
  refine lv_aload_n hx hb dX3_init_17 rfl (lv_at hl 1 rfl) ?_
  refine va_get (D := D) (ci := 3) (v := .ref q1) (C := RX3) (T := TX3) (N := 1) hx hb hts (fun w h => List.mem_cons_of_mem _ (kkX3.2.1 w h)) hown hK hP 0 rfl rfl 0 (by decide) (hw kw_19) (fun _ h9 => h9) rfl dX3_init_18 ?_
  refine va_alen hx hb hK hP 1 0 rfl rfl (v := iI (12)) (show Int32.ofNat 12 = iI (12) from by decide) dX3_init_21 ?_
  refine lv_icmp_ge (tgt := 50) hx hb dX3_init_22 (by decide) (fun q => absurd q (by decide)) (fun _ => ?_)
  refine lv_iload_n hx hb dX3_init_25 rfl (lv_at hl 0 rfl) ?_
  refine va_gets (ref := "RopeLadder$Settings") hx hb hZ1 hS hown (hw kw_18) (fun _ h => h) dX3_init_26 ?_
  refine va_tlen hx hb hT1 hS (v := iI (12)) (by decide) dX3_init_29 ?_
  refine lv_icmp_ge (tgt := 50) hx hb dX3_init_30 (by decide) (fun q => absurd q (by decide)) (fun _ => ?_)
  refine lv_aload_n hx hb dX3_init_33 rfl (lv_at hl 1 rfl) ?_
  refine va_get (D := D) (ci := 3) (v := .ref q1) (C := RX3) (T := TX3) (N := 1) hx hb hts (fun w h => List.mem_cons_of_mem _ (kkX3.2.1 w h)) hown hK hP 0 rfl rfl 0 (by decide) (hw kw_19) (fun _ h9 => h9) rfl dX3_init_34 ?_
  refine lv_iload_n hx hb dX3_init_37 rfl (lv_at hl 0 rfl) ?_
  refine va_gets (ref := "RopeLadder$Settings") hx hb hZ1 hS hown (hw kw_18) (fun _ h => h) dX3_init_38 ?_
  refine lv_iload_n hx hb dX3_init_41 rfl (lv_at hl 0 rfl) ?_
  refine va_ti hx hb hT1 hS (i := iI (0)) (iI_in (by decide) (by decide) (by decide)) (v := .int (iI (zFIRST 0))) (by rw [show (iI (0)).toNatClampNeg = 0 from by decide]) dX3_init_42 ?_
  refine va_iast hx hb hK hP hD hS 1 0 rfl rfl (i := iI (0)) (iI_in (by decide) (by decide) (by decide)) dX3_init_43 (fun H locs hP hD hS => ?_)
  rw [show (iI (0)).toNatClampNeg = 0 from by decide] at hP hD
  have hP : va_P D vwCl [(h0, .inr (3, [.ref q1])), (q1, .inl (c1, (12, .inl (upd (fun _ => 0) 0 (iI (zFIRST 0))))))] H := hP
  have hD : va_D A [(h0, .inr (3, [.ref q1])), (q1, .inl (c1, (12, .inl (upd (fun _ => 0) 0 (iI (zFIRST 0))))))] := hD
  rw [fw_1] at hP hD
  have hP : va_P D vwCl [(h0, .inr (3, [.ref q1])), (q1, .inl (c1, (12, .inl (fw 1))))] H := hP
  have hD : va_D A [(h0, .inr (3, [.ref q1])), (q1, .inl (c1, (12, .inl (fw 1))))] := hD
  refine lv_iinc (v := iI (1)) (lv' := [(1, .int (iI (1))), (0, .ref h0)]) hx hb dX3_init_44 hl (k := 0) rfl (by decide) (by decide) rfl (fun ls hl => ?_)
  refine lv_goto (tgt := 16) hx hb dX3_init_47 (by decide) ?_
  refine lv_iload_n hx hb dX3_init_16 rfl (lv_at hl 0 rfl) ?_
  refine lv_aload_n hx hb dX3_init_17 rfl (lv_at hl 1 rfl) ?_
  refine va_get (D := D) (ci := 3) (v := .ref q1) (C := RX3) (T := TX3) (N := 1) hx hb hts (fun w h => List.mem_cons_of_mem _ (kkX3.2.1 w h)) hown hK hP 0 rfl rfl 0 (by decide) (hw kw_19) (fun _ h9 => h9) rfl dX3_init_18 ?_
  refine va_alen hx hb hK hP 1 0 rfl rfl (v := iI (12)) (show Int32.ofNat 12 = iI (12) from by decide) dX3_init_21 ?_
  refine lv_icmp_ge (tgt := 50) hx hb dX3_init_22 (by decide) (fun q => absurd q (by decide)) (fun _ => ?_)
  refine lv_iload_n hx hb dX3_init_25 rfl (lv_at hl 0 rfl) ?_
  refine va_gets (ref := "RopeLadder$Settings") hx hb hZ1 hS hown (hw kw_18) (fun _ h => h) dX3_init_26 ?_
  refine va_tlen hx hb hT1 hS (v := iI (12)) (by decide) dX3_init_29 ?_
  refine lv_icmp_ge (tgt := 50) hx hb dX3_init_30 (by decide) (fun q => absurd q (by decide)) (fun _ => ?_)
  refine lv_aload_n hx hb dX3_init_33 rfl (lv_at hl 1 rfl) ?_
  refine va_get (D := D) (ci := 3) (v := .ref q1) (C := RX3) (T := TX3) (N := 1) hx hb hts (fun w h => List.mem_cons_of_mem _ (kkX3.2.1 w h)) hown hK hP 0 rfl rfl 0 (by decide) (hw kw_19) (fun _ h9 => h9) rfl dX3_init_34 ?_
  refine lv_iload_n hx hb dX3_init_37 rfl (lv_at hl 0 rfl) ?_
  refine va_gets (ref := "RopeLadder$Settings") hx hb hZ1 hS hown (hw kw_18) (fun _ h => h) dX3_init_38 ?_
  refine lv_iload_n hx hb dX3_init_41 rfl (lv_at hl 0 rfl) ?_
  refine va_ti hx hb hT1 hS (i := iI (1)) (iI_in (by decide) (by decide) (by decide)) (v := .int (iI (zFIRST 1))) (by rw [show (iI (1)).toNatClampNeg = 1 from by decide]) dX3_init_42 ?_
  refine va_iast hx hb hK hP hD hS 1 0 rfl rfl (i := iI (1)) (iI_in (by decide) (by decide) (by decide)) dX3_init_43 (fun H locs hP hD hS => ?_)
  rw [show (iI (1)).toNatClampNeg = 1 from by decide] at hP hD
  have hP : va_P D vwCl [(h0, .inr (3, [.ref q1])), (q1, .inl (c1, (12, .inl (upd (fw 1) 1 (iI (zFIRST 1))))))] H := hP
  have hD : va_D A [(h0, .inr (3, [.ref q1])), (q1, .inl (c1, (12, .inl (upd (fw 1) 1 (iI (zFIRST 1))))))] := hD
  rw [fw_s 1] at hP hD
  have hP : va_P D vwCl [(h0, .inr (3, [.ref q1])), (q1, .inl (c1, (12, .inl (fw 2))))] H := hP
  have hD : va_D A [(h0, .inr (3, [.ref q1])), (q1, .inl (c1, (12, .inl (fw 2))))] := hD
  refine lv_iinc (v := iI (2)) (lv' := [(1, .int (iI (2))), (0, .ref h0)]) hx hb dX3_init_44 hl (k := 0) rfl (by decide) (by decide) rfl (fun ls hl => ?_)
  refine lv_goto (tgt := 16) hx hb dX3_init_47 (by decide) ?_
  refine lv_iload_n hx hb dX3_init_16 rfl (lv_at hl 0 rfl) ?_
  refine lv_aload_n hx hb dX3_init_17 rfl (lv_at hl 1 rfl) ?_
  refine va_get (D := D) (ci := 3) (v := .ref q1) (C := RX3) (T := TX3) (N := 1) hx hb hts (fun w h => List.mem_cons_of_mem _ (kkX3.2.1 w h)) hown hK hP 0 rfl rfl 0 (by decide) (hw kw_19) (fun _ h9 => h9) rfl dX3_init_18 ?_
  refine va_alen hx hb hK hP 1 0 rfl rfl (v := iI (12)) (show Int32.ofNat 12 = iI (12) from by decide) dX3_init_21 ?_
  refine lv_icmp_ge (tgt := 50) hx hb dX3_init_22 (by decide) (fun q => absurd q (by decide)) (fun _ => ?_)
  refine lv_iload_n hx hb dX3_init_25 rfl (lv_at hl 0 rfl) ?_
  refine va_gets (ref := "RopeLadder$Settings") hx hb hZ1 hS hown (hw kw_18) (fun _ h => h) dX3_init_26 ?_
  refine va_tlen hx hb hT1 hS (v := iI (12)) (by decide) dX3_init_29 ?_
  refine lv_icmp_ge (tgt := 50) hx hb dX3_init_30 (by decide) (fun q => absurd q (by decide)) (fun _ => ?_)
  refine lv_aload_n hx hb dX3_init_33 rfl (lv_at hl 1 rfl) ?_
  refine va_get (D := D) (ci := 3) (v := .ref q1) (C := RX3) (T := TX3) (N := 1) hx hb hts (fun w h => List.mem_cons_of_mem _ (kkX3.2.1 w h)) hown hK hP 0 rfl rfl 0 (by decide) (hw kw_19) (fun _ h9 => h9) rfl dX3_init_34 ?_
  refine lv_iload_n hx hb dX3_init_37 rfl (lv_at hl 0 rfl) ?_
  refine va_gets (ref := "RopeLadder$Settings") hx hb hZ1 hS hown (hw kw_18) (fun _ h => h) dX3_init_38 ?_
  refine lv_iload_n hx hb dX3_init_41 rfl (lv_at hl 0 rfl) ?_
  refine va_ti hx hb hT1 hS (i := iI (2)) (iI_in (by decide) (by decide) (by decide)) (v := .int (iI (zFIRST 2))) (by rw [show (iI (2)).toNatClampNeg = 2 from by decide]) dX3_init_42 ?_
  refine va_iast hx hb hK hP hD hS 1 0 rfl rfl (i := iI (2)) (iI_in (by decide) (by decide) (by decide)) dX3_init_43 (fun H locs hP hD hS => ?_)
  rw [show (iI (2)).toNatClampNeg = 2 from by decide] at hP hD
  have hP : va_P D vwCl [(h0, .inr (3, [.ref q1])), (q1, .inl (c1, (12, .inl (upd (fw 2) 2 (iI (zFIRST 2))))))] H := hP
  have hD : va_D A [(h0, .inr (3, [.ref q1])), (q1, .inl (c1, (12, .inl (upd (fw 2) 2 (iI (zFIRST 2))))))] := hD
  rw [fw_s 2] at hP hD
  have hP : va_P D vwCl [(h0, .inr (3, [.ref q1])), (q1, .inl (c1, (12, .inl (fw 3))))] H := hP
  have hD : va_D A [(h0, .inr (3, [.ref q1])), (q1, .inl (c1, (12, .inl (fw 3))))] := hD
  refine lv_iinc (v := iI (3)) (lv' := [(1, .int (iI (3))), (0, .ref h0)]) hx hb dX3_init_44 hl (k := 0) rfl (by decide) (by decide) rfl (fun ls hl => ?_)
  refine lv_goto (tgt := 16) hx hb dX3_init_47 (by decide) ?_
  refine lv_iload_n hx hb dX3_init_16 rfl (lv_at hl 0 rfl) ?_
  refine lv_aload_n hx hb dX3_init_17 rfl (lv_at hl 1 rfl) ?_
  refine va_get (D := D) (ci := 3) (v := .ref q1) (C := RX3) (T := TX3) (N := 1) hx hb hts (fun w h => List.mem_cons_of_mem _ (kkX3.2.1 w h)) hown hK hP 0 rfl rfl 0 (by decide) (hw kw_19) (fun _ h9 => h9) rfl dX3_init_18 ?_
  refine va_alen hx hb hK hP 1 0 rfl rfl (v := iI (12)) (show Int32.ofNat 12 = iI (12) from by decide) dX3_init_21 ?_
  refine lv_icmp_ge (tgt := 50) hx hb dX3_init_22 (by decide) (fun q => absurd q (by decide)) (fun _ => ?_)
  refine lv_iload_n hx hb dX3_init_25 rfl (lv_at hl 0 rfl) ?_
  refine va_gets (ref := "RopeLadder$Settings") hx hb hZ1 hS hown (hw kw_18) (fun _ h => h) dX3_init_26 ?_
  refine va_tlen hx hb hT1 hS (v := iI (12)) (by decide) dX3_init_29 ?_
  refine lv_icmp_ge (tgt := 50) hx hb dX3_init_30 (by decide) (fun q => absurd q (by decide)) (fun _ => ?_)
  refine lv_aload_n hx hb dX3_init_33 rfl (lv_at hl 1 rfl) ?_
  refine va_get (D := D) (ci := 3) (v := .ref q1) (C := RX3) (T := TX3) (N := 1) hx hb hts (fun w h => List.mem_cons_of_mem _ (kkX3.2.1 w h)) hown hK hP 0 rfl rfl 0 (by decide) (hw kw_19) (fun _ h9 => h9) rfl dX3_init_34 ?_
  refine lv_iload_n hx hb dX3_init_37 rfl (lv_at hl 0 rfl) ?_
  refine va_gets (ref := "RopeLadder$Settings") hx hb hZ1 hS hown (hw kw_18) (fun _ h => h) dX3_init_38 ?_
  refine lv_iload_n hx hb dX3_init_41 rfl (lv_at hl 0 rfl) ?_
  refine va_ti hx hb hT1 hS (i := iI (3)) (iI_in (by decide) (by decide) (by decide)) (v := .int (iI (zFIRST 3))) (by rw [show (iI (3)).toNatClampNeg = 3 from by decide]) dX3_init_42 ?_
  refine va_iast hx hb hK hP hD hS 1 0 rfl rfl (i := iI (3)) (iI_in (by decide) (by decide) (by decide)) dX3_init_43 (fun H locs hP hD hS => ?_)
  rw [show (iI (3)).toNatClampNeg = 3 from by decide] at hP hD
  have hP : va_P D vwCl [(h0, .inr (3, [.ref q1])), (q1, .inl (c1, (12, .inl (upd (fw 3) 3 (iI (zFIRST 3))))))] H := hP
  have hD : va_D A [(h0, .inr (3, [.ref q1])), (q1, .inl (c1, (12, .inl (upd (fw 3) 3 (iI (zFIRST 3))))))] := hD
  rw [fw_s 3] at hP hD
  have hP : va_P D vwCl [(h0, .inr (3, [.ref q1])), (q1, .inl (c1, (12, .inl (fw 4))))] H := hP
  have hD : va_D A [(h0, .inr (3, [.ref q1])), (q1, .inl (c1, (12, .inl (fw 4))))] := hD
  refine lv_iinc (v := iI (4)) (lv' := [(1, .int (iI (4))), (0, .ref h0)]) hx hb dX3_init_44 hl (k := 0) rfl (by decide) (by decide) rfl (fun ls hl => ?_)
  refine lv_goto (tgt := 16) hx hb dX3_init_47 (by decide) ?_
  refine lv_iload_n hx hb dX3_init_16 rfl (lv_at hl 0 rfl) ?_
  refine lv_aload_n hx hb dX3_init_17 rfl (lv_at hl 1 rfl) ?_
  refine va_get (D := D) (ci := 3) (v := .ref q1) (C := RX3) (T := TX3) (N := 1) hx hb hts (fun w h => List.mem_cons_of_mem _ (kkX3.2.1 w h)) hown hK hP 0 rfl rfl 0 (by decide) (hw kw_19) (fun _ h9 => h9) rfl dX3_init_18 ?_
  refine va_alen hx hb hK hP 1 0 rfl rfl (v := iI (12)) (show Int32.ofNat 12 = iI (12) from by decide) dX3_init_21 ?_
  refine lv_icmp_ge (tgt := 50) hx hb dX3_init_22 (by decide) (fun q => absurd q (by decide)) (fun _ => ?_)
  refine lv_iload_n hx hb dX3_init_25 rfl (lv_at hl 0 rfl) ?_
  refine va_gets (ref := "RopeLadder$Settings") hx hb hZ1 hS hown (hw kw_18) (fun _ h => h) dX3_init_26 ?_
  refine va_tlen hx hb hT1 hS (v := iI (12)) (by decide) dX3_init_29 ?_
  refine lv_icmp_ge (tgt := 50) hx hb dX3_init_30 (by decide) (fun q => absurd q (by decide)) (fun _ => ?_)
  refine lv_aload_n hx hb dX3_init_33 rfl (lv_at hl 1 rfl) ?_
  refine va_get (D := D) (ci := 3) (v := .ref q1) (C := RX3) (T := TX3) (N := 1) hx hb hts (fun w h => List.mem_cons_of_mem _ (kkX3.2.1 w h)) hown hK hP 0 rfl rfl 0 (by decide) (hw kw_19) (fun _ h9 => h9) rfl dX3_init_34 ?_
  refine lv_iload_n hx hb dX3_init_37 rfl (lv_at hl 0 rfl) ?_
  refine va_gets (ref := "RopeLadder$Settings") hx hb hZ1 hS hown (hw kw_18) (fun _ h => h) dX3_init_38 ?_
  refine lv_iload_n hx hb dX3_init_41 rfl (lv_at hl 0 rfl) ?_
  refine va_ti hx hb hT1 hS (i := iI (4)) (iI_in (by decide) (by decide) (by decide)) (v := .int (iI (zFIRST 4))) (by rw [show (iI (4)).toNatClampNeg = 4 from by decide]) dX3_init_42 ?_
  refine va_iast hx hb hK hP hD hS 1 0 rfl rfl (i := iI (4)) (iI_in (by decide) (by decide) (by decide)) dX3_init_43 (fun H locs hP hD hS => ?_)
  rw [show (iI (4)).toNatClampNeg = 4 from by decide] at hP hD
  have hP : va_P D vwCl [(h0, .inr (3, [.ref q1])), (q1, .inl (c1, (12, .inl (upd (fw 4) 4 (iI (zFIRST 4))))))] H := hP
  have hD : va_D A [(h0, .inr (3, [.ref q1])), (q1, .inl (c1, (12, .inl (upd (fw 4) 4 (iI (zFIRST 4))))))] := hD
  rw [fw_s 4] at hP hD
  have hP : va_P D vwCl [(h0, .inr (3, [.ref q1])), (q1, .inl (c1, (12, .inl (fw 5))))] H := hP
  have hD : va_D A [(h0, .inr (3, [.ref q1])), (q1, .inl (c1, (12, .inl (fw 5))))] := hD
  refine lv_iinc (v := iI (5)) (lv' := [(1, .int (iI (5))), (0, .ref h0)]) hx hb dX3_init_44 hl (k := 0) rfl (by decide) (by decide) rfl (fun ls hl => ?_)
  refine lv_goto (tgt := 16) hx hb dX3_init_47 (by decide) ?_
  refine lv_iload_n hx hb dX3_init_16 rfl (lv_at hl 0 rfl) ?_
  refine lv_aload_n hx hb dX3_init_17 rfl (lv_at hl 1 rfl) ?_
  refine va_get (D := D) (ci := 3) (v := .ref q1) (C := RX3) (T := TX3) (N := 1) hx hb hts (fun w h => List.mem_cons_of_mem _ (kkX3.2.1 w h)) hown hK hP 0 rfl rfl 0 (by decide) (hw kw_19) (fun _ h9 => h9) rfl dX3_init_18 ?_
  refine va_alen hx hb hK hP 1 0 rfl rfl (v := iI (12)) (show Int32.ofNat 12 = iI (12) from by decide) dX3_init_21 ?_
  refine lv_icmp_ge (tgt := 50) hx hb dX3_init_22 (by decide) (fun q => absurd q (by decide)) (fun _ => ?_)
  refine lv_iload_n hx hb dX3_init_25 rfl (lv_at hl 0 rfl) ?_
  refine va_gets (ref := "RopeLadder$Settings") hx hb hZ1 hS hown (hw kw_18) (fun _ h => h) dX3_init_26 ?_
  refine va_tlen hx hb hT1 hS (v := iI (12)) (by decide) dX3_init_29 ?_
  refine lv_icmp_ge (tgt := 50) hx hb dX3_init_30 (by decide) (fun q => absurd q (by decide)) (fun _ => ?_)
  refine lv_aload_n hx hb dX3_init_33 rfl (lv_at hl 1 rfl) ?_
  refine va_get (D := D) (ci := 3) (v := .ref q1) (C := RX3) (T := TX3) (N := 1) hx hb hts (fun w h => List.mem_cons_of_mem _ (kkX3.2.1 w h)) hown hK hP 0 rfl rfl 0 (by decide) (hw kw_19) (fun _ h9 => h9) rfl dX3_init_34 ?_
  refine lv_iload_n hx hb dX3_init_37 rfl (lv_at hl 0 rfl) ?_
  refine va_gets (ref := "RopeLadder$Settings") hx hb hZ1 hS hown (hw kw_18) (fun _ h => h) dX3_init_38 ?_
  refine lv_iload_n hx hb dX3_init_41 rfl (lv_at hl 0 rfl) ?_
  refine va_ti hx hb hT1 hS (i := iI (5)) (iI_in (by decide) (by decide) (by decide)) (v := .int (iI (zFIRST 5))) (by rw [show (iI (5)).toNatClampNeg = 5 from by decide]) dX3_init_42 ?_
  refine va_iast hx hb hK hP hD hS 1 0 rfl rfl (i := iI (5)) (iI_in (by decide) (by decide) (by decide)) dX3_init_43 (fun H locs hP hD hS => ?_)
  rw [show (iI (5)).toNatClampNeg = 5 from by decide] at hP hD
  have hP : va_P D vwCl [(h0, .inr (3, [.ref q1])), (q1, .inl (c1, (12, .inl (upd (fw 5) 5 (iI (zFIRST 5))))))] H := hP
  have hD : va_D A [(h0, .inr (3, [.ref q1])), (q1, .inl (c1, (12, .inl (upd (fw 5) 5 (iI (zFIRST 5))))))] := hD
  rw [fw_s 5] at hP hD
  have hP : va_P D vwCl [(h0, .inr (3, [.ref q1])), (q1, .inl (c1, (12, .inl (fw 6))))] H := hP
  have hD : va_D A [(h0, .inr (3, [.ref q1])), (q1, .inl (c1, (12, .inl (fw 6))))] := hD
  refine lv_iinc (v := iI (6)) (lv' := [(1, .int (iI (6))), (0, .ref h0)]) hx hb dX3_init_44 hl (k := 0) rfl (by decide) (by decide) rfl (fun ls hl => ?_)
  refine lv_goto (tgt := 16) hx hb dX3_init_47 (by decide) ?_
  refine lv_iload_n hx hb dX3_init_16 rfl (lv_at hl 0 rfl) ?_
  refine lv_aload_n hx hb dX3_init_17 rfl (lv_at hl 1 rfl) ?_
  refine va_get (D := D) (ci := 3) (v := .ref q1) (C := RX3) (T := TX3) (N := 1) hx hb hts (fun w h => List.mem_cons_of_mem _ (kkX3.2.1 w h)) hown hK hP 0 rfl rfl 0 (by decide) (hw kw_19) (fun _ h9 => h9) rfl dX3_init_18 ?_
  refine va_alen hx hb hK hP 1 0 rfl rfl (v := iI (12)) (show Int32.ofNat 12 = iI (12) from by decide) dX3_init_21 ?_
  refine lv_icmp_ge (tgt := 50) hx hb dX3_init_22 (by decide) (fun q => absurd q (by decide)) (fun _ => ?_)
  refine lv_iload_n hx hb dX3_init_25 rfl (lv_at hl 0 rfl) ?_
  refine va_gets (ref := "RopeLadder$Settings") hx hb hZ1 hS hown (hw kw_18) (fun _ h => h) dX3_init_26 ?_
  refine va_tlen hx hb hT1 hS (v := iI (12)) (by decide) dX3_init_29 ?_
  refine lv_icmp_ge (tgt := 50) hx hb dX3_init_30 (by decide) (fun q => absurd q (by decide)) (fun _ => ?_)
  refine lv_aload_n hx hb dX3_init_33 rfl (lv_at hl 1 rfl) ?_
  refine va_get (D := D) (ci := 3) (v := .ref q1) (C := RX3) (T := TX3) (N := 1) hx hb hts (fun w h => List.mem_cons_of_mem _ (kkX3.2.1 w h)) hown hK hP 0 rfl rfl 0 (by decide) (hw kw_19) (fun _ h9 => h9) rfl dX3_init_34 ?_
  refine lv_iload_n hx hb dX3_init_37 rfl (lv_at hl 0 rfl) ?_
  refine va_gets (ref := "RopeLadder$Settings") hx hb hZ1 hS hown (hw kw_18) (fun _ h => h) dX3_init_38 ?_
  refine lv_iload_n hx hb dX3_init_41 rfl (lv_at hl 0 rfl) ?_
  refine va_ti hx hb hT1 hS (i := iI (6)) (iI_in (by decide) (by decide) (by decide)) (v := .int (iI (zFIRST 6))) (by rw [show (iI (6)).toNatClampNeg = 6 from by decide]) dX3_init_42 ?_
  refine va_iast hx hb hK hP hD hS 1 0 rfl rfl (i := iI (6)) (iI_in (by decide) (by decide) (by decide)) dX3_init_43 (fun H locs hP hD hS => ?_)
  rw [show (iI (6)).toNatClampNeg = 6 from by decide] at hP hD
  have hP : va_P D vwCl [(h0, .inr (3, [.ref q1])), (q1, .inl (c1, (12, .inl (upd (fw 6) 6 (iI (zFIRST 6))))))] H := hP
  have hD : va_D A [(h0, .inr (3, [.ref q1])), (q1, .inl (c1, (12, .inl (upd (fw 6) 6 (iI (zFIRST 6))))))] := hD
  rw [fw_s 6] at hP hD
  have hP : va_P D vwCl [(h0, .inr (3, [.ref q1])), (q1, .inl (c1, (12, .inl (fw 7))))] H := hP
  have hD : va_D A [(h0, .inr (3, [.ref q1])), (q1, .inl (c1, (12, .inl (fw 7))))] := hD
  refine lv_iinc (v := iI (7)) (lv' := [(1, .int (iI (7))), (0, .ref h0)]) hx hb dX3_init_44 hl (k := 0) rfl (by decide) (by decide) rfl (fun ls hl => ?_)
  refine lv_goto (tgt := 16) hx hb dX3_init_47 (by decide) ?_
  refine lv_iload_n hx hb dX3_init_16 rfl (lv_at hl 0 rfl) ?_
  refine lv_aload_n hx hb dX3_init_17 rfl (lv_at hl 1 rfl) ?_
  refine va_get (D := D) (ci := 3) (v := .ref q1) (C := RX3) (T := TX3) (N := 1) hx hb hts (fun w h => List.mem_cons_of_mem _ (kkX3.2.1 w h)) hown hK hP 0 rfl rfl 0 (by decide) (hw kw_19) (fun _ h9 => h9) rfl dX3_init_18 ?_
  refine va_alen hx hb hK hP 1 0 rfl rfl (v := iI (12)) (show Int32.ofNat 12 = iI (12) from by decide) dX3_init_21 ?_
  refine lv_icmp_ge (tgt := 50) hx hb dX3_init_22 (by decide) (fun q => absurd q (by decide)) (fun _ => ?_)
  refine lv_iload_n hx hb dX3_init_25 rfl (lv_at hl 0 rfl) ?_
  refine va_gets (ref := "RopeLadder$Settings") hx hb hZ1 hS hown (hw kw_18) (fun _ h => h) dX3_init_26 ?_
  refine va_tlen hx hb hT1 hS (v := iI (12)) (by decide) dX3_init_29 ?_
  refine lv_icmp_ge (tgt := 50) hx hb dX3_init_30 (by decide) (fun q => absurd q (by decide)) (fun _ => ?_)
  refine lv_aload_n hx hb dX3_init_33 rfl (lv_at hl 1 rfl) ?_
  refine va_get (D := D) (ci := 3) (v := .ref q1) (C := RX3) (T := TX3) (N := 1) hx hb hts (fun w h => List.mem_cons_of_mem _ (kkX3.2.1 w h)) hown hK hP 0 rfl rfl 0 (by decide) (hw kw_19) (fun _ h9 => h9) rfl dX3_init_34 ?_
  refine lv_iload_n hx hb dX3_init_37 rfl (lv_at hl 0 rfl) ?_
  refine va_gets (ref := "RopeLadder$Settings") hx hb hZ1 hS hown (hw kw_18) (fun _ h => h) dX3_init_38 ?_
  refine lv_iload_n hx hb dX3_init_41 rfl (lv_at hl 0 rfl) ?_
  refine va_ti hx hb hT1 hS (i := iI (7)) (iI_in (by decide) (by decide) (by decide)) (v := .int (iI (zFIRST 7))) (by rw [show (iI (7)).toNatClampNeg = 7 from by decide]) dX3_init_42 ?_
  refine va_iast hx hb hK hP hD hS 1 0 rfl rfl (i := iI (7)) (iI_in (by decide) (by decide) (by decide)) dX3_init_43 (fun H locs hP hD hS => ?_)
  rw [show (iI (7)).toNatClampNeg = 7 from by decide] at hP hD
  have hP : va_P D vwCl [(h0, .inr (3, [.ref q1])), (q1, .inl (c1, (12, .inl (upd (fw 7) 7 (iI (zFIRST 7))))))] H := hP
  have hD : va_D A [(h0, .inr (3, [.ref q1])), (q1, .inl (c1, (12, .inl (upd (fw 7) 7 (iI (zFIRST 7))))))] := hD
  rw [fw_s 7] at hP hD
  have hP : va_P D vwCl [(h0, .inr (3, [.ref q1])), (q1, .inl (c1, (12, .inl (fw 8))))] H := hP
  have hD : va_D A [(h0, .inr (3, [.ref q1])), (q1, .inl (c1, (12, .inl (fw 8))))] := hD
  refine lv_iinc (v := iI (8)) (lv' := [(1, .int (iI (8))), (0, .ref h0)]) hx hb dX3_init_44 hl (k := 0) rfl (by decide) (by decide) rfl (fun ls hl => ?_)
  refine lv_goto (tgt := 16) hx hb dX3_init_47 (by decide) ?_
  refine lv_iload_n hx hb dX3_init_16 rfl (lv_at hl 0 rfl) ?_
  refine lv_aload_n hx hb dX3_init_17 rfl (lv_at hl 1 rfl) ?_
  refine va_get (D := D) (ci := 3) (v := .ref q1) (C := RX3) (T := TX3) (N := 1) hx hb hts (fun w h => List.mem_cons_of_mem _ (kkX3.2.1 w h)) hown hK hP 0 rfl rfl 0 (by decide) (hw kw_19) (fun _ h9 => h9) rfl dX3_init_18 ?_
  refine va_alen hx hb hK hP 1 0 rfl rfl (v := iI (12)) (show Int32.ofNat 12 = iI (12) from by decide) dX3_init_21 ?_
  refine lv_icmp_ge (tgt := 50) hx hb dX3_init_22 (by decide) (fun q => absurd q (by decide)) (fun _ => ?_)
  refine lv_iload_n hx hb dX3_init_25 rfl (lv_at hl 0 rfl) ?_
  refine va_gets (ref := "RopeLadder$Settings") hx hb hZ1 hS hown (hw kw_18) (fun _ h => h) dX3_init_26 ?_
  refine va_tlen hx hb hT1 hS (v := iI (12)) (by decide) dX3_init_29 ?_
  refine lv_icmp_ge (tgt := 50) hx hb dX3_init_30 (by decide) (fun q => absurd q (by decide)) (fun _ => ?_)
  refine lv_aload_n hx hb dX3_init_33 rfl (lv_at hl 1 rfl) ?_
  refine va_get (D := D) (ci := 3) (v := .ref q1) (C := RX3) (T := TX3) (N := 1) hx hb hts (fun w h => List.mem_cons_of_mem _ (kkX3.2.1 w h)) hown hK hP 0 rfl rfl 0 (by decide) (hw kw_19) (fun _ h9 => h9) rfl dX3_init_34 ?_
  refine lv_iload_n hx hb dX3_init_37 rfl (lv_at hl 0 rfl) ?_
  refine va_gets (ref := "RopeLadder$Settings") hx hb hZ1 hS hown (hw kw_18) (fun _ h => h) dX3_init_38 ?_
  refine lv_iload_n hx hb dX3_init_41 rfl (lv_at hl 0 rfl) ?_
  refine va_ti hx hb hT1 hS (i := iI (8)) (iI_in (by decide) (by decide) (by decide)) (v := .int (iI (zFIRST 8))) (by rw [show (iI (8)).toNatClampNeg = 8 from by decide]) dX3_init_42 ?_
  refine va_iast hx hb hK hP hD hS 1 0 rfl rfl (i := iI (8)) (iI_in (by decide) (by decide) (by decide)) dX3_init_43 (fun H locs hP hD hS => ?_)
  rw [show (iI (8)).toNatClampNeg = 8 from by decide] at hP hD
  have hP : va_P D vwCl [(h0, .inr (3, [.ref q1])), (q1, .inl (c1, (12, .inl (upd (fw 8) 8 (iI (zFIRST 8))))))] H := hP
  have hD : va_D A [(h0, .inr (3, [.ref q1])), (q1, .inl (c1, (12, .inl (upd (fw 8) 8 (iI (zFIRST 8))))))] := hD
  rw [fw_s 8] at hP hD
  have hP : va_P D vwCl [(h0, .inr (3, [.ref q1])), (q1, .inl (c1, (12, .inl (fw 9))))] H := hP
  have hD : va_D A [(h0, .inr (3, [.ref q1])), (q1, .inl (c1, (12, .inl (fw 9))))] := hD
  refine lv_iinc (v := iI (9)) (lv' := [(1, .int (iI (9))), (0, .ref h0)]) hx hb dX3_init_44 hl (k := 0) rfl (by decide) (by decide) rfl (fun ls hl => ?_)
  refine lv_goto (tgt := 16) hx hb dX3_init_47 (by decide) ?_
  refine lv_iload_n hx hb dX3_init_16 rfl (lv_at hl 0 rfl) ?_
  refine lv_aload_n hx hb dX3_init_17 rfl (lv_at hl 1 rfl) ?_
  refine va_get (D := D) (ci := 3) (v := .ref q1) (C := RX3) (T := TX3) (N := 1) hx hb hts (fun w h => List.mem_cons_of_mem _ (kkX3.2.1 w h)) hown hK hP 0 rfl rfl 0 (by decide) (hw kw_19) (fun _ h9 => h9) rfl dX3_init_18 ?_
  refine va_alen hx hb hK hP 1 0 rfl rfl (v := iI (12)) (show Int32.ofNat 12 = iI (12) from by decide) dX3_init_21 ?_
  refine lv_icmp_ge (tgt := 50) hx hb dX3_init_22 (by decide) (fun q => absurd q (by decide)) (fun _ => ?_)
  refine lv_iload_n hx hb dX3_init_25 rfl (lv_at hl 0 rfl) ?_
  refine va_gets (ref := "RopeLadder$Settings") hx hb hZ1 hS hown (hw kw_18) (fun _ h => h) dX3_init_26 ?_
  refine va_tlen hx hb hT1 hS (v := iI (12)) (by decide) dX3_init_29 ?_
  refine lv_icmp_ge (tgt := 50) hx hb dX3_init_30 (by decide) (fun q => absurd q (by decide)) (fun _ => ?_)
  refine lv_aload_n hx hb dX3_init_33 rfl (lv_at hl 1 rfl) ?_
  refine va_get (D := D) (ci := 3) (v := .ref q1) (C := RX3) (T := TX3) (N := 1) hx hb hts (fun w h => List.mem_cons_of_mem _ (kkX3.2.1 w h)) hown hK hP 0 rfl rfl 0 (by decide) (hw kw_19) (fun _ h9 => h9) rfl dX3_init_34 ?_
  refine lv_iload_n hx hb dX3_init_37 rfl (lv_at hl 0 rfl) ?_
  refine va_gets (ref := "RopeLadder$Settings") hx hb hZ1 hS hown (hw kw_18) (fun _ h => h) dX3_init_38 ?_
  refine lv_iload_n hx hb dX3_init_41 rfl (lv_at hl 0 rfl) ?_
  refine va_ti hx hb hT1 hS (i := iI (9)) (iI_in (by decide) (by decide) (by decide)) (v := .int (iI (zFIRST 9))) (by rw [show (iI (9)).toNatClampNeg = 9 from by decide]) dX3_init_42 ?_
  refine va_iast hx hb hK hP hD hS 1 0 rfl rfl (i := iI (9)) (iI_in (by decide) (by decide) (by decide)) dX3_init_43 (fun H locs hP hD hS => ?_)
  rw [show (iI (9)).toNatClampNeg = 9 from by decide] at hP hD
  have hP : va_P D vwCl [(h0, .inr (3, [.ref q1])), (q1, .inl (c1, (12, .inl (upd (fw 9) 9 (iI (zFIRST 9))))))] H := hP
  have hD : va_D A [(h0, .inr (3, [.ref q1])), (q1, .inl (c1, (12, .inl (upd (fw 9) 9 (iI (zFIRST 9))))))] := hD
  rw [fw_s 9] at hP hD
  have hP : va_P D vwCl [(h0, .inr (3, [.ref q1])), (q1, .inl (c1, (12, .inl (fw 10))))] H := hP
  have hD : va_D A [(h0, .inr (3, [.ref q1])), (q1, .inl (c1, (12, .inl (fw 10))))] := hD
  refine lv_iinc (v := iI (10)) (lv' := [(1, .int (iI (10))), (0, .ref h0)]) hx hb dX3_init_44 hl (k := 0) rfl (by decide) (by decide) rfl (fun ls hl => ?_)
  refine lv_goto (tgt := 16) hx hb dX3_init_47 (by decide) ?_
  refine lv_iload_n hx hb dX3_init_16 rfl (lv_at hl 0 rfl) ?_
  refine lv_aload_n hx hb dX3_init_17 rfl (lv_at hl 1 rfl) ?_
  refine va_get (D := D) (ci := 3) (v := .ref q1) (C := RX3) (T := TX3) (N := 1) hx hb hts (fun w h => List.mem_cons_of_mem _ (kkX3.2.1 w h)) hown hK hP 0 rfl rfl 0 (by decide) (hw kw_19) (fun _ h9 => h9) rfl dX3_init_18 ?_
  refine va_alen hx hb hK hP 1 0 rfl rfl (v := iI (12)) (show Int32.ofNat 12 = iI (12) from by decide) dX3_init_21 ?_
  refine lv_icmp_ge (tgt := 50) hx hb dX3_init_22 (by decide) (fun q => absurd q (by decide)) (fun _ => ?_)
  refine lv_iload_n hx hb dX3_init_25 rfl (lv_at hl 0 rfl) ?_
  refine va_gets (ref := "RopeLadder$Settings") hx hb hZ1 hS hown (hw kw_18) (fun _ h => h) dX3_init_26 ?_
  refine va_tlen hx hb hT1 hS (v := iI (12)) (by decide) dX3_init_29 ?_
  refine lv_icmp_ge (tgt := 50) hx hb dX3_init_30 (by decide) (fun q => absurd q (by decide)) (fun _ => ?_)
  refine lv_aload_n hx hb dX3_init_33 rfl (lv_at hl 1 rfl) ?_
  refine va_get (D := D) (ci := 3) (v := .ref q1) (C := RX3) (T := TX3) (N := 1) hx hb hts (fun w h => List.mem_cons_of_mem _ (kkX3.2.1 w h)) hown hK hP 0 rfl rfl 0 (by decide) (hw kw_19) (fun _ h9 => h9) rfl dX3_init_34 ?_
  refine lv_iload_n hx hb dX3_init_37 rfl (lv_at hl 0 rfl) ?_
  refine va_gets (ref := "RopeLadder$Settings") hx hb hZ1 hS hown (hw kw_18) (fun _ h => h) dX3_init_38 ?_
  refine lv_iload_n hx hb dX3_init_41 rfl (lv_at hl 0 rfl) ?_
  refine va_ti hx hb hT1 hS (i := iI (10)) (iI_in (by decide) (by decide) (by decide)) (v := .int (iI (zFIRST 10))) (by rw [show (iI (10)).toNatClampNeg = 10 from by decide]) dX3_init_42 ?_
  refine va_iast hx hb hK hP hD hS 1 0 rfl rfl (i := iI (10)) (iI_in (by decide) (by decide) (by decide)) dX3_init_43 (fun H locs hP hD hS => ?_)
  rw [show (iI (10)).toNatClampNeg = 10 from by decide] at hP hD
  have hP : va_P D vwCl [(h0, .inr (3, [.ref q1])), (q1, .inl (c1, (12, .inl (upd (fw 10) 10 (iI (zFIRST 10))))))] H := hP
  have hD : va_D A [(h0, .inr (3, [.ref q1])), (q1, .inl (c1, (12, .inl (upd (fw 10) 10 (iI (zFIRST 10))))))] := hD
  rw [fw_s 10] at hP hD
  have hP : va_P D vwCl [(h0, .inr (3, [.ref q1])), (q1, .inl (c1, (12, .inl (fw 11))))] H := hP
  have hD : va_D A [(h0, .inr (3, [.ref q1])), (q1, .inl (c1, (12, .inl (fw 11))))] := hD
  refine lv_iinc (v := iI (11)) (lv' := [(1, .int (iI (11))), (0, .ref h0)]) hx hb dX3_init_44 hl (k := 0) rfl (by decide) (by decide) rfl (fun ls hl => ?_)
  refine lv_goto (tgt := 16) hx hb dX3_init_47 (by decide) ?_
  refine lv_iload_n hx hb dX3_init_16 rfl (lv_at hl 0 rfl) ?_
  refine lv_aload_n hx hb dX3_init_17 rfl (lv_at hl 1 rfl) ?_
  refine va_get (D := D) (ci := 3) (v := .ref q1) (C := RX3) (T := TX3) (N := 1) hx hb hts (fun w h => List.mem_cons_of_mem _ (kkX3.2.1 w h)) hown hK hP 0 rfl rfl 0 (by decide) (hw kw_19) (fun _ h9 => h9) rfl dX3_init_18 ?_
  refine va_alen hx hb hK hP 1 0 rfl rfl (v := iI (12)) (show Int32.ofNat 12 = iI (12) from by decide) dX3_init_21 ?_
  refine lv_icmp_ge (tgt := 50) hx hb dX3_init_22 (by decide) (fun q => absurd q (by decide)) (fun _ => ?_)
  refine lv_iload_n hx hb dX3_init_25 rfl (lv_at hl 0 rfl) ?_
  refine va_gets (ref := "RopeLadder$Settings") hx hb hZ1 hS hown (hw kw_18) (fun _ h => h) dX3_init_26 ?_
  refine va_tlen hx hb hT1 hS (v := iI (12)) (by decide) dX3_init_29 ?_
  refine lv_icmp_ge (tgt := 50) hx hb dX3_init_30 (by decide) (fun q => absurd q (by decide)) (fun _ => ?_)
  refine lv_aload_n hx hb dX3_init_33 rfl (lv_at hl 1 rfl) ?_
  refine va_get (D := D) (ci := 3) (v := .ref q1) (C := RX3) (T := TX3) (N := 1) hx hb hts (fun w h => List.mem_cons_of_mem _ (kkX3.2.1 w h)) hown hK hP 0 rfl rfl 0 (by decide) (hw kw_19) (fun _ h9 => h9) rfl dX3_init_34 ?_
  refine lv_iload_n hx hb dX3_init_37 rfl (lv_at hl 0 rfl) ?_
  refine va_gets (ref := "RopeLadder$Settings") hx hb hZ1 hS hown (hw kw_18) (fun _ h => h) dX3_init_38 ?_
  refine lv_iload_n hx hb dX3_init_41 rfl (lv_at hl 0 rfl) ?_
  refine va_ti hx hb hT1 hS (i := iI (11)) (iI_in (by decide) (by decide) (by decide)) (v := .int (iI (zFIRST 11))) (by rw [show (iI (11)).toNatClampNeg = 11 from by decide]) dX3_init_42 ?_
  refine va_iast hx hb hK hP hD hS 1 0 rfl rfl (i := iI (11)) (iI_in (by decide) (by decide) (by decide)) dX3_init_43 (fun H locs hP hD hS => ?_)
  rw [show (iI (11)).toNatClampNeg = 11 from by decide] at hP hD
  have hP : va_P D vwCl [(h0, .inr (3, [.ref q1])), (q1, .inl (c1, (12, .inl (upd (fw 11) 11 (iI (zFIRST 11))))))] H := hP
  have hD : va_D A [(h0, .inr (3, [.ref q1])), (q1, .inl (c1, (12, .inl (upd (fw 11) 11 (iI (zFIRST 11))))))] := hD
  rw [fw_s 11] at hP hD
  have hP : va_P D vwCl [(h0, .inr (3, [.ref q1])), (q1, .inl (c1, (12, .inl (fw 12))))] H := hP
  have hD : va_D A [(h0, .inr (3, [.ref q1])), (q1, .inl (c1, (12, .inl (fw 12))))] := hD
  refine lv_iinc (v := iI (12)) (lv' := [(1, .int (iI (12))), (0, .ref h0)]) hx hb dX3_init_44 hl (k := 0) rfl (by decide) (by decide) rfl (fun ls hl => ?_)
  refine lv_goto (tgt := 16) hx hb dX3_init_47 (by decide) ?_
  refine lv_iload_n hx hb dX3_init_16 rfl (lv_at hl 0 rfl) ?_
  refine lv_aload_n hx hb dX3_init_17 rfl (lv_at hl 1 rfl) ?_
  refine va_get (D := D) (ci := 3) (v := .ref q1) (C := RX3) (T := TX3) (N := 1) hx hb hts (fun w h => List.mem_cons_of_mem _ (kkX3.2.1 w h)) hown hK hP 0 rfl rfl 0 (by decide) (hw kw_19) (fun _ h9 => h9) rfl dX3_init_18 ?_
  refine va_alen hx hb hK hP 1 0 rfl rfl (v := iI (12)) (show Int32.ofNat 12 = iI (12) from by decide) dX3_init_21 ?_
  refine lv_icmp_ge (tgt := 50) hx hb dX3_init_22 (by decide) (fun _ => ?_) (fun q => absurd (by decide) q)
  have hP9 := hP.sub (ws' := [(h0, .inr (3, [.ref q1])), (q1, .inl (c1, (12, .inl (fw 12))))]) [0, 1] rfl
  have hD9 := hD.sub (ws' := [(h0, .inr (3, [.ref q1])), (q1, .inl (c1, (12, .inl (fw 12))))]) [0, 1] (by decide) rfl
  refine W.widen (k := 1) (n := 12) (by omega) (by omega) ?_
  exact W.vret hx hb hr (fun t ht hW => ⟨⟨(), rfl, trivial, q1, c1, by rw [ht]; exact hP9, va_K.moved hW.alike hK, hD9⟩, hS.F ht⟩) hS.2.2 dX3_init_50
theorem kw_20 : Cond.methodLink RX0 3 Lib.objectInit ∈ rl_T := rl_in 179 (by decide +kernel) rfl
theorem kw_21 : Cond.fieldLink RX0 9 "RopeLadder$Climb" "end" "I" ∈ rl_T := rl_in 183 (by decide +kernel) rfl
theorem kw_22 : Cond.fieldLink RX0 15 "RopeLadder$Climb" "sea" "LRopeLadder$Sea;" ∈ rl_T := rl_in 180 (by decide +kernel) rfl
theorem kw_23 : Cond.fieldLink RX0 19 "RopeLadder$Climb" "ship" "LRopeLadder$Ship;" ∈ rl_T := rl_in 181 (by decide +kernel) rfl
theorem kw_24 : Cond.fieldLink RX0 23 "RopeLadder$Climb" "settings" "LRopeLadder$Settings;" ∈ rl_T := rl_in 182 (by decide +kernel) rfl
abbrev mX0_init : rl_M := (yX0_init, cX0_init, 4, none, 0)
set_option maxHeartbeats 4000000 in
set_option maxRecDepth 100000 in
theorem k_X0 (l : Launch) (D : va_G) (h0 sz : Nat) (p1 : Nat) (p2 : Nat) (p3 : Nat) : Met l yX0_init (rl_ws mX0_init) ({ frames := 1, cells := 0, slots := 0, locals := 12 }) (va_Pc [.ref h0, .ref p1, .ref p2, .ref p3] (fun U => U.heap.size = sz ∧ va_P D vwCl [(h0, .inr (0, [.null, .null, .null, .int 0, .int 0]))] U.heap ∧ va_K D vwCl [] U ∧ va_D (fun _ => True) [(h0, .inr (0, [.null, .null, .null, .int 0, .int 0]))])) (va_Qv (fun _ : Unit => True) (fun _ t => va_P D vwCl [(h0, .inr (0, [.ref p1, .ref p2, .ref p3, .int (iI (-1)), .int 0]))] t.heap ∧ va_K D vwCl [] t ∧ va_D (va_A [(h0, .inr (0, [.null, .null, .null, .int 0, .int 0]))] sz) [(h0, .inr (0, [.ref p1, .ref p2, .ref p3, .int (iI (-1)), .int 0]))]) (va_A [(h0, .inr (0, [.null, .null, .null, .int 0, .int 0]))] sz)) 0 0 (va_A [(h0, .inr (0, [.null, .null, .null, .int 0, .int 0]))] sz) := by
  refine Met.ofW (cc := cX0_init) (maxL := 4) (ret := none) (ws' := rl_T) plX0 rfl ?_
  intro p e s m args below meth c s₁ B hml hv
  obtain ⟨rfl, hsz, hP, hK, hD0⟩ := hv
  have hx := B.exec
  have hb := B.bytes
  have hr := B.returns
  have hts := atoms_spec (ws := rl_ws mX0_init) B.pre
  have hw : ∀ {q : Cond}, q ∈ rl_T → q.before ([.ref h0, .ref p1, .ref p2, .ref p3] : List Value).toArray s = true := fun h => hts _ (List.mem_cons_of_mem _ h)
  have hown : s.vm.findClass RX0 = some m.cls := findClass_of_methodNamed B.named
  have hlocks := B.notSynchronized
  have hin : meth.name = "<init>" := (name_of_methodNamed B.named B.method).1
  subst hsz
  have hD := hD0.self (sz := s.heap.size)
  generalize hAe : va_A [(h0, .inr (0, [.null, .null, .null, .int 0, .int 0]))] s.heap.size = A at hD ⊢
  have hA : ∀ q : Nat, s.heap.size ≤ q → A q := fun q h => by rw [← hAe]; exact Or.inr h
  have hS : va_S A s.heap s.heap [] := va_S.rf
  have hP : va_P D vwCl [(h0, .inr (0, [.null, .null, .null, .int 0, .int 0]))] s.heap := hP
  have hl := lv_entry ([.ref h0, .ref p1, .ref p2, .ref p3]) (n := 4) (Nat.le_of_ble_eq_true rfl)
  rw [lg_entry_eq]
  generalize (lg_sl ([.ref h0, .ref p1, .ref p2, .ref p3]) ++ List.replicate (4 - (lg_sl ([.ref h0, .ref p1, .ref p2, .ref p3])).length) Slot.unset).toArray = ls at hl ⊢
  have hl : lv_has ls 4 [(0, .ref h0), (1, .ref p1), (2, .ref p2), (3, .ref p3)] := hl
  refine lv_aload_n hx hb dX0_init_0 rfl (lv_at hl 0 rfl) ?_
  refine W.objInit hx hb hown (hw kw_20) (hw kw_1) (hw kw_2) rfl (by rw [hml]; exact hl.1) rfl dX0_init_1 (Nat.le_of_ble_eq_true rfl) (Nat.le_of_ble_eq_true rfl) ?_
  refine W.eq (g2 := F0 m 4 ls []) rfl ?_
  refine lv_aload_n hx hb dX0_init_4 rfl (lv_at hl 0 rfl) ?_
  refine lv_iconst (v := iI (-1)) hx hb dX0_init_5 (by decide) ?_
  refine va_put (D := D) (ci := 0) (v := .int (iI (-1))) (ty := .int) (C := RX0) (T := TX0) (N := 5) hx hb hts (fun w h => List.mem_cons_of_mem _ (kkX0.2.1 w h)) tyX0 tyX0_ok nmX0 hown hK hP hD hS 0 rfl rfl 3 (by decide) (hw kw_21) (fun _ h9 => h9) rfl (by decide +kernel) rfl rfl (Nat.le_of_ble_eq_true rfl) dX0_init_6 (fun H locs hP hD hS => ?_)
  have hP : va_P D vwCl [(h0, .inr (0, [.null, .null, .null, .int (iI (-1)), .int 0]))] H := hP
  have hD : va_D A [(h0, .inr (0, [.null, .null, .null, .int (iI (-1)), .int 0]))] := hD
  refine lv_aload_n hx hb dX0_init_9 rfl (lv_at hl 0 rfl) ?_
  refine lv_aload_n hx hb dX0_init_10 rfl (lv_at hl 1 rfl) ?_
  refine va_putF (D := D) (ci := 0) (v := .ref p1) (ty := .object "RopeLadder$Sea") (C := RX0) (T := TX0) (N := 5) hx hb hts (fun w h => List.mem_cons_of_mem _ (kkX0.2.1 w h)) tyX0 tyX0_ok nmX0 hown hK hP hD hS 0 rfl rfl 0 (by decide) (hw kw_22) (fun _ h9 => h9) rfl hin rfl (by decide +kernel) rfl rfl (Nat.le_of_ble_eq_true rfl) dX0_init_11 (fun H locs hP hD hS => ?_)
  have hP : va_P D vwCl [(h0, .inr (0, [.ref p1, .null, .null, .int (iI (-1)), .int 0]))] H := hP
  have hD : va_D A [(h0, .inr (0, [.ref p1, .null, .null, .int (iI (-1)), .int 0]))] := hD
  refine lv_aload_n hx hb dX0_init_14 rfl (lv_at hl 0 rfl) ?_
  refine lv_aload_n hx hb dX0_init_15 rfl (lv_at hl 2 rfl) ?_
  refine va_putF (D := D) (ci := 0) (v := .ref p2) (ty := .object "RopeLadder$Ship") (C := RX0) (T := TX0) (N := 5) hx hb hts (fun w h => List.mem_cons_of_mem _ (kkX0.2.1 w h)) tyX0 tyX0_ok nmX0 hown hK hP hD hS 0 rfl rfl 1 (by decide) (hw kw_23) (fun _ h9 => h9) rfl hin rfl (by decide +kernel) rfl rfl (Nat.le_of_ble_eq_true rfl) dX0_init_16 (fun H locs hP hD hS => ?_)
  have hP : va_P D vwCl [(h0, .inr (0, [.ref p1, .ref p2, .null, .int (iI (-1)), .int 0]))] H := hP
  have hD : va_D A [(h0, .inr (0, [.ref p1, .ref p2, .null, .int (iI (-1)), .int 0]))] := hD
  refine lv_aload_n hx hb dX0_init_19 rfl (lv_at hl 0 rfl) ?_
  refine lv_aload_n hx hb dX0_init_20 rfl (lv_at hl 3 rfl) ?_
  refine va_putF (D := D) (ci := 0) (v := .ref p3) (ty := .object "RopeLadder$Settings") (C := RX0) (T := TX0) (N := 5) hx hb hts (fun w h => List.mem_cons_of_mem _ (kkX0.2.1 w h)) tyX0 tyX0_ok nmX0 hown hK hP hD hS 0 rfl rfl 2 (by decide) (hw kw_24) (fun _ h9 => h9) rfl hin rfl (by decide +kernel) rfl rfl (Nat.le_of_ble_eq_true rfl) dX0_init_21 (fun H locs hP hD hS => ?_)
  have hP : va_P D vwCl [(h0, .inr (0, [.ref p1, .ref p2, .ref p3, .int (iI (-1)), .int 0]))] H := hP
  have hD : va_D A [(h0, .inr (0, [.ref p1, .ref p2, .ref p3, .int (iI (-1)), .int 0]))] := hD
  have hP9 := hP.sub (ws' := [(h0, .inr (0, [.ref p1, .ref p2, .ref p3, .int (iI (-1)), .int 0]))]) [0] rfl
  have hD9 := hD.sub (ws' := [(h0, .inr (0, [.ref p1, .ref p2, .ref p3, .int (iI (-1)), .int 0]))]) [0] (by decide) rfl
  refine W.widen (k := 0) (n := 0) (by omega) (by omega) ?_
  exact W.vret hx hb hr (fun t ht hW => ⟨⟨(), rfl, trivial, by rw [ht]; exact hP9, va_K.moved hW.alike hK, hD9⟩, hS.F ht⟩) hS.2.2 dX0_init_24
theorem kw_25 : Cond.methodLink RX6 3 Lib.objectInit ∈ rl_T := rl_in 203 (by decide +kernel) rfl
theorem kw_26 : Cond.fieldLink RX6 9 "RopeLadder$Sightings" "tenths" "[I" ∈ rl_T := rl_in 204 (by decide +kernel) rfl
theorem kw_27 : Cond.fieldLink RX6 15 "RopeLadder$Sightings" "heights" "[I" ∈ rl_T := rl_in 205 (by decide +kernel) rfl
abbrev mX6_init : rl_M := (yX6_init, cX6_init, 1, none, 0)
set_option maxHeartbeats 4000000 in
set_option maxRecDepth 100000 in
theorem k_X6 (l : Launch) (D : va_G) (h0 sz : Nat)  : Met l yX6_init (rl_ws mX6_init) ({ frames := 1, cells := 2, slots := 16, locals := 12 }) (va_Pc [.ref h0] (fun U => U.heap.size = sz ∧ va_P D vwCl [(h0, .inr (6, [.null, .null, .int 0]))] U.heap ∧ va_K D vwCl [] U ∧ va_D (fun _ => True) [(h0, .inr (6, [.null, .null, .int 0]))])) (va_Qv (fun _ : Unit => True) (fun _ t => ∃ (q1 q2 : Nat) (c1 c2 : ClassId), va_P D vwCl [(h0, .inr (6, [.ref q1, .ref q2, .int 0])), (q1, .inl (c1, (8, .inl (fun _ => 0)))), (q2, .inl (c2, (8, .inl (fun _ => 0))))] t.heap ∧ va_K D vwCl [(c1, .int), (c2, .int)] t ∧ va_D (va_A [(h0, .inr (6, [.null, .null, .int 0]))] sz) [(h0, .inr (6, [.ref q1, .ref q2, .int 0])), (q1, .inl (c1, (8, .inl (fun _ => 0)))), (q2, .inl (c2, (8, .inl (fun _ => 0))))]) (va_A [(h0, .inr (6, [.null, .null, .int 0]))] sz)) 2 16 (va_A [(h0, .inr (6, [.null, .null, .int 0]))] sz) := by
  refine Met.ofW (cc := cX6_init) (maxL := 1) (ret := none) (ws' := rl_T) plX6 rfl ?_
  intro p e s m args below meth c s₁ B hml hv
  obtain ⟨rfl, hsz, hP, hK, hD0⟩ := hv
  have hx := B.exec
  have hb := B.bytes
  have hr := B.returns
  have hts := atoms_spec (ws := rl_ws mX6_init) B.pre
  have hw : ∀ {q : Cond}, q ∈ rl_T → q.before ([.ref h0] : List Value).toArray s = true := fun h => hts _ (List.mem_cons_of_mem _ h)
  have hown : s.vm.findClass RX6 = some m.cls := findClass_of_methodNamed B.named
  have hlocks := B.notSynchronized
  have hin : meth.name = "<init>" := (name_of_methodNamed B.named B.method).1
  subst hsz
  have hD := hD0.self (sz := s.heap.size)
  generalize hAe : va_A [(h0, .inr (6, [.null, .null, .int 0]))] s.heap.size = A at hD ⊢
  have hA : ∀ q : Nat, s.heap.size ≤ q → A q := fun q h => by rw [← hAe]; exact Or.inr h
  have hS : va_S A s.heap s.heap [] := va_S.rf
  have hP : va_P D vwCl [(h0, .inr (6, [.null, .null, .int 0]))] s.heap := hP
  have hl := lv_entry ([.ref h0]) (n := 1) (Nat.le_of_ble_eq_true rfl)
  rw [lg_entry_eq]
  generalize (lg_sl ([.ref h0]) ++ List.replicate (1 - (lg_sl ([.ref h0])).length) Slot.unset).toArray = ls at hl ⊢
  have hl : lv_has ls 1 [(0, .ref h0)] := hl
  refine lv_aload_n hx hb dX6_init_0 rfl (lv_at hl 0 rfl) ?_
  refine W.objInit hx hb hown (hw kw_25) (hw kw_1) (hw kw_2) rfl (by rw [hml]; exact hl.1) rfl dX6_init_1 (Nat.le_of_ble_eq_true rfl) (Nat.le_of_ble_eq_true rfl) ?_
  refine W.eq (g2 := F0 m 4 ls []) rfl ?_
  refine lv_aload_n hx hb dX6_init_4 rfl (lv_at hl 0 rfl) ?_
  refine lv_bipush (v := iI (8)) hx hb dX6_init_5 (by decide) ?_
  refine va_newa (atype := .int) hx hb (hw kw_3) (ty := .int) rfl hK hP hD hS hA (n := iI (8)) (N' := 8) (a0 := (8, .inl (fun _ => 0))) (fun _ => rfl) (by decide) (by decide) (Nat.le_of_ble_eq_true rfl) (Nat.le_of_ble_eq_true rfl) (Nat.le_of_ble_eq_true rfl) dX6_init_7 (fun q1 c1 H hK hP hD hS => ?_)
  have hP : va_P D vwCl [(h0, .inr (6, [.null, .null, .int 0])), (q1, .inl (c1, (8, .inl (fun _ => 0))))] H := hP
  have hD : va_D A [(h0, .inr (6, [.null, .null, .int 0])), (q1, .inl (c1, (8, .inl (fun _ => 0))))] := hD
  have hK : va_K D vwCl [(c1, .int)] s := hK
  refine W.widen (k := 1) (n := 8) (by omega) (by omega) ?_
  refine va_putF (D := D) (ci := 6) (v := .ref q1) (ty := .array .int) (C := RX6) (T := TX6) (N := 3) hx hb hts (fun w h => List.mem_cons_of_mem _ (kkX6.2.1 w h)) tyX6 tyX6_ok nmX6 hown hK hP hD hS 0 rfl rfl 0 (by decide) (hw kw_26) (fun _ h9 => h9) rfl hin rfl (by decide +kernel) rfl rfl (Nat.le_of_ble_eq_true rfl) dX6_init_9 (fun H locs hP hD hS => ?_)
  have hP : va_P D vwCl [(h0, .inr (6, [.ref q1, .null, .int 0])), (q1, .inl (c1, (8, .inl (fun _ => 0))))] H := hP
  have hD : va_D A [(h0, .inr (6, [.ref q1, .null, .int 0])), (q1, .inl (c1, (8, .inl (fun _ => 0))))] := hD
  refine lv_aload_n hx hb dX6_init_12 rfl (lv_at hl 0 rfl) ?_
  refine lv_bipush (v := iI (8)) hx hb dX6_init_13 (by decide) ?_
  refine va_newa (atype := .int) hx hb (hw kw_3) (ty := .int) rfl hK hP hD hS hA (n := iI (8)) (N' := 8) (a0 := (8, .inl (fun _ => 0))) (fun _ => rfl) (by decide) (by decide) (Nat.le_of_ble_eq_true rfl) (Nat.le_of_ble_eq_true rfl) (Nat.le_of_ble_eq_true rfl) dX6_init_15 (fun q2 c2 H hK hP hD hS => ?_)
  have hP : va_P D vwCl [(h0, .inr (6, [.ref q1, .null, .int 0])), (q1, .inl (c1, (8, .inl (fun _ => 0)))), (q2, .inl (c2, (8, .inl (fun _ => 0))))] H := hP
  have hD : va_D A [(h0, .inr (6, [.ref q1, .null, .int 0])), (q1, .inl (c1, (8, .inl (fun _ => 0)))), (q2, .inl (c2, (8, .inl (fun _ => 0))))] := hD
  have hK : va_K D vwCl [(c1, .int), (c2, .int)] s := hK
  refine W.widen (k := 2) (n := 16) (by omega) (by omega) ?_
  refine va_putF (D := D) (ci := 6) (v := .ref q2) (ty := .array .int) (C := RX6) (T := TX6) (N := 3) hx hb hts (fun w h => List.mem_cons_of_mem _ (kkX6.2.1 w h)) tyX6 tyX6_ok nmX6 hown hK hP hD hS 0 rfl rfl 1 (by decide) (hw kw_27) (fun _ h9 => h9) rfl hin rfl (by decide +kernel) rfl rfl (Nat.le_of_ble_eq_true rfl) dX6_init_17 (fun H locs hP hD hS => ?_)
  have hP : va_P D vwCl [(h0, .inr (6, [.ref q1, .ref q2, .int 0])), (q1, .inl (c1, (8, .inl (fun _ => 0)))), (q2, .inl (c2, (8, .inl (fun _ => 0))))] H := hP
  have hD : va_D A [(h0, .inr (6, [.ref q1, .ref q2, .int 0])), (q1, .inl (c1, (8, .inl (fun _ => 0)))), (q2, .inl (c2, (8, .inl (fun _ => 0))))] := hD
  have hP9 := hP.sub (ws' := [(h0, .inr (6, [.ref q1, .ref q2, .int 0])), (q1, .inl (c1, (8, .inl (fun _ => 0)))), (q2, .inl (c2, (8, .inl (fun _ => 0))))]) [0, 1, 2] rfl
  have hD9 := hD.sub (ws' := [(h0, .inr (6, [.ref q1, .ref q2, .int 0])), (q1, .inl (c1, (8, .inl (fun _ => 0)))), (q2, .inl (c2, (8, .inl (fun _ => 0))))]) [0, 1, 2] (by decide) rfl
  refine W.widen (k := 2) (n := 16) (by omega) (by omega) ?_
  exact W.vret hx hb hr (fun t ht hW => ⟨⟨(), rfl, trivial, q1, q2, c1, c2, by rw [ht]; exact hP9, va_K.moved hW.alike hK, hD9⟩, hS.F ht⟩) hS.2.2 dX6_init_20
theorem kw_28 : Cond.methodLink RX1 1 Lib.objectInit ∈ rl_T := rl_in 220 (by decide +kernel) rfl
abbrev mX1_init : rl_M := (yX1_init, cX1_init, 1, none, 0)
set_option maxHeartbeats 4000000 in
set_option maxRecDepth 100000 in
theorem k_X1 (l : Launch) (D : va_G) (h0 sz : Nat)  : Met l yX1_init (rl_ws mX1_init) ({ frames := 1, cells := 0, slots := 0, locals := 12 }) (va_Pc [.ref h0] (fun U => U.heap.size = sz ∧ va_P D vwCl [(h0, .inr (1, [.int 0]))] U.heap ∧ va_K D vwCl [] U ∧ va_D (fun _ => True) [(h0, .inr (1, [.int 0]))])) (va_Qv (fun _ : Unit => True) (fun _ t => va_P D vwCl [(h0, .inr (1, [.int 0]))] t.heap ∧ va_K D vwCl [] t ∧ va_D (va_A [(h0, .inr (1, [.int 0]))] sz) [(h0, .inr (1, [.int 0]))]) (va_A [(h0, .inr (1, [.int 0]))] sz)) 0 0 (va_A [(h0, .inr (1, [.int 0]))] sz) := by
  refine Met.ofW (cc := cX1_init) (maxL := 1) (ret := none) (ws' := rl_T) plX1 rfl ?_
  intro p e s m args below meth c s₁ B hml hv
  obtain ⟨rfl, hsz, hP, hK, hD0⟩ := hv
  have hx := B.exec
  have hb := B.bytes
  have hr := B.returns
  have hts := atoms_spec (ws := rl_ws mX1_init) B.pre
  have hw : ∀ {q : Cond}, q ∈ rl_T → q.before ([.ref h0] : List Value).toArray s = true := fun h => hts _ (List.mem_cons_of_mem _ h)
  have hown : s.vm.findClass RX1 = some m.cls := findClass_of_methodNamed B.named
  have hlocks := B.notSynchronized
  have hin : meth.name = "<init>" := (name_of_methodNamed B.named B.method).1
  subst hsz
  have hD := hD0.self (sz := s.heap.size)
  generalize hAe : va_A [(h0, .inr (1, [.int 0]))] s.heap.size = A at hD ⊢
  have hA : ∀ q : Nat, s.heap.size ≤ q → A q := fun q h => by rw [← hAe]; exact Or.inr h
  have hS : va_S A s.heap s.heap [] := va_S.rf
  have hP : va_P D vwCl [(h0, .inr (1, [.int 0]))] s.heap := hP
  have hl := lv_entry ([.ref h0]) (n := 1) (Nat.le_of_ble_eq_true rfl)
  rw [lg_entry_eq]
  generalize (lg_sl ([.ref h0]) ++ List.replicate (1 - (lg_sl ([.ref h0])).length) Slot.unset).toArray = ls at hl ⊢
  have hl : lv_has ls 1 [(0, .ref h0)] := hl
  refine lv_aload_n hx hb dX1_init_0 rfl (lv_at hl 0 rfl) ?_
  refine W.objInit hx hb hown (hw kw_28) (hw kw_1) (hw kw_2) rfl (by rw [hml]; exact hl.1) rfl dX1_init_1 (Nat.le_of_ble_eq_true rfl) (Nat.le_of_ble_eq_true rfl) ?_
  refine W.eq (g2 := F0 m 4 ls []) rfl ?_
  have hP9 := hP.sub (ws' := [(h0, .inr (1, [.int 0]))]) [0] rfl
  have hD9 := hD.sub (ws' := [(h0, .inr (1, [.int 0]))]) [0] (by decide) rfl
  refine W.widen (k := 0) (n := 0) (by omega) (by omega) ?_
  exact W.vret hx hb hr (fun t ht hW => ⟨⟨(), rfl, trivial, by rw [ht]; exact hP9, va_K.moved hW.alike hK, hD9⟩, hS.F ht⟩) hS.2.2 dX1_init_4
theorem kw_29 : Cond.methodLink RX4 3 Lib.objectInit ∈ rl_T := rl_in 232 (by decide +kernel) rfl
theorem kw_30 : Cond.fieldLink RX4 9 "RopeLadder$Sheet" "items" "[I" ∈ rl_T := rl_in 233 (by decide +kernel) rfl
theorem kw_31 : Cond.fieldLink RX4 15 "RopeLadder$Sheet" "lost" "Z" ∈ rl_T := rl_in 234 (by decide +kernel) rfl
abbrev mX4_init : rl_M := (yX4_init, cX4_init, 1, none, 0)
set_option maxHeartbeats 4000000 in
set_option maxRecDepth 100000 in
theorem k_X4 (l : Launch) (D : va_G) (h0 sz : Nat)  : Met l yX4_init (rl_ws mX4_init) ({ frames := 1, cells := 1, slots := 48, locals := 12 }) (va_Pc [.ref h0] (fun U => U.heap.size = sz ∧ va_P D vwCl [(h0, .inr (4, [.null, .int 0, .int 0, .int 0]))] U.heap ∧ va_K D vwCl [] U ∧ va_D (fun _ => True) [(h0, .inr (4, [.null, .int 0, .int 0, .int 0]))])) (va_Qv (fun _ : Unit => True) (fun _ t => ∃ (q1 : Nat) (c1 : ClassId), va_P D vwCl [(h0, .inr (4, [.ref q1, .int (iI (1)), .int 0, .int 0])), (q1, .inl (c1, (48, .inl (fun _ => 0))))] t.heap ∧ va_K D vwCl [(c1, .int)] t ∧ va_D (va_A [(h0, .inr (4, [.null, .int 0, .int 0, .int 0]))] sz) [(h0, .inr (4, [.ref q1, .int (iI (1)), .int 0, .int 0])), (q1, .inl (c1, (48, .inl (fun _ => 0))))]) (va_A [(h0, .inr (4, [.null, .int 0, .int 0, .int 0]))] sz)) 1 48 (va_A [(h0, .inr (4, [.null, .int 0, .int 0, .int 0]))] sz) := by
  refine Met.ofW (cc := cX4_init) (maxL := 1) (ret := none) (ws' := rl_T) plX4 rfl ?_
  intro p e s m args below meth c s₁ B hml hv
  obtain ⟨rfl, hsz, hP, hK, hD0⟩ := hv
  have hx := B.exec
  have hb := B.bytes
  have hr := B.returns
  have hts := atoms_spec (ws := rl_ws mX4_init) B.pre
  have hw : ∀ {q : Cond}, q ∈ rl_T → q.before ([.ref h0] : List Value).toArray s = true := fun h => hts _ (List.mem_cons_of_mem _ h)
  have hown : s.vm.findClass RX4 = some m.cls := findClass_of_methodNamed B.named
  have hlocks := B.notSynchronized
  have hin : meth.name = "<init>" := (name_of_methodNamed B.named B.method).1
  subst hsz
  have hD := hD0.self (sz := s.heap.size)
  generalize hAe : va_A [(h0, .inr (4, [.null, .int 0, .int 0, .int 0]))] s.heap.size = A at hD ⊢
  have hA : ∀ q : Nat, s.heap.size ≤ q → A q := fun q h => by rw [← hAe]; exact Or.inr h
  have hS : va_S A s.heap s.heap [] := va_S.rf
  have hP : va_P D vwCl [(h0, .inr (4, [.null, .int 0, .int 0, .int 0]))] s.heap := hP
  have hl := lv_entry ([.ref h0]) (n := 1) (Nat.le_of_ble_eq_true rfl)
  rw [lg_entry_eq]
  generalize (lg_sl ([.ref h0]) ++ List.replicate (1 - (lg_sl ([.ref h0])).length) Slot.unset).toArray = ls at hl ⊢
  have hl : lv_has ls 1 [(0, .ref h0)] := hl
  refine lv_aload_n hx hb dX4_init_0 rfl (lv_at hl 0 rfl) ?_
  refine W.objInit hx hb hown (hw kw_29) (hw kw_1) (hw kw_2) rfl (by rw [hml]; exact hl.1) rfl dX4_init_1 (Nat.le_of_ble_eq_true rfl) (Nat.le_of_ble_eq_true rfl) ?_
  refine W.eq (g2 := F0 m 4 ls []) rfl ?_
  refine lv_aload_n hx hb dX4_init_4 rfl (lv_at hl 0 rfl) ?_
  refine lv_bipush (v := iI (48)) hx hb dX4_init_5 (by decide) ?_
  refine va_newa (atype := .int) hx hb (hw kw_3) (ty := .int) rfl hK hP hD hS hA (n := iI (48)) (N' := 48) (a0 := (48, .inl (fun _ => 0))) (fun _ => rfl) (by decide) (by decide) (Nat.le_of_ble_eq_true rfl) (Nat.le_of_ble_eq_true rfl) (Nat.le_of_ble_eq_true rfl) dX4_init_7 (fun q1 c1 H hK hP hD hS => ?_)
  have hP : va_P D vwCl [(h0, .inr (4, [.null, .int 0, .int 0, .int 0])), (q1, .inl (c1, (48, .inl (fun _ => 0))))] H := hP
  have hD : va_D A [(h0, .inr (4, [.null, .int 0, .int 0, .int 0])), (q1, .inl (c1, (48, .inl (fun _ => 0))))] := hD
  have hK : va_K D vwCl [(c1, .int)] s := hK
  refine W.widen (k := 1) (n := 48) (by omega) (by omega) ?_
  refine va_putF (D := D) (ci := 4) (v := .ref q1) (ty := .array .int) (C := RX4) (T := TX4) (N := 4) hx hb hts (fun w h => List.mem_cons_of_mem _ (kkX4.2.1 w h)) tyX4 tyX4_ok nmX4 hown hK hP hD hS 0 rfl rfl 0 (by decide) (hw kw_30) (fun _ h9 => h9) rfl hin rfl (by decide +kernel) rfl rfl (Nat.le_of_ble_eq_true rfl) dX4_init_9 (fun H locs hP hD hS => ?_)
  have hP : va_P D vwCl [(h0, .inr (4, [.ref q1, .int 0, .int 0, .int 0])), (q1, .inl (c1, (48, .inl (fun _ => 0))))] H := hP
  have hD : va_D A [(h0, .inr (4, [.ref q1, .int 0, .int 0, .int 0])), (q1, .inl (c1, (48, .inl (fun _ => 0))))] := hD
  refine lv_aload_n hx hb dX4_init_12 rfl (lv_at hl 0 rfl) ?_
  refine lv_iconst (v := iI (1)) hx hb dX4_init_13 (by decide) ?_
  refine va_put (D := D) (ci := 4) (v := .int (iI (1))) (ty := .boolean) (C := RX4) (T := TX4) (N := 4) hx hb hts (fun w h => List.mem_cons_of_mem _ (kkX4.2.1 w h)) tyX4 tyX4_ok nmX4 hown hK hP hD hS 0 rfl rfl 1 (by decide) (hw kw_31) (fun _ h9 => h9) rfl (by decide +kernel) rfl rfl (Nat.le_of_ble_eq_true rfl) dX4_init_14 (fun H locs hP hD hS => ?_)
  have hP : va_P D vwCl [(h0, .inr (4, [.ref q1, .int (iI (1)), .int 0, .int 0])), (q1, .inl (c1, (48, .inl (fun _ => 0))))] H := hP
  have hD : va_D A [(h0, .inr (4, [.ref q1, .int (iI (1)), .int 0, .int 0])), (q1, .inl (c1, (48, .inl (fun _ => 0))))] := hD
  have hP9 := hP.sub (ws' := [(h0, .inr (4, [.ref q1, .int (iI (1)), .int 0, .int 0])), (q1, .inl (c1, (48, .inl (fun _ => 0))))]) [0, 1] rfl
  have hD9 := hD.sub (ws' := [(h0, .inr (4, [.ref q1, .int (iI (1)), .int 0, .int 0])), (q1, .inl (c1, (48, .inl (fun _ => 0))))]) [0, 1] (by decide) rfl
  refine W.widen (k := 1) (n := 48) (by omega) (by omega) ?_
  exact W.vret hx hb hr (fun t ht hW => ⟨⟨(), rfl, trivial, q1, c1, by rw [ht]; exact hP9, va_K.moved hW.alike hK, hD9⟩, hS.F ht⟩) hS.2.2 dX4_init_17