/-! THE CLAIM OUT OF ONE WALK OF THE LAW'S BODY. Your part is whole_start (and what it stands on); all else here is the same for every law, but numbers. -/
def R_law : String := "RopeLadderLaw"
def lw_P (b : Addr) (xs : List Int32) (args : Array Value) (s : State) : Prop := args = #[.ref b] ∧ s.IntsAt b xs ∧ xs.length ≤ 384 ∧ (Jvm.Cond.and given_1 narrow_1).before args s = true
def lw_Q (_ : Array Value) (s : State) (o : Outcome) (t : State) : Prop := o = .returned (some (.int 1)) ∧ Framed s o t [] 600000 7302250
def lw_Z (below : List Frame) (a : Array Value) (s : State) : State → Prop := fun t => ∃ o, t.status = .running ∧ Ended t below o ∧ lw_Q a s o t
/-- the law's own end, with 1 on the stack, nothing written that was there before, its room as the claim has it -/
theorem lw_ret {p : Program} {l : Launch} {e : Env} {s : State} {m : MethodId} {below : List Frame} {meth : Method} {c : Code} {b : Nat} (hx : p.tables.exec = Jvm.exec) (hb : c.code = code) (hr : meth.sig.returnType = ret) (hlocks : meth.locks = false) {pc : Nat} {H : Heap} {ls : Array Slot} (hdg : decode code pc = .ok (.ireturn, 1)) : W p l e room_1 s m #[Value.ref b] below meth c H [] 600000 7302250 (lw_Z below #[Value.ref b] s) (F0 m pc ls [.int 1]) := by
  intro T hT X
  obtain ⟨fs, hret, hrun, hended, hW, hframe⟩ := X.leave (v := some (.int 1)) (hlocks := hlocks) (fun h => by rw [hr] at h; cases h)
  have hmeth' : T.vm.method? m = some meth := X.method'
  refine ⟨T.setFrames fs, ?_, .returned (some (.int 1)), hrun, hended, rfl, ⟨_, rfl⟩, hW, hframe⟩
  jvm_step X.here [X.here.top, hx, hb, hdg, hmeth', hr, ret, narrow_b1]
  (try refine ⟨rfl, ?_⟩); (try refine ⟨rfl, ?_⟩)
  first | (intro acts; rw [hret _ acts rfl rfl rfl]) | rw [hret _ _ rfl rfl rfl]
  exact Steps.refl _
/-- what holds at the law's entry: the machine, the code, the tables' words (any of lw_tbl by 'hts w (by decide +kernel)'), the script of L ints xs at the cell b, what the Statement gives of the start (any of its parts by flat_of_before) -/
def lw_At (p : Program) (s : State) (m : MethodId) (meth : Method) (c : Code) (b L : Nat) (xs : Nat → Int32) : Prop :=
  p.tables.exec = Jvm.exec ∧ c.code = code ∧ meth.sig.returnType = ret ∧ c.maxLocals = 4 ∧ s.vm.findClass R_law = some m.cls ∧ (∀ w ∈ lw_tbl, w.before #[Value.ref b] s = true) ∧ va_X b L xs s s.heap ∧ b < s.heap.size ∧ meth.locks = false ∧ (Jvm.Cond.and given_1 narrow_1).before #[Value.ref b] s = true
/-! the law: both worlds beside its own frame -/
def lw_ad (b a m : Nat) : Nat → Nat := fun k => match k with
  | 0 => b
  | 1 => a
  | _ => m
def lw_C (p : Program) (s : State) (m : MethodId) (meth : Method) (c : Code) (b L : Nat) (xs : Nat → Int32) (D : va_G) (T Tm : Nat → ClassId) (ad am : Nat → Nat) (Ac Am : Nat → Prop) : Prop :=
  lw_At p s m meth c b L xs ∧ va_K D vwCl (rl_ty cW T) s ∧ va_K D vwCl (rl_ty mW Tm) s ∧ (∀ σ0, va_D Ac (rl_w cW T ad σ0)) ∧ (∀ σ0, va_D Am (rl_w mW Tm am σ0)) ∧ rl_Z cW ad Ac s s.heap ∧ (∀ q, Ac q → s.heap.size ≤ q ∧ ¬ Am q) ∧ (∀ q, Am q → s.heap.size ≤ q)
def Lr (L : Nat) (xs : Nat → Int32) (pc : Nat) (i : Int) (st : List Value) (σ τ : rl_S) : Prop :=
  ∀ (p : Program) (l : Launch) (e : Env) (s : State) (m : MethodId) (below : List Frame) (meth : Method) (c : Code) (b : Nat) (D : va_G) (T Tm : Nat → ClassId) (ad am : Nat → Nat) (Ac Am : Nat → Prop), lw_C p s m meth c b L xs D T Tm ad am Ac Am →
    ∀ (H : Heap) (locs : List Loc) (larr : Array Slot), va_P D vwCl (rl_w cW T ad σ) H → va_P D vwCl (rl_w mW Tm am τ) H → va_S (fun q => s.heap.size ≤ q) s.heap H locs → rl_L larr 4 (lw_ad b (ad 0) (am 0)) [.ref 0, .ref 1, .ref 2, .int (iI i)] →
      W p l e room_1 s m #[Value.ref b] below meth c H locs 600000 7302250 (lw_Z below #[Value.ref b] s) (F0 m pc larr (st.map (rcv (lw_ad b (ad 0) (am 0)))))
theorem rl_Z.up {w : rl_W} {ad : Nat → Nat} {A B : Nat → Prop} {U : State} {H : Heap} (h : rl_Z w ad A U H) (hB : ∀ q, B q → A q) : rl_Z w ad B U H := by
  intro q hq
  obtain ⟨⟨cf, kf, fi, f, a, cell, g1, g2, g3, g4, g5, g6, g7, g8⟩, ⟨cell2, k1, k2, k3, k4, k5, k6, k7⟩⟩ := h q hq
  exact ⟨⟨cf, kf, fi, f, a, cell, g1, g2, g3, g4, g5, g6, g7, fun z => g8 (hB _ z)⟩, ⟨cell2, k1, k2, k3, k4, k5, k6, fun z => k7 (hB _ z)⟩⟩
section LR
variable {L : Nat} {xs : Nat → Int32} {pc : Nat} {i : Int} {st : List Value} {σ τ : rl_S}

theorem lr_aload {k : Fin 4} {x : Nat} (hd : decode cL_law pc = .ok (.aload_n k, 1)) (hl : ([.ref 0, .ref 1, .ref 2, .int (iI i)] : List Value)[(k : Nat)]? = some (.ref x)) (kk : Lr L xs (pc + 1) i (.ref x :: st) σ τ) : Lr L xs pc i st σ τ := by
  intro p l e s m below meth c b D T Tm ad am Ac Am C H locs larr h1 h2 hS hL
  exact lv_aload_n C.1.1 C.1.2.1 hd rfl (hL.2.2 _ _ hl (by intro q; cases q)) (kk p l e s m below meth c b D T Tm ad am Ac Am C H locs larr h1 h2 hS hL)

theorem lr_iload {k : Fin 4} {x : Int32} (hd : decode cL_law pc = .ok (.iload_n k, 1)) (hl : ([.ref 0, .ref 1, .ref 2, .int (iI i)] : List Value)[(k : Nat)]? = some (.int x)) (kk : Lr L xs (pc + 1) i (.int x :: st) σ τ) : Lr L xs pc i st σ τ := by
  intro p l e s m below meth c b D T Tm ad am Ac Am C H locs larr h1 h2 hS hL
  exact lv_iload_n C.1.1 C.1.2.1 hd rfl (hL.2.2 _ _ hl (by intro q; cases q)) (kk p l e s m below meth c b D T Tm ad am Ac Am C H locs larr h1 h2 hS hL)

theorem lr_iconst {n : Int} (hd : decode cL_law pc = .ok (.iconst n, 1)) (kk : Lr L xs (pc + 1) i (.int (iI n) :: st) σ τ) : Lr L xs pc i st σ τ := by
  intro p l e s m below meth c b D T Tm ad am Ac Am C H locs larr h1 h2 hS hL
  exact lv_iconst C.1.1 C.1.2.1 hd rfl (kk p l e s m below meth c b D T Tm ad am Ac Am C H locs larr h1 h2 hS hL)

theorem lr_bipush {n : Int} (hd : decode cL_law pc = .ok (.bipush n, 2)) (hv : (Int8.ofInt n).toInt32 = iI n) (kk : Lr L xs (pc + 2) i (.int (iI n) :: st) σ τ) : Lr L xs pc i st σ τ := by
  intro p l e s m below meth c b D T Tm ad am Ac Am C H locs larr h1 h2 hS hL
  exact lv_bipush C.1.1 C.1.2.1 hd hv (kk p l e s m below meth c b D T Tm ad am Ac Am C H locs larr h1 h2 hS hL)

theorem lr_iadd {x y : Int} (hd : decode cL_law pc = .ok (.iadd, 1)) (kk : Lr L xs (pc + 1) i (.int (iI (x + y)) :: st) σ τ) : Lr L xs pc i (.int (iI y) :: .int (iI x) :: st) σ τ := by
  intro p l e s m below meth c b D T Tm ad am Ac Am C H locs larr h1 h2 hS hL
  refine lv_iadd C.1.1 C.1.2.1 hd ?_
  rw [iI_add]
  exact kk p l e s m below meth c b D T Tm ad am Ac Am C H locs larr h1 h2 hS hL

theorem lr_isub {x y : Int} (hd : decode cL_law pc = .ok (.isub, 1)) (kk : Lr L xs (pc + 1) i (.int (iI (x - y)) :: st) σ τ) : Lr L xs pc i (.int (iI y) :: .int (iI x) :: st) σ τ := by
  intro p l e s m below meth c b D T Tm ad am Ac Am C H locs larr h1 h2 hS hL
  refine lv_isub C.1.1 C.1.2.1 hd ?_
  rw [iI_sub]
  exact kk p l e s m below meth c b D T Tm ad am Ac Am C H locs larr h1 h2 hS hL

theorem lr_iand {x y : Int32} (hd : decode cL_law pc = .ok (.iand, 1)) (kk : Lr L xs (pc + 1) i (.int (x &&& y) :: st) σ τ) : Lr L xs pc i (.int y :: .int x :: st) σ τ := by
  intro p l e s m below meth c b D T Tm ad am Ac Am C H locs larr h1 h2 hS hL
  exact lv_iand C.1.1 C.1.2.1 hd (kk p l e s m below meth c b D T Tm ad am Ac Am C H locs larr h1 h2 hS hL)

theorem lr_slen (hd : decode cL_law pc = .ok (.arraylength, 1)) (kk : Lr L xs (pc + 1) i (.int (iI (L : Int)) :: st) σ τ) : Lr L xs pc i (.ref 0 :: st) σ τ := by
  intro p l e s m below meth c b D T Tm ad am Ac Am C H locs larr h1 h2 hS hL
  refine va_slen C.1.1 C.1.2.1 C.1.2.2.2.2.2.2.1 C.1.2.2.2.2.2.2.2.1 (fun q => absurd q (Nat.not_le.mpr C.1.2.2.2.2.2.2.2.1)) hS hd ?_
  rw [show Int32.ofNat L = iI (L : Int) from (iI_nat L).symm]
  exact kk p l e s m below meth c b D T Tm ad am Ac Am C H locs larr h1 h2 hS hL

theorem lr_sld {z : Int} (hd : decode cL_law pc = .ok (.iaload, 1)) (z0 : 0 ≤ z) (z1 : z < (L : Int)) (hLL : L ≤ 384) (kk : Lr L xs (pc + 1) i (.int (iI (xs z.toNat).toInt) :: st) σ τ) : Lr L xs pc i (.int (iI z) :: .ref 0 :: st) σ τ := by
  intro p l e s m below meth c b D T Tm ad am Ac Am C H locs larr h1 h2 hS hL
  refine va_sld C.1.1 C.1.2.1 C.1.2.2.2.2.2.2.1 C.1.2.2.2.2.2.2.2.1 (fun q => absurd q (Nat.not_le.mpr C.1.2.2.2.2.2.2.2.1)) hS (iI_in z0 z1 (by omega)) hd ?_
  rw [iI_clamp ⟨z0, by omega⟩, ← iI_of (xs z.toNat)]
  exact kk p l e s m below meth c b D T Tm ad am Ac Am C H locs larr h1 h2 hS hL

theorem lr_tabIn {dflt lo hi : Int} {offs : Array Int} {len : Nat} {x : Int32} {off : Int} {k : Nat} (tgt : Nat) (hd : decode cL_law pc = .ok (.tableswitch dflt lo hi offs, len)) (hx : x.toInt = (k : Int)) (h0 : lo = 0) (h1 : (k : Int) ≤ hi) (ho : offs[k]? = some off) (ht : (pc : Int) + off = (tgt : Int)) (kk : Lr L xs tgt i st σ τ) : Lr L xs pc i (.int x :: st) σ τ := by
  intro p l e s m below meth c b D T Tm ad am Ac Am C H locs larr h1 h2 hS hL
  exact lv_tableIn C.1.1 C.1.2.1 hd (by omega) (by omega) (by rw [hx, h0, show ((k : Int) - 0).toNat = k by omega]; exact ho) ht (kk p l e s m below meth c b D T Tm ad am Ac Am C H locs larr h1 h2 hS hL)

theorem lr_tabOut {dflt lo hi : Int} {offs : Array Int} {len : Nat} {x : Int32} (tgt : Nat) (hd : decode cL_law pc = .ok (.tableswitch dflt lo hi offs, len)) (hx : x.toInt < lo ∨ hi < x.toInt) (ht : (pc : Int) + dflt = (tgt : Int)) (kk : Lr L xs tgt i st σ τ) : Lr L xs pc i (.int x :: st) σ τ := by
  intro p l e s m below meth c b D T Tm ad am Ac Am C H locs larr h1 h2 hS hL
  exact lv_tableOut C.1.1 C.1.2.1 hd hx ht (kk p l e s m below meth c b D T Tm ad am Ac Am C H locs larr h1 h2 hS hL)

theorem lr_goto {off : Int} (tgt : Nat) (hd : decode cL_law pc = .ok (.goto off, 3)) (ht : (pc : Int) + off = (tgt : Int)) (kk : Lr L xs tgt i st σ τ) : Lr L xs pc i st σ τ := by
  intro p l e s m below meth c b D T Tm ad am Ac Am C H locs larr h1 h2 hS hL
  exact lv_goto C.1.1 C.1.2.1 hd ht (kk p l e s m below meth c b D T Tm ad am Ac Am C H locs larr h1 h2 hS hL)

theorem lr_gt {x y off : Int} (tgt : Nat) (hd : decode cL_law pc = .ok (.if_icmp .gt off, 3)) (ht : (pc : Int) + off = (tgt : Int)) (hx : -2147483648 ≤ x ∧ x < 2147483648) (hy : -2147483648 ≤ y ∧ y < 2147483648) (kt : y < x → Lr L xs tgt i st σ τ) (kf : ¬ y < x → Lr L xs (pc + 3) i st σ τ) : Lr L xs pc i (.int (iI y) :: .int (iI x) :: st) σ τ := by
  intro p l e s m below meth c b D T Tm ad am Ac Am C H locs larr h1 h2 hS hL
  refine lv_icmp_gt C.1.1 C.1.2.1 hd ht (fun q => ?_) (fun q => ?_)
  · exact kt ((iI_lt hy hx).mp q) p l e s m below meth c b D T Tm ad am Ac Am C H locs larr h1 h2 hS hL
  · exact kf (fun z => q ((iI_lt hy hx).mpr z)) p l e s m below meth c b D T Tm ad am Ac Am C H locs larr h1 h2 hS hL

theorem lr_eq {x : Int32} {off : Int} (tgt : Nat) (hd : decode cL_law pc = .ok (.if_icmp .eq off, 3)) (ht : (pc : Int) + off = (tgt : Int)) (kk : Lr L xs tgt i st σ τ) : Lr L xs pc i (.int x :: .int x :: st) σ τ := by
  intro p l e s m below meth c b D T Tm ad am Ac Am C H locs larr h1 h2 hS hL
  exact lv_icmp_eq C.1.1 C.1.2.1 hd ht (fun _ => kk p l e s m below meth c b D T Tm ad am Ac Am C H locs larr h1 h2 hS hL) (fun q => absurd rfl q)

theorem lr_leq {x : Int64} {off : Int} (tgt : Nat) (hd : decode cL_law pc = .ok (.lcmp, 1)) (hd2 : decode cL_law (pc + 1) = .ok (.ifCond .eq off, 3)) (ht : ((pc + 1 : Nat) : Int) + off = (tgt : Int)) (kk : Lr L xs tgt i st σ τ) : Lr L xs pc i (.long x :: .long x :: st) σ τ := by
  intro p l e s m below meth c b D T Tm ad am Ac Am C H locs larr h1 h2 hS hL
  refine W.lcmp C.1.1 C.1.2.1 hd ?_
  have e0 : lg_cmp x x = 0 := by simp [lg_cmp, Int64.lt_irrefl]
  rw [e0]
  exact lv_if_eq C.1.1 C.1.2.1 hd2 ht (fun _ => kk p l e s m below meth c b D T Tm ad am Ac Am C H locs larr h1 h2 hS hL) (fun q => absurd rfl q)

theorem lr_iinc {n : Int} (hd : decode cL_law pc = .ok (.iinc 3 n, 3)) (kk : Lr L xs (pc + 3) (i + n) st σ τ) : Lr L xs pc i st σ τ := by
  intro p l e s m below meth c b D T Tm ad am Ac Am C H locs larr h1 h2 hS hL
  obtain ⟨k, hk⟩ := List.getElem?_of_mem (rl_l_mem (ad := lw_ad b (ad 0) (am 0)) (ls := ([.ref 0, .ref 1, .ref 2, .int (iI i)] : List Value)) (i := 3) (v := .int (iI i)) rfl (by intro q; cases q))
  refine lv_iinc C.1.1 C.1.2.1 hd (rl_L.has hL) hk (iI_add i n) (by decide) rfl (fun ls1 h3 => ?_)
  exact kk p l e s m below meth c b D T Tm ad am Ac Am C H locs ls1 h1 h2 hS (rl_L.s1 (i := 3) (v := .int (iI (i + n))) h3)

theorem rcv_ints (f : Nat → Nat) (zs : List Int) : (zs.map (fun z => Value.int (iI z))).map (rcv f) = zs.map (fun z => Value.int (iI z)) := by
  rw [List.map_map]; rfl
theorem rl_goodL {M' : rl_M} (hc : Cond.code M'.1 M'.2.1 M'.2.2.1 M'.2.2.2.1 ∈ rl_T) : GoodIn rl_T (rl_ws M') := by
  intro w hw
  rcases List.mem_cons.mp hw with h | h
  · subst h
    exact ⟨hc, rl_goodT hc⟩
  · exact ⟨h, rl_goodT h⟩

set_option maxHeartbeats 1000000 in
theorem lr_cI {M' : rl_M} {idx n : Nat} {zs : List Int} {stk : List Value} {fs : List (Option Value)} {P : Int → rl_S → Prop} (hct : Ct cW M' (.ref 0 :: zs.map (fun z => Value.int (iI z))) σ (qI P)) (hv : rl_CV RL idx M' n) (hd : decode cL_law pc = .ok (.invokevirtual idx, 3)) (hw : cW.2.1 0 = .inr (.inl (8, fs))) (hcl : ∃ T N, vwCl[8]? = some (M'.1.cls, T, N)) (hdep : M'.2.2.2.2 + 1 ≤ 12) (hml : M'.2.2.1 ≤ 13) (hn : zs.length = n) (hst : stk = (zs.map (fun z => Value.int (iI z))).reverse ++ .ref 1 :: st) (hr : (st.map fun v => v.category).sum ≤ 8)
    (kk : ∀ z σ1, P z σ1 → Lr L xs (pc + 3) i (.int (iI z) :: st) σ1 τ) : Lr L xs pc i stk σ τ := by
  intro p l e s m below meth c b D T Tm ad am Ac Am C H locs larr h1 h2 hS hL
  obtain ⟨hc1, hlk, hin, hse, hini, hpl, hpd⟩ := hv
  obtain ⟨T0, N0, hcl⟩ := hcl
  have hb : ∀ {q : Cond}, q ∈ rl_T → q.before #[Value.ref b] s = true := fun h => C.1.2.2.2.2.2.1 _ (List.mem_filter.mp h).1
  have he := rl_w_get cW T ad σ (k := 0) (by decide)
  rw [rl_c_ob hw] at he
  have hs : ((st.map (rcv (lw_ad b (ad 0) (am 0)))).map fun v => v.category).sum = (st.map fun v => v.category).sum := by simp [List.map_map, Function.comp_def, rcv_cat]
  have cw : CallW room_1 s #[Value.ref b] RL M'.1.cls idx M'.1 M'.2.1 M'.2.2.1 M'.2.2.2.1 (rl_ws M') (rl_R M'.2.2.2.2) 0 0 n :=
    ⟨callB_of n (fun w hw => hb hw) (rl_goodL hc1) rfl rfl rfl (hb hini) (hb hlk) ⟨hpl.1, hpl.2, hpd⟩ ⟨hdep, by show 8 + (_ + 11) + 32 * M'.2.2.2.2 ≤ 472; omega⟩, hb hin, hb hse⟩
  have hkp : ∀ a : Nat, a < s.heap.size → ¬ Ac a → H[a]? = s.heap[a]? := fun a ha _ => hS.2.1 a ha (by omega)
  have hZ : rl_Z cW ad Ac s s.heap := C.2.2.2.2.2.1
  have hct1 := hct l D T ad Ac
  have eas : (.ref 0 :: zs.map (fun z => Value.int (iI z))).map (rcv ad) = Value.ref (ad 0) :: zs.map (fun z => Value.int (iI z)) := by
    rw [List.map_cons, rcv_ints]; rfl
  rw [eas] at hct1
  have run := va_runV (p := p) (l := l) (e := e) (R := room_1) (s := s) (m := m) (args := #[Value.ref b]) (below := below) (meth := meth) (c := c) (H := H) (locs := locs) (cells := 600000) (slots := 7302250) (g := F0 m pc larr ((zs.map (fun z => Value.int (iI z))).reverse ++ .ref (ad 0) :: st.map (rcv (lw_ad b (ad 0) (am 0))))) (rest := st.map (rcv (lw_ad b (ad 0) (am 0)))) (As := zs.map (fun z => Value.int (iI z))) (nL := 4) (Ts := rl_T)
    ⟨C.1.1, C.1.2.1, C.1.2.2.2.1, C.1.2.2.2.2.1, fun w hw => hb hw⟩ hct1 cw
    ⟨rl_blind _, va_recv C.2.1 h1 hcl he, fun U hU hW => ⟨rfl, by rw [hU]; exact h1, va_K.moved hW.alike C.2.1, C.2.2.2.1, by rw [hU]; exact rl_Z.go hW.alike hZ hkp⟩⟩
    rfl (by rw [List.length_map]; exact hn) hL.1 rfl (lv_room (by rw [hs]; exact hr)) hd ⟨Nat.le_refl _, Nat.le_refl _⟩
  rw [hst]
  simp only [List.map_append, List.map_reverse, List.map_cons, rcv_ints]
  intro U hU X
  obtain ⟨v, st₀, t, U', L', h0, X', hL', e1, e2, ⟨⟨r, σ1, hv, ⟨z, hz0, hp⟩, hw1⟩, hz, hk⟩, stp⟩ := run U hU X
  cases hv
  subst hz0
  rw [h0] at hz hk
  have hw2 : va_P D vwCl (rl_w cW T ad σ1) U'.heap := by rw [e1]; exact hw1.1
  have hw3 : va_P D vwCl (rl_w mW Tm am τ) U'.heap := h2.kept (fun k q hq => by rw [e1]; exact hk q.1 ((h2 k q hq).lt) (fun z => (C.2.2.2.2.2.2.1 _ z).2 ((C.2.2.2.2.1 τ).2 k q hq)))
  have hS1 : va_S (fun q => s.heap.size ≤ q) s.heap U'.heap (locs ++ L') := ⟨Nat.le_trans hS.1 (by rw [e1]; exact hz), fun q g1 g2 => by rw [e1, hk q (Nat.lt_of_lt_of_le g1 hS.1) (fun z => g2 ((fun q hq => (C.2.2.2.2.2.2.1 q hq).1) q z))]; exact hS.2.1 q g1 g2, fun q hq => by
    rcases List.mem_append.mp hq with h | h
    · exact hS.2.2 q h
    · exact (fun q hq => (C.2.2.2.2.2.2.1 q hq).1) _ (hL' q h)⟩
  obtain ⟨t2, a1, b1⟩ := kk z σ1 hp p l e s m below meth c b D T Tm ad am Ac Am C U'.heap (locs ++ L') larr hw2 hw3 hS1 hL U' rfl X'
  exact ⟨t2, stp t2 a1, b1⟩

set_option maxHeartbeats 1000000 in
theorem lr_cL {M' : rl_M} {idx n : Nat} {zs : List Int} {stk : List Value} {fs : List (Option Value)} {P : Int64 → rl_S → Prop} (hct : Ct cW M' (.ref 0 :: zs.map (fun z => Value.int (iI z))) σ (qL P)) (hv : rl_CV RL idx M' n) (hd : decode cL_law pc = .ok (.invokevirtual idx, 3)) (hw : cW.2.1 0 = .inr (.inl (8, fs))) (hcl : ∃ T N, vwCl[8]? = some (M'.1.cls, T, N)) (hdep : M'.2.2.2.2 + 1 ≤ 12) (hml : M'.2.2.1 ≤ 13) (hn : zs.length = n) (hst : stk = (zs.map (fun z => Value.int (iI z))).reverse ++ .ref 1 :: st) (hr : (st.map fun v => v.category).sum ≤ 8)
    (kk : ∀ z σ1, P z σ1 → Lr L xs (pc + 3) i (.long z :: st) σ1 τ) : Lr L xs pc i stk σ τ := by
  intro p l e s m below meth c b D T Tm ad am Ac Am C H locs larr h1 h2 hS hL
  obtain ⟨hc1, hlk, hin, hse, hini, hpl, hpd⟩ := hv
  obtain ⟨T0, N0, hcl⟩ := hcl
  have hb : ∀ {q : Cond}, q ∈ rl_T → q.before #[Value.ref b] s = true := fun h => C.1.2.2.2.2.2.1 _ (List.mem_filter.mp h).1
  have he := rl_w_get cW T ad σ (k := 0) (by decide)
  rw [rl_c_ob hw] at he
  have hs : ((st.map (rcv (lw_ad b (ad 0) (am 0)))).map fun v => v.category).sum = (st.map fun v => v.category).sum := by simp [List.map_map, Function.comp_def, rcv_cat]
  have cw : CallW room_1 s #[Value.ref b] RL M'.1.cls idx M'.1 M'.2.1 M'.2.2.1 M'.2.2.2.1 (rl_ws M') (rl_R M'.2.2.2.2) 0 0 n :=
    ⟨callB_of n (fun w hw => hb hw) (rl_goodL hc1) rfl rfl rfl (hb hini) (hb hlk) ⟨hpl.1, hpl.2, hpd⟩ ⟨hdep, by show 8 + (_ + 11) + 32 * M'.2.2.2.2 ≤ 472; omega⟩, hb hin, hb hse⟩
  have hkp : ∀ a : Nat, a < s.heap.size → ¬ Ac a → H[a]? = s.heap[a]? := fun a ha _ => hS.2.1 a ha (by omega)
  have hZ : rl_Z cW ad Ac s s.heap := C.2.2.2.2.2.1
  have hct1 := hct l D T ad Ac
  have eas : (.ref 0 :: zs.map (fun z => Value.int (iI z))).map (rcv ad) = Value.ref (ad 0) :: zs.map (fun z => Value.int (iI z)) := by
    rw [List.map_cons, rcv_ints]; rfl
  rw [eas] at hct1
  have run := va_runV (p := p) (l := l) (e := e) (R := room_1) (s := s) (m := m) (args := #[Value.ref b]) (below := below) (meth := meth) (c := c) (H := H) (locs := locs) (cells := 600000) (slots := 7302250) (g := F0 m pc larr ((zs.map (fun z => Value.int (iI z))).reverse ++ .ref (ad 0) :: st.map (rcv (lw_ad b (ad 0) (am 0))))) (rest := st.map (rcv (lw_ad b (ad 0) (am 0)))) (As := zs.map (fun z => Value.int (iI z))) (nL := 4) (Ts := rl_T)
    ⟨C.1.1, C.1.2.1, C.1.2.2.2.1, C.1.2.2.2.2.1, fun w hw => hb hw⟩ hct1 cw
    ⟨rl_blind _, va_recv C.2.1 h1 hcl he, fun U hU hW => ⟨rfl, by rw [hU]; exact h1, va_K.moved hW.alike C.2.1, C.2.2.2.1, by rw [hU]; exact rl_Z.go hW.alike hZ hkp⟩⟩
    rfl (by rw [List.length_map]; exact hn) hL.1 rfl (lv_room (by rw [hs]; exact hr)) hd ⟨Nat.le_refl _, Nat.le_refl _⟩
  rw [hst]
  simp only [List.map_append, List.map_reverse, List.map_cons, rcv_ints]
  intro U hU X
  obtain ⟨v, st₀, t, U', L', h0, X', hL', e1, e2, ⟨⟨r, σ1, hv, ⟨z, hz0, hp⟩, hw1⟩, hz, hk⟩, stp⟩ := run U hU X
  cases hv
  subst hz0
  rw [h0] at hz hk
  have hw2 : va_P D vwCl (rl_w cW T ad σ1) U'.heap := by rw [e1]; exact hw1.1
  have hw3 : va_P D vwCl (rl_w mW Tm am τ) U'.heap := h2.kept (fun k q hq => by rw [e1]; exact hk q.1 ((h2 k q hq).lt) (fun z => (C.2.2.2.2.2.2.1 _ z).2 ((C.2.2.2.2.1 τ).2 k q hq)))
  have hS1 : va_S (fun q => s.heap.size ≤ q) s.heap U'.heap (locs ++ L') := ⟨Nat.le_trans hS.1 (by rw [e1]; exact hz), fun q g1 g2 => by rw [e1, hk q (Nat.lt_of_lt_of_le g1 hS.1) (fun z => g2 ((fun q hq => (C.2.2.2.2.2.2.1 q hq).1) q z))]; exact hS.2.1 q g1 g2, fun q hq => by
    rcases List.mem_append.mp hq with h | h
    · exact hS.2.2 q h
    · exact (fun q hq => (C.2.2.2.2.2.2.1 q hq).1) _ (hL' q h)⟩
  obtain ⟨t2, a1, b1⟩ := kk z σ1 hp p l e s m below meth c b D T Tm ad am Ac Am C U'.heap (locs ++ L') larr hw2 hw3 hS1 hL U' rfl X'
  exact ⟨t2, stp t2 a1, b1⟩

set_option maxHeartbeats 1000000 in
theorem lr_mI {M' : rl_M} {idx n : Nat} {zs : List Int} {stk : List Value} {fs : List (Option Value)} {P : Int → rl_S → Prop} (hct : Ct mW M' (.ref 0 :: zs.map (fun z => Value.int (iI z))) τ (qI P)) (hv : rl_CV RL idx M' n) (hd : decode cL_law pc = .ok (.invokevirtual idx, 3)) (hw : mW.2.1 0 = .inr (.inl (9, fs))) (hcl : ∃ T N, vwCl[9]? = some (M'.1.cls, T, N)) (hdep : M'.2.2.2.2 + 1 ≤ 12) (hml : M'.2.2.1 ≤ 13) (hn : zs.length = n) (hst : stk = (zs.map (fun z => Value.int (iI z))).reverse ++ .ref 2 :: st) (hr : (st.map fun v => v.category).sum ≤ 8)
    (kk : ∀ z σ1, P z σ1 → Lr L xs (pc + 3) i (.int (iI z) :: st) σ σ1) : Lr L xs pc i stk σ τ := by
  intro p l e s m below meth c b D T Tm ad am Ac Am C H locs larr h1 h2 hS hL
  obtain ⟨hc1, hlk, hin, hse, hini, hpl, hpd⟩ := hv
  obtain ⟨T0, N0, hcl⟩ := hcl
  have hb : ∀ {q : Cond}, q ∈ rl_T → q.before #[Value.ref b] s = true := fun h => C.1.2.2.2.2.2.1 _ (List.mem_filter.mp h).1
  have he := rl_w_get mW Tm am τ (k := 0) (by decide)
  rw [rl_c_ob hw] at he
  have hs : ((st.map (rcv (lw_ad b (ad 0) (am 0)))).map fun v => v.category).sum = (st.map fun v => v.category).sum := by simp [List.map_map, Function.comp_def, rcv_cat]
  have cw : CallW room_1 s #[Value.ref b] RL M'.1.cls idx M'.1 M'.2.1 M'.2.2.1 M'.2.2.2.1 (rl_ws M') (rl_R M'.2.2.2.2) 0 0 n :=
    ⟨callB_of n (fun w hw => hb hw) (rl_goodL hc1) rfl rfl rfl (hb hini) (hb hlk) ⟨hpl.1, hpl.2, hpd⟩ ⟨hdep, by show 8 + (_ + 11) + 32 * M'.2.2.2.2 ≤ 472; omega⟩, hb hin, hb hse⟩
  have hkp : ∀ a : Nat, a < s.heap.size → ¬ Am a → H[a]? = s.heap[a]? := fun a ha _ => hS.2.1 a ha (by omega)
  have hZ : rl_Z mW am Am s s.heap := (fun q hq => absurd hq List.not_mem_nil : rl_Z mW am Am s s.heap)
  have hct1 := hct l D Tm am Am
  have eas : (.ref 0 :: zs.map (fun z => Value.int (iI z))).map (rcv am) = Value.ref (am 0) :: zs.map (fun z => Value.int (iI z)) := by
    rw [List.map_cons, rcv_ints]; rfl
  rw [eas] at hct1
  have run := va_runV (p := p) (l := l) (e := e) (R := room_1) (s := s) (m := m) (args := #[Value.ref b]) (below := below) (meth := meth) (c := c) (H := H) (locs := locs) (cells := 600000) (slots := 7302250) (g := F0 m pc larr ((zs.map (fun z => Value.int (iI z))).reverse ++ .ref (am 0) :: st.map (rcv (lw_ad b (ad 0) (am 0))))) (rest := st.map (rcv (lw_ad b (ad 0) (am 0)))) (As := zs.map (fun z => Value.int (iI z))) (nL := 4) (Ts := rl_T)
    ⟨C.1.1, C.1.2.1, C.1.2.2.2.1, C.1.2.2.2.2.1, fun w hw => hb hw⟩ hct1 cw
    ⟨rl_blind _, va_recv C.2.2.1 h2 hcl he, fun U hU hW => ⟨rfl, by rw [hU]; exact h2, va_K.moved hW.alike C.2.2.1, C.2.2.2.2.1, by rw [hU]; exact rl_Z.go hW.alike hZ hkp⟩⟩
    rfl (by rw [List.length_map]; exact hn) hL.1 rfl (lv_room (by rw [hs]; exact hr)) hd ⟨Nat.le_refl _, Nat.le_refl _⟩
  rw [hst]
  simp only [List.map_append, List.map_reverse, List.map_cons, rcv_ints]
  intro U hU X
  obtain ⟨v, st₀, t, U', L', h0, X', hL', e1, e2, ⟨⟨r, σ1, hv, ⟨z, hz0, hp⟩, hw1⟩, hz, hk⟩, stp⟩ := run U hU X
  cases hv
  subst hz0
  rw [h0] at hz hk
  have hw2 : va_P D vwCl (rl_w mW Tm am σ1) U'.heap := by rw [e1]; exact hw1.1
  have hw3 : va_P D vwCl (rl_w cW T ad σ) U'.heap := h1.kept (fun k q hq => by rw [e1]; exact hk q.1 ((h1 k q hq).lt) (fun z => (C.2.2.2.2.2.2.1 _ ((C.2.2.2.1 σ).2 k q hq)).2 z))
  have hS1 : va_S (fun q => s.heap.size ≤ q) s.heap U'.heap (locs ++ L') := ⟨Nat.le_trans hS.1 (by rw [e1]; exact hz), fun q g1 g2 => by rw [e1, hk q (Nat.lt_of_lt_of_le g1 hS.1) (fun z => g2 (C.2.2.2.2.2.2.2 q z))]; exact hS.2.1 q g1 g2, fun q hq => by
    rcases List.mem_append.mp hq with h | h
    · exact hS.2.2 q h
    · exact C.2.2.2.2.2.2.2 _ (hL' q h)⟩
  obtain ⟨t2, a1, b1⟩ := kk z σ1 hp p l e s m below meth c b D T Tm ad am Ac Am C U'.heap (locs ++ L') larr hw3 hw2 hS1 hL U' rfl X'
  exact ⟨t2, stp t2 a1, b1⟩

set_option maxHeartbeats 1000000 in
theorem lr_mL {M' : rl_M} {idx n : Nat} {zs : List Int} {stk : List Value} {fs : List (Option Value)} {P : Int64 → rl_S → Prop} (hct : Ct mW M' (.ref 0 :: zs.map (fun z => Value.int (iI z))) τ (qL P)) (hv : rl_CV RL idx M' n) (hd : decode cL_law pc = .ok (.invokevirtual idx, 3)) (hw : mW.2.1 0 = .inr (.inl (9, fs))) (hcl : ∃ T N, vwCl[9]? = some (M'.1.cls, T, N)) (hdep : M'.2.2.2.2 + 1 ≤ 12) (hml : M'.2.2.1 ≤ 13) (hn : zs.length = n) (hst : stk = (zs.map (fun z => Value.int (iI z))).reverse ++ .ref 2 :: st) (hr : (st.map fun v => v.category).sum ≤ 8)
    (kk : ∀ z σ1, P z σ1 → Lr L xs (pc + 3) i (.long z :: st) σ σ1) : Lr L xs pc i stk σ τ := by
  intro p l e s m below meth c b D T Tm ad am Ac Am C H locs larr h1 h2 hS hL
  obtain ⟨hc1, hlk, hin, hse, hini, hpl, hpd⟩ := hv
  obtain ⟨T0, N0, hcl⟩ := hcl
  have hb : ∀ {q : Cond}, q ∈ rl_T → q.before #[Value.ref b] s = true := fun h => C.1.2.2.2.2.2.1 _ (List.mem_filter.mp h).1
  have he := rl_w_get mW Tm am τ (k := 0) (by decide)
  rw [rl_c_ob hw] at he
  have hs : ((st.map (rcv (lw_ad b (ad 0) (am 0)))).map fun v => v.category).sum = (st.map fun v => v.category).sum := by simp [List.map_map, Function.comp_def, rcv_cat]
  have cw : CallW room_1 s #[Value.ref b] RL M'.1.cls idx M'.1 M'.2.1 M'.2.2.1 M'.2.2.2.1 (rl_ws M') (rl_R M'.2.2.2.2) 0 0 n :=
    ⟨callB_of n (fun w hw => hb hw) (rl_goodL hc1) rfl rfl rfl (hb hini) (hb hlk) ⟨hpl.1, hpl.2, hpd⟩ ⟨hdep, by show 8 + (_ + 11) + 32 * M'.2.2.2.2 ≤ 472; omega⟩, hb hin, hb hse⟩
  have hkp : ∀ a : Nat, a < s.heap.size → ¬ Am a → H[a]? = s.heap[a]? := fun a ha _ => hS.2.1 a ha (by omega)
  have hZ : rl_Z mW am Am s s.heap := (fun q hq => absurd hq List.not_mem_nil : rl_Z mW am Am s s.heap)
  have hct1 := hct l D Tm am Am
  have eas : (.ref 0 :: zs.map (fun z => Value.int (iI z))).map (rcv am) = Value.ref (am 0) :: zs.map (fun z => Value.int (iI z)) := by
    rw [List.map_cons, rcv_ints]; rfl
  rw [eas] at hct1
  have run := va_runV (p := p) (l := l) (e := e) (R := room_1) (s := s) (m := m) (args := #[Value.ref b]) (below := below) (meth := meth) (c := c) (H := H) (locs := locs) (cells := 600000) (slots := 7302250) (g := F0 m pc larr ((zs.map (fun z => Value.int (iI z))).reverse ++ .ref (am 0) :: st.map (rcv (lw_ad b (ad 0) (am 0))))) (rest := st.map (rcv (lw_ad b (ad 0) (am 0)))) (As := zs.map (fun z => Value.int (iI z))) (nL := 4) (Ts := rl_T)
    ⟨C.1.1, C.1.2.1, C.1.2.2.2.1, C.1.2.2.2.2.1, fun w hw => hb hw⟩ hct1 cw
    ⟨rl_blind _, va_recv C.2.2.1 h2 hcl he, fun U hU hW => ⟨rfl, by rw [hU]; exact h2, va_K.moved hW.alike C.2.2.1, C.2.2.2.2.1, by rw [hU]; exact rl_Z.go hW.alike hZ hkp⟩⟩
    rfl (by rw [List.length_map]; exact hn) hL.1 rfl (lv_room (by rw [hs]; exact hr)) hd ⟨Nat.le_refl _, Nat.le_refl _⟩
  rw [hst]
  simp only [List.map_append, List.map_reverse, List.map_cons, rcv_ints]
  intro U hU X
  obtain ⟨v, st₀, t, U', L', h0, X', hL', e1, e2, ⟨⟨r, σ1, hv, ⟨z, hz0, hp⟩, hw1⟩, hz, hk⟩, stp⟩ := run U hU X
  cases hv
  subst hz0
  rw [h0] at hz hk
  have hw2 : va_P D vwCl (rl_w mW Tm am σ1) U'.heap := by rw [e1]; exact hw1.1
  have hw3 : va_P D vwCl (rl_w cW T ad σ) U'.heap := h1.kept (fun k q hq => by rw [e1]; exact hk q.1 ((h1 k q hq).lt) (fun z => (C.2.2.2.2.2.2.1 _ ((C.2.2.2.1 σ).2 k q hq)).2 z))
  have hS1 : va_S (fun q => s.heap.size ≤ q) s.heap U'.heap (locs ++ L') := ⟨Nat.le_trans hS.1 (by rw [e1]; exact hz), fun q g1 g2 => by rw [e1, hk q (Nat.lt_of_lt_of_le g1 hS.1) (fun z => g2 (C.2.2.2.2.2.2.2 q z))]; exact hS.2.1 q g1 g2, fun q hq => by
    rcases List.mem_append.mp hq with h | h
    · exact hS.2.2 q h
    · exact C.2.2.2.2.2.2.2 _ (hL' q h)⟩
  obtain ⟨t2, a1, b1⟩ := kk z σ1 hp p l e s m below meth c b D T Tm ad am Ac Am C U'.heap (locs ++ L') larr hw3 hw2 hS1 hL U' rfl X'
  exact ⟨t2, stp t2 a1, b1⟩

theorem lr_end (hd1 : decode cL_law pc = .ok (.iconst 1, 1)) (hd2 : decode cL_law (pc + 1) = .ok (.ireturn, 1)) : Lr L xs pc i [] σ τ := by
  intro p l e s m below meth c b D T Tm ad am Ac Am C H locs larr h1 h2 hS hL
  refine lv_iconst (v := 1) C.1.1 C.1.2.1 hd1 (by decide) ?_
  refine va_forget (fun q hq => hS.2.2 q hq) ?_
  exact lw_ret C.1.1 C.1.2.1 C.1.2.2.1 C.1.2.2.2.2.2.2.2.2.1 hd2
end LR
theorem tb (x : Int32) : -2147483648 ≤ x.toInt ∧ x.toInt < 2147483648 := by
  have h1 := Int32.le_toInt x
  have h2 := Int32.toInt_lt x
  omega