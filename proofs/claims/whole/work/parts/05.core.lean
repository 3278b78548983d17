/-! a small machine over the kit's rows: a world of fixed cells whose ints alone change; a run from a place in a method's code; a method's contract -/
/-- the int of an integer; the values of the world's cells and of all ints are kept as integers -/
def iI (z : Int) : Int32 := Int32.ofInt z
def lI (z : Int) : Int64 := Int64.ofInt z
abbrev rl_S : Type := Nat → Nat → Int
abbrev rl_D : Type := (Nat × Nat) ⊕ ((Nat × List (Option Value)) ⊕ (Nat × List Nat))
abbrev rl_W : Type := Nat × (Nat → rl_D) × List FieldType × List (String × String × Nat × Nat × (Nat → Int32))
/-- a method: its name, bytes, greatest number of locals, answer, and how deep its calls go -/
abbrev rl_M : Type := MethodName × ByteArray × Nat × Option FieldType × Nat
def rcv (ad : Nat → Nat) : Value → Value := fun v => match v with
  | .ref k => .ref (ad k)
  | .int x => .int x
  | .long x => .long x
  | .float x => .float x
  | .double x => .double x
  | .null => .null
  | .retAddr x => .retAddr x
theorem rcv_cat (ad : Nat → Nat) (v : Value) : (rcv ad v).category = v.category := by cases v <;> rfl
-- words
def rl_T : List Cond := lw_tbl.filter goodWord
theorem rl_in (i : Nat) {w : Cond} (h : lw_tbl[i]? = some w) (g : goodWord w = true) : w ∈ rl_T := List.mem_filter.mpr ⟨List.mem_of_getElem? h, g⟩
theorem rl_goodT {w : Cond} (h : w ∈ rl_T) : (w.onTables && w.keeps) = true ∨ ∃ ty, w = .arrayClass ty := good_of_word (List.mem_filter.mp h).2
def rl_ws (M : rl_M) : List Cond := Cond.code M.1 M.2.1 M.2.2.1 M.2.2.2.1 :: rl_T
theorem rl_goodM {M M' : rl_M} (hc : Cond.code M'.1 M'.2.1 M'.2.2.1 M'.2.2.2.1 ∈ rl_T) : GoodIn (rl_ws M) (rl_ws M') := by
  intro w hw
  rcases List.mem_cons.mp hw with h | h
  · subst h
    exact ⟨List.mem_cons_of_mem _ hc, rl_goodT hc⟩
  · exact ⟨List.mem_cons_of_mem _ h, rl_goodT h⟩
def rl_plain (y : MethodName) : Prop := y.cls ≠ "java/lang/invoke/MethodHandle" ∧ y.cls ≠ "java/lang/invoke/VarHandle"
/-- a link to a method that is called by its object -/
def rl_CV (own : String) (idx : Nat) (M : rl_M) (n : Nat) : Prop :=
  Cond.code M.1 M.2.1 M.2.2.1 M.2.2.2.1 ∈ rl_T ∧ Cond.methodLink own idx M.1 ∈ rl_T ∧ Cond.instanceMethod M.1 ∈ rl_T ∧ Cond.selects M.1.cls M.1 M.1 ∈ rl_T ∧ Cond.initialized M.1.cls ∈ rl_T ∧ rl_plain M.1 ∧ (parseMethodDescriptor M.1.desc).map (fun d => d.parameters.length) = some n
/-- a link to a static method -/
def rl_CS (own : String) (idx : Nat) (M : rl_M) (n : Nat) : Prop :=
  Cond.code M.1 M.2.1 M.2.2.1 M.2.2.2.1 ∈ rl_T ∧ Cond.methodLink own idx M.1 ∈ rl_T ∧ Cond.static M.1 ∈ rl_T ∧ Cond.initialized M.1.cls ∈ rl_T ∧ rl_plain M.1 ∧ (parseMethodDescriptor M.1.desc).map (fun d => d.parameters.length) = some n
/-- kind ci of objects -/
def rl_K (ci : Nat) (C : String) (T : u_T) (N : Nat) (ty0 : Nat → FieldType) : Prop :=
  vwCl[ci]? = some (C, T, N) ∧ (∀ w ∈ u_ws C T N, w ∈ rl_T) ∧ (∀ k, k < N → parseFieldDescriptor (T k).2.2.1 = some (ty0 k)) ∧ ∀ a, a < N → ∀ b, b < N → a ≠ b → (T a).2.1 ≠ (T b).2.1
/-- a link to field j of kind ci -/
def rl_FL (own : String) (idx ci j : Nat) : Prop :=
  ∃ (C : String) (T : u_T) (N : Nat) (ty0 : Nat → FieldType), rl_K ci C T N ty0 ∧ j < N ∧ Cond.fieldLink own idx (T j).1 (T j).2.1 (T j).2.2.1 ∈ rl_T
def rl_FP (own : String) (idx ci j : Nat) (ty : FieldType) : Prop :=
  ∃ (C : String) (T : u_T) (N : Nat) (ty0 : Nat → FieldType), rl_K ci C T N ty0 ∧ j < N ∧ Cond.fieldLink own idx (T j).1 (T j).2.1 (T j).2.2.1 ∈ rl_T ∧ (T j).2.2.2 = false ∧ parseFieldDescriptor (T j).2.2.1 = some ty
-- the world
def rl_fv (fs : List (Option Value)) (j : Nat) (τ : Nat → Int) : Option Value := match fs[j]? with
  | some none => some (.int (iI (τ j)))
  | some (some v) => some v
  | none => none
def rl_ob (ad : Nat → Nat) (fs : List (Option Value)) (τ : Nat → Int) : List Value := fs.mapIdx (fun j f => match f with
  | none => .int (iI (τ j))
  | some v => rcv ad v)
def rl_c (w : rl_W) (T : Nat → ClassId) (ad : Nat → Nat) (σ : rl_S) (k : Nat) : va_E := match w.2.1 k with
  | .inl (t, n) => .inl (T t, (n, .inl (fun i => iI (σ k i))))
  | .inr (.inl (ci, fs)) => .inr (ci, rl_ob ad fs (σ k))
  | .inr (.inr (t, rs)) => .inl (T t, (rs.length, .inr (.inr (.inr (.inr (fun i => (rs[i]?).map ad))))))
def rl_w (w : rl_W) (T : Nat → ClassId) (ad : Nat → Nat) (σ : rl_S) : va_W := (List.range w.1).map (fun k => (ad k, rl_c w T ad σ k))
def rl_ty (w : rl_W) (T : Nat → ClassId) : List (ClassId × FieldType) := w.2.2.1.mapIdx (fun t ty => (T t, ty))
def sup (σ : rl_S) (k i : Nat) (x : Int) : rl_S := fun a => if a = k then (fun j => if j = i then x else σ k j) else σ a
theorem rl_ob_get (ad : Nat → Nat) (fs : List (Option Value)) (j : Nat) (τ : Nat → Int) : (rl_ob ad fs τ)[j]? = (rl_fv fs j τ).map (rcv ad) := by
  simp only [rl_ob, rl_fv, List.getElem?_mapIdx]
  cases fs[j]? with
  | none => rfl
  | some f => cases f <;> rfl
theorem rl_ob_set (ad : Nat → Nat) (fs : List (Option Value)) (j : Nat) (τ : Nat → Int) (x : Int) (h : fs[j]? = some none) : (rl_ob ad fs τ).set j (.int (iI x)) = rl_ob ad fs (fun i => if i = j then x else τ i) := by
  apply List.ext_getElem?
  intro i
  rw [List.getElem?_set, rl_ob_get, rl_ob_get]
  by_cases hij : j = i
  · subst hij
    have hl : j < (rl_ob ad fs τ).length := by
      simp only [rl_ob, List.length_mapIdx]
      exact (List.getElem?_eq_some_iff.mp h).1
    rw [if_pos rfl, if_pos hl]
    simp [rl_fv, h, rcv]
  · rw [if_neg hij]
    simp only [rl_fv]
    rw [if_neg (fun e => hij e.symm)]
theorem rl_w_get (w : rl_W) (T : Nat → ClassId) (ad : Nat → Nat) (σ : rl_S) {k : Nat} (hk : k < w.1) : (rl_w w T ad σ)[k]? = some (ad k, rl_c w T ad σ k) := by
  simp [rl_w, hk]
theorem rl_w_set (w : rl_W) (T : Nat → ClassId) (ad : Nat → Nat) (σ σ' : rl_S) {k : Nat} {e : va_E} (hk : k < w.1) (he : rl_c w T ad σ' k = e) (ho : ∀ a, a ≠ k → σ' a = σ a) : (rl_w w T ad σ).set k (ad k, e) = rl_w w T ad σ' := by
  apply List.ext_getElem?
  intro i
  rw [List.getElem?_set]
  by_cases hij : k = i
  · subst hij
    rw [if_pos rfl, rl_w_get w T ad σ' hk, he]
    simp [rl_w, hk]
  · rw [if_neg hij]
    simp only [rl_w, List.getElem?_map]
    by_cases hi : i < w.1
    · simp only [List.getElem?_range hi, Option.map_some]
      simp only [rl_c, ho i (fun e => hij e.symm)]
    · rw [List.getElem?_eq_none (by simp; omega)]
      rfl
theorem rl_ty_get (w : rl_W) (T : Nat → ClassId) {t : Nat} {ty : FieldType} (h : w.2.2.1[t]? = some ty) : (rl_ty w T)[t]? = some (T t, ty) := by
  simp [rl_ty, h]
def rl_Z (w : rl_W) (ad : Nat → Nat) (A : Nat → Prop) (U : State) (H : Heap) : Prop :=
  ∀ q ∈ w.2.2.2, va_Z q.1 q.2.1 "[I" (.ref (ad q.2.2.1)) A U H ∧ va_T .int (ad q.2.2.1) q.2.2.2.1 (fun j => .int (q.2.2.2.2 j)) A U H
def rl_H (w : rl_W) (D : va_G) (T : Nat → ClassId) (ad : Nat → Nat) (A : Nat → Prop) (σ : rl_S) (U : State) : Prop :=
  va_P D vwCl (rl_w w T ad σ) U.heap ∧ va_K D vwCl (rl_ty w T) U ∧ (∀ σ0, va_D A (rl_w w T ad σ0)) ∧ rl_Z w ad A U U.heap
theorem rl_Z.go {w : rl_W} {ad : Nat → Nat} {A : Nat → Prop} {u U : State} {H H1 : Heap} (hvm : u.vm.Alike U.vm) (h : rl_Z w ad A u H) (hq : ∀ a : Nat, a < H.size → ¬ A a → H1[a]? = H[a]?) : rl_Z w ad A U H1 := fun q hq1 => ⟨((h q hq1).1.moved hvm).kept hq, ((h q hq1).2.moved hvm).kept hq⟩
def rl_R (d : Nat) : Room := { frames := d, cells := 0, slots := 0, locals := 32 * d }
def rl_Q (w : rl_W) (D : va_G) (T : Nat → ClassId) (ad : Nat → Nat) (A : Nat → Prop) (Post : Option Value → rl_S → Prop) : Array Value → State → Outcome → State → Prop := fun _ st oc t =>
  (∃ (r : Option Value) (σ' : rl_S), oc = .returned (r.map (rcv ad)) ∧ Post r σ' ∧ rl_H w D T ad A σ' t) ∧ va_F A st t
/-- a method's contract: from the world σ it returns, and Post holds of its answer and of the world behind it -/
def Ct (w : rl_W) (M : rl_M) (as : List Value) (σ : rl_S) (Post : Option Value → rl_S → Prop) : Prop :=
  ∀ (l : Launch) (D : va_G) (T : Nat → ClassId) (ad : Nat → Nat) (A : Nat → Prop),
    Met l M.1 (rl_ws M) (rl_R M.2.2.2.2) (va_Pc (as.map (rcv ad)) (fun U => rl_H w D T ad A σ U)) (rl_Q w D T ad A Post) 0 0 A
-- locals
def rl_L (larr : Array Slot) (n : Nat) (ad : Nat → Nat) (ls : List Value) : Prop :=
  larr.size = n ∧ lv_wf larr ∧ ∀ (i : Nat) (v : Value), ls[i]? = some v → v ≠ .float 0 → larr[i]? = some (.val (rcv ad v))
def rl_l (ad : Nat → Nat) (ls : List Value) : List (Nat × Value) := (List.range ls.length).filterMap (fun i => match ls[i]? with
  | some v => if v = .float 0 then none else some (i, rcv ad v)
  | none => none)
theorem rl_l_mem {ad : Nat → Nat} {ls : List Value} {i : Nat} {v : Value} (h : ls[i]? = some v) (hv : v ≠ .float 0) : (i, rcv ad v) ∈ rl_l ad ls := by
  refine List.mem_filterMap.mpr ⟨i, List.mem_range.mpr (List.getElem?_eq_some_iff.mp h).1, ?_⟩
  rw [h]
  simp [hv]
theorem rl_L.has {larr : Array Slot} {n : Nat} {ad : Nat → Nat} {ls : List Value} (h : rl_L larr n ad ls) : lv_has larr n (rl_l ad ls) := by
  refine ⟨h.1, h.2.1, fun q hq => ?_⟩
  obtain ⟨i, -, hi⟩ := List.mem_filterMap.mp hq
  cases hs : ls[i]? with
  | none => rw [hs] at hi; cases hi
  | some v =>
    rw [hs] at hi
    by_cases hv : v = .float 0
    · simp [hv] at hi
    · simp only [hv, if_false] at hi
      cases hi
      exact h.2.2 i v hs hv
def rl_two (o : Option Value) : Bool := match o with
  | some (.long _) => true
  | some (.double _) => true
  | _ => false
theorem rl_two_of {v : Value} (h : v.category = 2) : rl_two (some v) = true := by cases v <;> first | rfl | cases h
def rl_s1 (ls : List Value) (i : Nat) (v : Value) : List Value := (bif rl_two ls[i - 1]? then ls.set (i - 1) (.float 0) else ls).set i v
def rl_s2 (ls : List Value) (i : Nat) (v : Value) : List Value := (rl_s1 ls i v).set (i + 1) (.float 0)
theorem rl_s1_at {ls : List Value} {i j : Nat} {v u : Value} (hj : (rl_s1 ls i v)[j]? = some u) (hu : u ≠ .float 0) : (j = i ∧ u = v) ∨ (j ≠ i ∧ ls[j]? = some u ∧ ¬ (j + 1 = i ∧ u.category = 2)) := by
  by_cases hji : j = i
  · subst hji
    left
    refine ⟨rfl, ?_⟩
    unfold rl_s1 at hj
    rw [List.getElem?_set] at hj
    simp only [if_true] at hj
    split at hj
    · exact (Option.some.inj hj).symm
    · cases hj
  · right
    refine ⟨hji, ?_⟩
    unfold rl_s1 at hj
    rw [List.getElem?_set_ne (fun e => hji e.symm)] at hj
    cases ht : rl_two ls[i - 1]? with
    | false =>
      rw [ht] at hj
      refine ⟨hj, fun ⟨h1, h2⟩ => ?_⟩
      have : i - 1 = j := by omega
      rw [this, show ls[j]? = some u from hj, rl_two_of h2] at ht
      cases ht
    | true =>
      rw [ht] at hj
      simp only [cond_true] at hj
      rw [List.getElem?_set] at hj
      by_cases h1 : i - 1 = j
      · rw [if_pos h1] at hj
        split at hj
        · exact absurd (Option.some.inj hj).symm hu
        · cases hj
      · rw [if_neg h1] at hj
        exact ⟨hj, fun ⟨h2, _⟩ => h1 (by omega)⟩
theorem rl_L.s1 {larr : Array Slot} {n : Nat} {ad : Nat → Nat} {ls : List Value} {i : Nat} {v : Value} (h : lv_has larr n ((i, rcv ad v) :: (rl_l ad ls).filter (fun q => !(q.1 == i) && !(q.1 + 1 == i && q.2.category == 2)))) : rl_L larr n ad (rl_s1 ls i v) := by
  refine ⟨h.1, h.2.1, fun j u hj hu => ?_⟩
  rcases rl_s1_at hj hu with ⟨rfl, rfl⟩ | ⟨h1, h2, h3⟩
  · exact h.2.2 _ List.mem_cons_self
  · refine h.2.2 (j, rcv ad u) (List.mem_cons_of_mem _ (List.mem_filter.mpr ⟨rl_l_mem h2 hu, ?_⟩))
    simp only [rcv_cat, Bool.and_eq_true, Bool.not_eq_true', beq_eq_false_iff_ne, Bool.and_eq_false_iff]
    refine ⟨h1, ?_⟩
    by_cases h4 : j + 1 = i
    · exact Or.inr (fun z => h3 ⟨h4, z⟩)
    · exact Or.inl h4
theorem rl_L.s2 {larr : Array Slot} {n : Nat} {ad : Nat → Nat} {ls : List Value} {i : Nat} {v : Value} (h : lv_has larr n ((i, rcv ad v) :: (rl_l ad ls).filter (fun q => !(q.1 == i) && (!(q.1 == i + 1) && !(q.1 + 1 == i && q.2.category == 2))))) : rl_L larr n ad (rl_s2 ls i v) := by
  refine ⟨h.1, h.2.1, fun j u hj hu => ?_⟩
  unfold rl_s2 at hj
  rw [List.getElem?_set] at hj
  by_cases hj2 : i + 1 = j
  · rw [if_pos hj2] at hj
    split at hj
    · exact absurd (Option.some.inj hj).symm hu
    · cases hj
  · rw [if_neg hj2] at hj
    rcases rl_s1_at hj hu with ⟨rfl, rfl⟩ | ⟨h1, h2, h3⟩
    · exact h.2.2 _ List.mem_cons_self
    · refine h.2.2 (j, rcv ad u) (List.mem_cons_of_mem _ (List.mem_filter.mpr ⟨rl_l_mem h2 hu, ?_⟩))
      simp only [rcv_cat, Bool.and_eq_true, Bool.not_eq_true', beq_eq_false_iff_ne, Bool.and_eq_false_iff]
      refine ⟨h1, fun z => hj2 z.symm, ?_⟩
      by_cases h4 : j + 1 = i
      · exact Or.inr (fun z => h3 ⟨h4, z⟩)
      · exact Or.inl h4
def rl_fl : List Value → List Value
  | [] => []
  | v :: as => bif rl_two (some v) then v :: .float 0 :: rl_fl as else v :: rl_fl as
def rl_e (as : List Value) (n : Nat) : List Value := rl_fl as ++ List.replicate (n - (rl_fl as).length) (.float 0)
theorem rl_fl_len (ad : Nat → Nat) : ∀ as : List Value, (lg_sl (as.map (rcv ad))).length = (rl_fl as).length
  | [] => rfl
  | v :: as => by
    have ih := rl_fl_len ad as
    cases v <;> simp [lg_sl, rl_fl, rl_two, rcv, Value.category] at ih ⊢ <;> omega
theorem rl_fl_at (ad : Nat → Nat) : ∀ (as : List Value) (i : Nat) (v : Value), (rl_fl as)[i]? = some v → v ≠ .float 0 → (lg_sl (as.map (rcv ad)))[i]? = some (.val (rcv ad v))
  | [], i, v, h, _ => by simp [rl_fl] at h
  | u :: as, i, v, h, hv => by
    have ih := rl_fl_at ad as
    by_cases hu : u.category = 2
    · have e1 : lg_sl ((u :: as).map (rcv ad)) = .val (rcv ad u) :: .second :: lg_sl (as.map (rcv ad)) := by
        simp [lg_sl, rcv_cat, hu]
      have e2 : rl_fl (u :: as) = u :: .float 0 :: rl_fl as := by
        simp [rl_fl, rl_two_of hu]
      rw [e2] at h
      rw [e1]
      match i with
      | 0 => simp at h; subst h; simp
      | 1 => simp at h; exact absurd h.symm hv
      | i + 2 => simp at h ⊢; exact ih i v h hv
    · have e1 : lg_sl ((u :: as).map (rcv ad)) = .val (rcv ad u) :: lg_sl (as.map (rcv ad)) := by
        simp [lg_sl, rcv_cat, hu]
      have e2 : rl_fl (u :: as) = u :: rl_fl as := by
        have : rl_two (some u) = false := by cases u <;> first | rfl | exact absurd rfl hu
        simp [rl_fl, this]
      rw [e2] at h
      rw [e1]
      match i with
      | 0 => simp at h; subst h; simp
      | i + 1 => simp at h ⊢; exact ih i v h hv
theorem rl_L.entry (ad : Nat → Nat) (as : List Value) (n : Nat) (h : (rl_fl as).length ≤ n) : rl_L ((lg_sl (as.map (rcv ad)) ++ List.replicate (n - (lg_sl (as.map (rcv ad))).length) Slot.unset).toArray) n ad (rl_e as n) := by
  have h0 := lv_entry (as.map (rcv ad)) (n := n) (by rw [rl_fl_len]; exact h)
  refine ⟨h0.1, h0.2.1, fun i v hi hv => ?_⟩
  unfold rl_e at hi
  rw [List.getElem?_append] at hi
  split at hi
  · rename_i hlt
    rw [List.getElem?_toArray, List.getElem?_append_left (by rw [rl_fl_len]; exact hlt)]
    exact rl_fl_at ad as i v hi hv
  · rw [List.getElem?_replicate] at hi
    split at hi
    · exact absurd (Option.some.inj hi).symm hv
    · cases hi
/-- what holds of a frame of method M all through its run -/
def rl_F (w : rl_W) (M : rl_M) (p : Program) (s : State) (m : MethodId) (args : Array Value) (meth : Method) (c : Code) (D : va_G) (T : Nat → ClassId) (ad : Nat → Nat) (A : Nat → Prop) : Prop :=
  p.tables.exec = Jvm.exec ∧ c.code = M.2.1 ∧ meth.sig.returnType = M.2.2.2.1 ∧ (∀ q ∈ rl_ws M, q.before args s = true) ∧ s.vm.findClass M.1.cls = some m.cls ∧ meth.locks = false ∧ c.maxLocals = M.2.2.1 ∧ va_K D vwCl (rl_ty w T) s ∧ (∀ σ0, va_D A (rl_w w T ad σ0)) ∧ rl_Z w ad A s s.heap
/-- a run: from pc, with these locals, this stack, in the world σ, method M returns, and Post holds then -/
def Rn (w : rl_W) (M : rl_M) (pc : Nat) (ls st : List Value) (σ : rl_S) (Post : Option Value → rl_S → Prop) : Prop :=
  ∀ (p : Program) (l : Launch) (e : Env) (s : State) (m : MethodId) (args : Array Value) (below : List Frame) (meth : Method) (c : Code) (D : va_G) (T : Nat → ClassId) (ad : Nat → Nat) (A : Nat → Prop), rl_F w M p s m args meth c D T ad A →
    ∀ (H : Heap) (locs : List Loc) (larr : Array Slot), va_P D vwCl (rl_w w T ad σ) H → va_S A s.heap H locs → rl_L larr M.2.2.1 ad ls →
      W p l e (rl_R M.2.2.2.2) s m args below meth c H locs 0 0 (MQ below (rl_Q w D T ad A Post) args s 0 0 A) (F0 m pc larr (st.map (rcv ad)))
set_option maxHeartbeats 4000000 in
theorem Ct.of {w : rl_W} {M : rl_M} {as : List Value} {σ : rl_S} {Post : Option Value → rl_S → Prop} (hy : plainName M.1.cls = true) (hl : (rl_fl as).length ≤ M.2.2.1) (h : Rn w M 0 (rl_e as M.2.2.1) [] σ Post) : Ct w M as σ Post := by
  intro l D T ad A
  refine Met.ofW (cc := M.2.1) (maxL := M.2.2.1) (ret := M.2.2.2.1) (ws' := rl_T) hy rfl ?_
  intro p e s m args below meth c s₁ B hml hv
  obtain ⟨rfl, hP, hK, hD, hZ⟩ := hv
  have hts := atoms_spec (ws := rl_ws M) B.pre
  have hown : s.vm.findClass M.1.cls = some m.cls := findClass_of_methodNamed B.named
  rw [lg_entry_eq]
  exact h p l e s m _ below meth c D T ad A ⟨B.exec, B.bytes, B.returns, hts, hown, B.notSynchronized, hml, hK, hD, hZ⟩ s.heap [] _ hP va_S.rf (rl_L.entry ad as _ hl)
theorem Ct.mono {w : rl_W} {M : rl_M} {as : List Value} {σ : rl_S} {P Q : Option Value → rl_S → Prop} (h : Ct w M as σ P) (hPQ : ∀ r σ', P r σ' → Q r σ') : Ct w M as σ Q := by
  intro l D T ad A p e ha hc hk s m args below hf happ hP hK
  obtain ⟨k, o, h1, h2, h3, ⟨⟨⟨r, σ', h4, h5, h6⟩, h7⟩, h8⟩⟩ := h l D T ad A p e ha hc hk s m args below hf happ hP hK
  exact ⟨k, o, h1, h2, h3, ⟨⟨⟨r, σ', h4, hPQ _ _ h5, h6⟩, h7⟩, h8⟩⟩
section RL
variable {w : rl_W} {M : rl_M} {pc : Nat} {ls st : List Value} {σ : rl_S} {Post : Option Value → rl_S → Prop}

theorem r_iconst {n : Int} {v : Int32} (hd : decode M.2.1 pc = .ok (.iconst n, 1)) (hv : Int32.ofInt n = v) (kk : Rn w M (pc + 1) ls (.int v :: st) σ Post) : Rn w M pc ls (st) σ Post := by
  intro p l e s m args below meth c D T ad A F H locs larr hP hS hL
  exact lv_iconst F.1 F.2.1 hd hv (kk p l e s m args below meth c D T ad A F H locs larr hP hS hL)

theorem r_bipush {n : Int} {v : Int32} (hd : decode M.2.1 pc = .ok (.bipush n, 2)) (hv : (Int8.ofInt n).toInt32 = v) (kk : Rn w M (pc + 2) ls (.int v :: st) σ Post) : Rn w M pc ls (st) σ Post := by
  intro p l e s m args below meth c D T ad A F H locs larr hP hS hL
  exact lv_bipush F.1 F.2.1 hd hv (kk p l e s m args below meth c D T ad A F H locs larr hP hS hL)

theorem r_sipush {n : Int} {v : Int32} (hd : decode M.2.1 pc = .ok (.sipush n, 3)) (hv : (Int16.ofInt n).toInt32 = v) (kk : Rn w M (pc + 3) ls (.int v :: st) σ Post) : Rn w M pc ls (st) σ Post := by
  intro p l e s m args below meth c D T ad A F H locs larr hP hS hL
  exact lv_sipush F.1 F.2.1 hd hv (kk p l e s m args below meth c D T ad A F H locs larr hP hS hL)

theorem r_lconst {n : Fin 2} {v : Int64} (hd : decode M.2.1 pc = .ok (.lconst n, 1)) (hv : Int64.ofNat n = v) (kk : Rn w M (pc + 1) ls (.long v :: st) σ Post) : Rn w M pc ls (st) σ Post := by
  intro p l e s m args below meth c D T ad A F H locs larr hP hS hL
  exact lv_lconst F.1 F.2.1 hd hv (kk p l e s m args below meth c D T ad A F H locs larr hP hS hL)

theorem r_null  (hd : decode M.2.1 pc = .ok (.aconst_null, 1)) (kk : Rn w M (pc + 1) ls (.null :: st) σ Post) : Rn w M pc ls (st) σ Post := by
  intro p l e s m args below meth c D T ad A F H locs larr hP hS hL
  exact lv_null F.1 F.2.1 hd (kk p l e s m args below meth c D T ad A F H locs larr hP hS hL)

theorem r_ldc {n : Nat} {v : Int32} (hd : decode M.2.1 pc = .ok (.ldc n, 2)) (hw : Cond.constant M.1.cls n v ∈ rl_T) (kk : Rn w M (pc + 2) ls (.int v :: st) σ Post) : Rn w M pc ls (st) σ Post := by
  intro p l e s m args below meth c D T ad A F H locs larr hP hS hL
  exact lv_ldc F.1 F.2.1 F.2.2.2.2.1 (F.2.2.2.1 _ (List.mem_cons_of_mem _ hw)) hd (kk p l e s m args below meth c D T ad A F H locs larr hP hS hL)

theorem r_ldcw {n : Nat} {v : Int32} (hd : decode M.2.1 pc = .ok (.ldc_w n, 3)) (hw : Cond.constant M.1.cls n v ∈ rl_T) (kk : Rn w M (pc + 3) ls (.int v :: st) σ Post) : Rn w M pc ls (st) σ Post := by
  intro p l e s m args below meth c D T ad A F H locs larr hP hS hL
  exact lv_ldcw F.1 F.2.1 F.2.2.2.2.1 (F.2.2.2.1 _ (List.mem_cons_of_mem _ hw)) hd (kk p l e s m args below meth c D T ad A F H locs larr hP hS hL)

theorem r_ldc2 {n : Nat} {v : Int64} (hd : decode M.2.1 pc = .ok (.ldc2_w n, 3)) (hw : Cond.constantLong M.1.cls n v ∈ rl_T) (kk : Rn w M (pc + 3) ls (.long v :: st) σ Post) : Rn w M pc ls (st) σ Post := by
  intro p l e s m args below meth c D T ad A F H locs larr hP hS hL
  exact lv_ldc2 F.1 F.2.1 F.2.2.2.2.1 (F.2.2.2.1 _ (List.mem_cons_of_mem _ hw)) hd (kk p l e s m args below meth c D T ad A F H locs larr hP hS hL)

theorem r_iload_n {k : Fin 4} {x : Int32} (hd : decode M.2.1 pc = .ok (.iload_n k, 1)) (hl : ls[(k : Nat)]? = some (.int x)) (kk : Rn w M (pc + 1) ls (.int x :: st) σ Post) : Rn w M pc ls (st) σ Post := by
  intro p l e s m args below meth c D T ad A F H locs larr hP hS hL
  exact lv_iload_n F.1 F.2.1 hd rfl (hL.2.2 _ _ hl (by intro q; cases q)) (kk p l e s m args below meth c D T ad A F H locs larr hP hS hL)

theorem r_iload {i : Nat} {x : Int32} (hd : decode M.2.1 pc = .ok (.iload i, 2)) (hl : ls[i]? = some (.int x)) (kk : Rn w M (pc + 2) ls (.int x :: st) σ Post) : Rn w M pc ls (st) σ Post := by
  intro p l e s m args below meth c D T ad A F H locs larr hP hS hL
  exact lv_iload F.1 F.2.1 hd (hL.2.2 _ _ hl (by intro q; cases q)) (kk p l e s m args below meth c D T ad A F H locs larr hP hS hL)

theorem r_lload_n {k : Fin 4} {x : Int64} (hd : decode M.2.1 pc = .ok (.lload_n k, 1)) (hl : ls[(k : Nat)]? = some (.long x)) (kk : Rn w M (pc + 1) ls (.long x :: st) σ Post) : Rn w M pc ls (st) σ Post := by
  intro p l e s m args below meth c D T ad A F H locs larr hP hS hL
  exact lv_lload_n F.1 F.2.1 hd rfl (hL.2.2 _ _ hl (by intro q; cases q)) (kk p l e s m args below meth c D T ad A F H locs larr hP hS hL)

theorem r_lload {i : Nat} {x : Int64} (hd : decode M.2.1 pc = .ok (.lload i, 2)) (hl : ls[i]? = some (.long x)) (kk : Rn w M (pc + 2) ls (.long x :: st) σ Post) : Rn w M pc ls (st) σ Post := by
  intro p l e s m args below meth c D T ad A F H locs larr hP hS hL
  exact lv_lload F.1 F.2.1 hd (hL.2.2 _ _ hl (by intro q; cases q)) (kk p l e s m args below meth c D T ad A F H locs larr hP hS hL)

theorem r_aload_n {k : Fin 4} {x : Nat} (hd : decode M.2.1 pc = .ok (.aload_n k, 1)) (hl : ls[(k : Nat)]? = some (.ref x)) (kk : Rn w M (pc + 1) ls (.ref x :: st) σ Post) : Rn w M pc ls (st) σ Post := by
  intro p l e s m args below meth c D T ad A F H locs larr hP hS hL
  exact lv_aload_n F.1 F.2.1 hd rfl (hL.2.2 _ _ hl (by intro q; cases q)) (kk p l e s m args below meth c D T ad A F H locs larr hP hS hL)

theorem r_aload {i : Nat} {x : Nat} (hd : decode M.2.1 pc = .ok (.aload i, 2)) (hl : ls[i]? = some (.ref x)) (kk : Rn w M (pc + 2) ls (.ref x :: st) σ Post) : Rn w M pc ls (st) σ Post := by
  intro p l e s m args below meth c D T ad A F H locs larr hP hS hL
  exact lv_aload F.1 F.2.1 hd (hL.2.2 _ _ hl (by intro q; cases q)) (kk p l e s m args below meth c D T ad A F H locs larr hP hS hL)

theorem r_aload_nN {k : Fin 4} (hd : decode M.2.1 pc = .ok (.aload_n k, 1)) (hl : ls[(k : Nat)]? = some .null) (kk : Rn w M (pc + 1) ls (.null :: st) σ Post) : Rn w M pc ls (st) σ Post := by
  intro p l e s m args below meth c D T ad A F H locs larr hP hS hL
  exact lv_aload_nN F.1 F.2.1 hd rfl (hL.2.2 _ _ hl (by intro q; cases q)) (kk p l e s m args below meth c D T ad A F H locs larr hP hS hL)

theorem r_aloadN {i : Nat} (hd : decode M.2.1 pc = .ok (.aload i, 2)) (hl : ls[i]? = some .null) (kk : Rn w M (pc + 2) ls (.null :: st) σ Post) : Rn w M pc ls (st) σ Post := by
  intro p l e s m args below meth c D T ad A F H locs larr hP hS hL
  exact lv_aloadN F.1 F.2.1 hd (hL.2.2 _ _ hl (by intro q; cases q)) (kk p l e s m args below meth c D T ad A F H locs larr hP hS hL)

theorem r_istore_n {k : Fin 4} {x : Int32} (hd : decode M.2.1 pc = .ok (.istore_n k, 1)) (hn : (k : Nat) < M.2.2.1) (kk : Rn w M (pc + 1) (rl_s1 ls (k : Nat) (.int x)) st σ Post) : Rn w M pc ls (.int x :: st) σ Post := by
  intro p l e s m args below meth c D T ad A F H locs larr hP hS hL
  exact lv_istore_n F.1 F.2.1 hd rfl (rl_L.has hL) hn rfl (fun ls1 h1 => kk p l e s m args below meth c D T ad A F H locs ls1 hP hS (rl_L.s1 h1))

theorem r_istore {i : Nat} {x : Int32} (hd : decode M.2.1 pc = .ok (.istore i, 2)) (hn : i < M.2.2.1) (kk : Rn w M (pc + 2) (rl_s1 ls i (.int x)) st σ Post) : Rn w M pc ls (.int x :: st) σ Post := by
  intro p l e s m args below meth c D T ad A F H locs larr hP hS hL
  exact lv_istore F.1 F.2.1 hd (rl_L.has hL) hn rfl (fun ls1 h1 => kk p l e s m args below meth c D T ad A F H locs ls1 hP hS (rl_L.s1 h1))

theorem r_lstore_n {k : Fin 4} {x : Int64} (hd : decode M.2.1 pc = .ok (.lstore_n k, 1)) (hn : (k : Nat) + 1 < M.2.2.1) (kk : Rn w M (pc + 1) (rl_s2 ls (k : Nat) (.long x)) st σ Post) : Rn w M pc ls (.long x :: st) σ Post := by
  intro p l e s m args below meth c D T ad A F H locs larr hP hS hL
  exact lv_lstore_n F.1 F.2.1 hd rfl (rl_L.has hL) hn rfl (fun ls1 h1 => kk p l e s m args below meth c D T ad A F H locs ls1 hP hS (rl_L.s2 h1))

theorem r_lstore {i : Nat} {x : Int64} (hd : decode M.2.1 pc = .ok (.lstore i, 2)) (hn : i + 1 < M.2.2.1) (kk : Rn w M (pc + 2) (rl_s2 ls i (.long x)) st σ Post) : Rn w M pc ls (.long x :: st) σ Post := by
  intro p l e s m args below meth c D T ad A F H locs larr hP hS hL
  exact lv_lstore F.1 F.2.1 hd (rl_L.has hL) hn rfl (fun ls1 h1 => kk p l e s m args below meth c D T ad A F H locs ls1 hP hS (rl_L.s2 h1))

theorem r_astore_n {k : Fin 4} {x : Nat} (hd : decode M.2.1 pc = .ok (.astore_n k, 1)) (hn : (k : Nat) < M.2.2.1) (kk : Rn w M (pc + 1) (rl_s1 ls (k : Nat) (.ref x)) st σ Post) : Rn w M pc ls (.ref x :: st) σ Post := by
  intro p l e s m args below meth c D T ad A F H locs larr hP hS hL
  exact lv_astore_n F.1 F.2.1 hd rfl (rl_L.has hL) hn rfl (fun ls1 h1 => kk p l e s m args below meth c D T ad A F H locs ls1 hP hS (rl_L.s1 h1))

theorem r_astore {i : Nat} {x : Nat} (hd : decode M.2.1 pc = .ok (.astore i, 2)) (hn : i < M.2.2.1) (kk : Rn w M (pc + 2) (rl_s1 ls i (.ref x)) st σ Post) : Rn w M pc ls (.ref x :: st) σ Post := by
  intro p l e s m args below meth c D T ad A F H locs larr hP hS hL
  exact lv_astore F.1 F.2.1 hd (rl_L.has hL) hn rfl (fun ls1 h1 => kk p l e s m args below meth c D T ad A F H locs ls1 hP hS (rl_L.s1 h1))

theorem r_astore_nN {k : Fin 4} (hd : decode M.2.1 pc = .ok (.astore_n k, 1)) (hn : (k : Nat) < M.2.2.1) (kk : Rn w M (pc + 1) (rl_s1 ls (k : Nat) .null) st σ Post) : Rn w M pc ls (.null :: st) σ Post := by
  intro p l e s m args below meth c D T ad A F H locs larr hP hS hL
  exact lv_astore_nN F.1 F.2.1 hd rfl (rl_L.has hL) hn rfl (fun ls1 h1 => kk p l e s m args below meth c D T ad A F H locs ls1 hP hS (rl_L.s1 h1))

theorem r_astoreN {i : Nat} (hd : decode M.2.1 pc = .ok (.astore i, 2)) (hn : i < M.2.2.1) (kk : Rn w M (pc + 2) (rl_s1 ls i .null) st σ Post) : Rn w M pc ls (.null :: st) σ Post := by
  intro p l e s m args below meth c D T ad A F H locs larr hP hS hL
  exact lv_astoreN F.1 F.2.1 hd (rl_L.has hL) hn rfl (fun ls1 h1 => kk p l e s m args below meth c D T ad A F H locs ls1 hP hS (rl_L.s1 h1))

theorem r_iinc {i : Nat} {n : Int} {x v : Int32} (hd : decode M.2.1 pc = .ok (.iinc i n, 3)) (hl : ls[i]? = some (.int x)) (hv : x + Int32.ofInt n = v) (hn : i < M.2.2.1) (kk : Rn w M (pc + 3) (rl_s1 ls i (.int v)) st σ Post) : Rn w M pc ls st σ Post := by
  intro p l e s m args below meth c D T ad A F H locs larr hP hS hL
  obtain ⟨k, hk⟩ := List.getElem?_of_mem (rl_l_mem (ad := ad) hl (by intro q; cases q))
  exact lv_iinc F.1 F.2.1 hd (rl_L.has hL) hk hv hn rfl (fun ls1 h1 => kk p l e s m args below meth c D T ad A F H locs ls1 hP hS (rl_L.s1 h1))

theorem r_iadd {x y : Int32} (hd : decode M.2.1 pc = .ok (.iadd, 1)) (kk : Rn w M (pc + 1) ls (.int (x + y) :: st) σ Post) : Rn w M pc ls (.int y :: .int x :: st) σ Post := by
  intro p l e s m args below meth c D T ad A F H locs larr hP hS hL
  exact lv_iadd F.1 F.2.1 hd (kk p l e s m args below meth c D T ad A F H locs larr hP hS hL)

theorem r_isub {x y : Int32} (hd : decode M.2.1 pc = .ok (.isub, 1)) (kk : Rn w M (pc + 1) ls (.int (x - y) :: st) σ Post) : Rn w M pc ls (.int y :: .int x :: st) σ Post := by
  intro p l e s m args below meth c D T ad A F H locs larr hP hS hL
  exact lv_isub F.1 F.2.1 hd (kk p l e s m args below meth c D T ad A F H locs larr hP hS hL)

theorem r_imul {x y : Int32} (hd : decode M.2.1 pc = .ok (.imul, 1)) (kk : Rn w M (pc + 1) ls (.int (x * y) :: st) σ Post) : Rn w M pc ls (.int y :: .int x :: st) σ Post := by
  intro p l e s m args below meth c D T ad A F H locs larr hP hS hL
  exact lv_imul F.1 F.2.1 hd (kk p l e s m args below meth c D T ad A F H locs larr hP hS hL)

theorem r_iand {x y : Int32} (hd : decode M.2.1 pc = .ok (.iand, 1)) (kk : Rn w M (pc + 1) ls (.int (x &&& y) :: st) σ Post) : Rn w M pc ls (.int y :: .int x :: st) σ Post := by
  intro p l e s m args below meth c D T ad A F H locs larr hP hS hL
  exact lv_iand F.1 F.2.1 hd (kk p l e s m args below meth c D T ad A F H locs larr hP hS hL)

theorem r_idiv {x y : Int32} (hd : decode M.2.1 pc = .ok (.idiv, 1)) (hne : ¬ y = 0) (kk : Rn w M (pc + 1) ls (.int (x / y) :: st) σ Post) : Rn w M pc ls (.int y :: .int x :: st) σ Post := by
  intro p l e s m args below meth c D T ad A F H locs larr hP hS hL
  exact lv_idiv F.1 F.2.1 hd hne (kk p l e s m args below meth c D T ad A F H locs larr hP hS hL)

theorem r_irem {x y : Int32} (hd : decode M.2.1 pc = .ok (.irem, 1)) (hne : ¬ y = 0) (kk : Rn w M (pc + 1) ls (.int (x - x / y * y) :: st) σ Post) : Rn w M pc ls (.int y :: .int x :: st) σ Post := by
  intro p l e s m args below meth c D T ad A F H locs larr hP hS hL
  exact lv_irem F.1 F.2.1 hd hne (kk p l e s m args below meth c D T ad A F H locs larr hP hS hL)

theorem r_ladd {x y : Int64} (hd : decode M.2.1 pc = .ok (.ladd, 1)) (kk : Rn w M (pc + 1) ls (.long (x + y) :: st) σ Post) : Rn w M pc ls (.long y :: .long x :: st) σ Post := by
  intro p l e s m args below meth c D T ad A F H locs larr hP hS hL
  exact lv_ladd F.1 F.2.1 hd (kk p l e s m args below meth c D T ad A F H locs larr hP hS hL)

theorem r_lsub {x y : Int64} (hd : decode M.2.1 pc = .ok (.lsub, 1)) (kk : Rn w M (pc + 1) ls (.long (x - y) :: st) σ Post) : Rn w M pc ls (.long y :: .long x :: st) σ Post := by
  intro p l e s m args below meth c D T ad A F H locs larr hP hS hL
  exact lv_lsub F.1 F.2.1 hd (kk p l e s m args below meth c D T ad A F H locs larr hP hS hL)

theorem r_lmul {x y : Int64} (hd : decode M.2.1 pc = .ok (.lmul, 1)) (kk : Rn w M (pc + 1) ls (.long (x * y) :: st) σ Post) : Rn w M pc ls (.long y :: .long x :: st) σ Post := by
  intro p l e s m args below meth c D T ad A F H locs larr hP hS hL
  exact lv_lmul F.1 F.2.1 hd (kk p l e s m args below meth c D T ad A F H locs larr hP hS hL)

theorem r_ldiv {x y : Int64} (hd : decode M.2.1 pc = .ok (.ldiv, 1)) (hne : ¬ y = 0) (kk : Rn w M (pc + 1) ls (.long (x / y) :: st) σ Post) : Rn w M pc ls (.long y :: .long x :: st) σ Post := by
  intro p l e s m args below meth c D T ad A F H locs larr hP hS hL
  exact lv_ldiv F.1 F.2.1 hd hne (kk p l e s m args below meth c D T ad A F H locs larr hP hS hL)

theorem r_lrem {x y : Int64} (hd : decode M.2.1 pc = .ok (.lrem, 1)) (hne : ¬ y = 0) (kk : Rn w M (pc + 1) ls (.long (x - x / y * y) :: st) σ Post) : Rn w M pc ls (.long y :: .long x :: st) σ Post := by
  intro p l e s m args below meth c D T ad A F H locs larr hP hS hL
  exact lv_lrem F.1 F.2.1 hd hne (kk p l e s m args below meth c D T ad A F H locs larr hP hS hL)

theorem r_lcmp {x y : Int64} (hd : decode M.2.1 pc = .ok (.lcmp, 1)) (kk : Rn w M (pc + 1) ls (.int (lg_cmp x y) :: st) σ Post) : Rn w M pc ls (.long y :: .long x :: st) σ Post := by
  intro p l e s m args below meth c D T ad A F H locs larr hP hS hL
  exact W.lcmp F.1 F.2.1 hd (kk p l e s m args below meth c D T ad A F H locs larr hP hS hL)

theorem r_iushr {x y v : Int32} (hd : decode M.2.1 pc = .ok (.iushr, 1)) (hv : (x.toUInt32 >>> (y.toUInt32 &&& Int32.toUInt32 31)).toInt32 = v) (kk : Rn w M (pc + 1) ls (.int v :: st) σ Post) : Rn w M pc ls (.int y :: .int x :: st) σ Post := by
  intro p l e s m args below meth c D T ad A F H locs larr hP hS hL
  exact lv_iushr F.1 F.2.1 hd hv (kk p l e s m args below meth c D T ad A F H locs larr hP hS hL)

theorem r_i2l {x : Int32} (hd : decode M.2.1 pc = .ok (.i2l, 1)) (kk : Rn w M (pc + 1) ls (.long x.toInt64 :: st) σ Post) : Rn w M pc ls (.int x :: st) σ Post := by
  intro p l e s m args below meth c D T ad A F H locs larr hP hS hL
  exact lv_i2l F.1 F.2.1 hd rfl (kk p l e s m args below meth c D T ad A F H locs larr hP hS hL)

theorem r_i2b {x : Int32} (hd : decode M.2.1 pc = .ok (.i2b, 1)) (kk : Rn w M (pc + 1) ls (.int x.toInt8.toInt32 :: st) σ Post) : Rn w M pc ls (.int x :: st) σ Post := by
  intro p l e s m args below meth c D T ad A F H locs larr hP hS hL
  exact lv_i2b F.1 F.2.1 hd rfl (kk p l e s m args below meth c D T ad A F H locs larr hP hS hL)

theorem r_i2s {x : Int32} (hd : decode M.2.1 pc = .ok (.i2s, 1)) (kk : Rn w M (pc + 1) ls (.int x.toInt16.toInt32 :: st) σ Post) : Rn w M pc ls (.int x :: st) σ Post := by
  intro p l e s m args below meth c D T ad A F H locs larr hP hS hL
  exact lv_i2s F.1 F.2.1 hd rfl (kk p l e s m args below meth c D T ad A F H locs larr hP hS hL)

theorem r_dup {v : Value} (hd : decode M.2.1 pc = .ok (.dup, 1)) (hv : v.category = 1) (kk : Rn w M (pc + 1) ls (v :: v :: st) σ Post) : Rn w M pc ls (v :: st) σ Post := by
  intro p l e s m args below meth c D T ad A F H locs larr hP hS hL
  exact lv_dup F.1 F.2.1 hd (by rw [rcv_cat]; exact hv) (kk p l e s m args below meth c D T ad A F H locs larr hP hS hL)

theorem r_dup2 {v u : Value} (hd : decode M.2.1 pc = .ok (.dup2, 1)) (hv : v.category = 1) (hu : u.category = 1) (kk : Rn w M (pc + 1) ls (v :: u :: v :: u :: st) σ Post) : Rn w M pc ls (v :: u :: st) σ Post := by
  intro p l e s m args below meth c D T ad A F H locs larr hP hS hL
  exact lv_dup2_11 F.1 F.2.1 hd (by rw [rcv_cat]; exact hv) (by rw [rcv_cat]; exact hu) (kk p l e s m args below meth c D T ad A F H locs larr hP hS hL)

theorem r_pop {v : Value} (hd : decode M.2.1 pc = .ok (.pop, 1)) (hv : v.category = 1) (kk : Rn w M (pc + 1) ls (st) σ Post) : Rn w M pc ls (v :: st) σ Post := by
  intro p l e s m args below meth c D T ad A F H locs larr hP hS hL
  exact lv_pop F.1 F.2.1 hd (by rw [rcv_cat]; exact hv) (kk p l e s m args below meth c D T ad A F H locs larr hP hS hL)

theorem r_if_eq {x : Int32} {off : Int} (tgt : Nat) (hd : decode M.2.1 pc = .ok (.ifCond .eq off, 3)) (ht : (pc : Int) + off = (tgt : Int)) (kt : x = 0 → Rn w M tgt ls st σ Post) (kf : ¬ x = 0 → Rn w M (pc + 3) ls st σ Post) : Rn w M pc ls (.int x :: st) σ Post := by
  intro p l e s m args below meth c D T ad A F H locs larr hP hS hL
  exact lv_if_eq F.1 F.2.1 hd ht (fun q => kt q p l e s m args below meth c D T ad A F H locs larr hP hS hL) (fun q => kf q p l e s m args below meth c D T ad A F H locs larr hP hS hL)

theorem r_icmp_eq {x y : Int32} {off : Int} (tgt : Nat) (hd : decode M.2.1 pc = .ok (.if_icmp .eq off, 3)) (ht : (pc : Int) + off = (tgt : Int)) (kt : x = y → Rn w M tgt ls st σ Post) (kf : ¬ x = y → Rn w M (pc + 3) ls st σ Post) : Rn w M pc ls (.int y :: .int x :: st) σ Post := by
  intro p l e s m args below meth c D T ad A F H locs larr hP hS hL
  exact lv_icmp_eq F.1 F.2.1 hd ht (fun q => kt q p l e s m args below meth c D T ad A F H locs larr hP hS hL) (fun q => kf q p l e s m args below meth c D T ad A F H locs larr hP hS hL)

theorem r_if_ne {x : Int32} {off : Int} (tgt : Nat) (hd : decode M.2.1 pc = .ok (.ifCond .ne off, 3)) (ht : (pc : Int) + off = (tgt : Int)) (kt : ¬ x = 0 → Rn w M tgt ls st σ Post) (kf : x = 0 → Rn w M (pc + 3) ls st σ Post) : Rn w M pc ls (.int x :: st) σ Post := by
  intro p l e s m args below meth c D T ad A F H locs larr hP hS hL
  exact lv_if_ne F.1 F.2.1 hd ht (fun q => kt q p l e s m args below meth c D T ad A F H locs larr hP hS hL) (fun q => kf q p l e s m args below meth c D T ad A F H locs larr hP hS hL)

theorem r_icmp_ne {x y : Int32} {off : Int} (tgt : Nat) (hd : decode M.2.1 pc = .ok (.if_icmp .ne off, 3)) (ht : (pc : Int) + off = (tgt : Int)) (kt : ¬ x = y → Rn w M tgt ls st σ Post) (kf : x = y → Rn w M (pc + 3) ls st σ Post) : Rn w M pc ls (.int y :: .int x :: st) σ Post := by
  intro p l e s m args below meth c D T ad A F H locs larr hP hS hL
  exact lv_icmp_ne F.1 F.2.1 hd ht (fun q => kt q p l e s m args below meth c D T ad A F H locs larr hP hS hL) (fun q => kf q p l e s m args below meth c D T ad A F H locs larr hP hS hL)

theorem r_if_lt {x : Int32} {off : Int} (tgt : Nat) (hd : decode M.2.1 pc = .ok (.ifCond .lt off, 3)) (ht : (pc : Int) + off = (tgt : Int)) (kt : x < 0 → Rn w M tgt ls st σ Post) (kf : ¬ x < 0 → Rn w M (pc + 3) ls st σ Post) : Rn w M pc ls (.int x :: st) σ Post := by
  intro p l e s m args below meth c D T ad A F H locs larr hP hS hL
  exact lv_if_lt F.1 F.2.1 hd ht (fun q => kt q p l e s m args below meth c D T ad A F H locs larr hP hS hL) (fun q => kf q p l e s m args below meth c D T ad A F H locs larr hP hS hL)

theorem r_icmp_lt {x y : Int32} {off : Int} (tgt : Nat) (hd : decode M.2.1 pc = .ok (.if_icmp .lt off, 3)) (ht : (pc : Int) + off = (tgt : Int)) (kt : x < y → Rn w M tgt ls st σ Post) (kf : ¬ x < y → Rn w M (pc + 3) ls st σ Post) : Rn w M pc ls (.int y :: .int x :: st) σ Post := by
  intro p l e s m args below meth c D T ad A F H locs larr hP hS hL
  exact lv_icmp_lt F.1 F.2.1 hd ht (fun q => kt q p l e s m args below meth c D T ad A F H locs larr hP hS hL) (fun q => kf q p l e s m args below meth c D T ad A F H locs larr hP hS hL)

theorem r_if_ge {x : Int32} {off : Int} (tgt : Nat) (hd : decode M.2.1 pc = .ok (.ifCond .ge off, 3)) (ht : (pc : Int) + off = (tgt : Int)) (kt : 0 ≤ x → Rn w M tgt ls st σ Post) (kf : ¬ 0 ≤ x → Rn w M (pc + 3) ls st σ Post) : Rn w M pc ls (.int x :: st) σ Post := by
  intro p l e s m args below meth c D T ad A F H locs larr hP hS hL
  exact lv_if_ge F.1 F.2.1 hd ht (fun q => kt q p l e s m args below meth c D T ad A F H locs larr hP hS hL) (fun q => kf q p l e s m args below meth c D T ad A F H locs larr hP hS hL)

theorem r_icmp_ge {x y : Int32} {off : Int} (tgt : Nat) (hd : decode M.2.1 pc = .ok (.if_icmp .ge off, 3)) (ht : (pc : Int) + off = (tgt : Int)) (kt : y ≤ x → Rn w M tgt ls st σ Post) (kf : ¬ y ≤ x → Rn w M (pc + 3) ls st σ Post) : Rn w M pc ls (.int y :: .int x :: st) σ Post := by
  intro p l e s m args below meth c D T ad A F H locs larr hP hS hL
  exact lv_icmp_ge F.1 F.2.1 hd ht (fun q => kt q p l e s m args below meth c D T ad A F H locs larr hP hS hL) (fun q => kf q p l e s m args below meth c D T ad A F H locs larr hP hS hL)

theorem r_if_gt {x : Int32} {off : Int} (tgt : Nat) (hd : decode M.2.1 pc = .ok (.ifCond .gt off, 3)) (ht : (pc : Int) + off = (tgt : Int)) (kt : 0 < x → Rn w M tgt ls st σ Post) (kf : ¬ 0 < x → Rn w M (pc + 3) ls st σ Post) : Rn w M pc ls (.int x :: st) σ Post := by
  intro p l e s m args below meth c D T ad A F H locs larr hP hS hL
  exact lv_if_gt F.1 F.2.1 hd ht (fun q => kt q p l e s m args below meth c D T ad A F H locs larr hP hS hL) (fun q => kf q p l e s m args below meth c D T ad A F H locs larr hP hS hL)

theorem r_icmp_gt {x y : Int32} {off : Int} (tgt : Nat) (hd : decode M.2.1 pc = .ok (.if_icmp .gt off, 3)) (ht : (pc : Int) + off = (tgt : Int)) (kt : y < x → Rn w M tgt ls st σ Post) (kf : ¬ y < x → Rn w M (pc + 3) ls st σ Post) : Rn w M pc ls (.int y :: .int x :: st) σ Post := by
  intro p l e s m args below meth c D T ad A F H locs larr hP hS hL
  exact lv_icmp_gt F.1 F.2.1 hd ht (fun q => kt q p l e s m args below meth c D T ad A F H locs larr hP hS hL) (fun q => kf q p l e s m args below meth c D T ad A F H locs larr hP hS hL)

theorem r_if_le {x : Int32} {off : Int} (tgt : Nat) (hd : decode M.2.1 pc = .ok (.ifCond .le off, 3)) (ht : (pc : Int) + off = (tgt : Int)) (kt : x ≤ 0 → Rn w M tgt ls st σ Post) (kf : ¬ x ≤ 0 → Rn w M (pc + 3) ls st σ Post) : Rn w M pc ls (.int x :: st) σ Post := by
  intro p l e s m args below meth c D T ad A F H locs larr hP hS hL
  exact lv_if_le F.1 F.2.1 hd ht (fun q => kt q p l e s m args below meth c D T ad A F H locs larr hP hS hL) (fun q => kf q p l e s m args below meth c D T ad A F H locs larr hP hS hL)

theorem r_icmp_le {x y : Int32} {off : Int} (tgt : Nat) (hd : decode M.2.1 pc = .ok (.if_icmp .le off, 3)) (ht : (pc : Int) + off = (tgt : Int)) (kt : x ≤ y → Rn w M tgt ls st σ Post) (kf : ¬ x ≤ y → Rn w M (pc + 3) ls st σ Post) : Rn w M pc ls (.int y :: .int x :: st) σ Post := by
  intro p l e s m args below meth c D T ad A F H locs larr hP hS hL
  exact lv_icmp_le F.1 F.2.1 hd ht (fun q => kt q p l e s m args below meth c D T ad A F H locs larr hP hS hL) (fun q => kf q p l e s m args below meth c D T ad A F H locs larr hP hS hL)

theorem r_goto {off : Int} (tgt : Nat) (hd : decode M.2.1 pc = .ok (.goto off, 3)) (ht : (pc : Int) + off = (tgt : Int)) (kk : Rn w M tgt ls (st) σ Post) : Rn w M pc ls (st) σ Post := by
  intro p l e s m args below meth c D T ad A F H locs larr hP hS hL
  exact lv_goto F.1 F.2.1 hd ht (kk p l e s m args below meth c D T ad A F H locs larr hP hS hL)

theorem r_ifnull {x : Nat} {off : Int} (hd : decode M.2.1 pc = .ok (.ifnull off, 3)) (kk : Rn w M (pc + 3) ls (st) σ Post) : Rn w M pc ls (.ref x :: st) σ Post := by
  intro p l e s m args below meth c D T ad A F H locs larr hP hS hL
  exact lv_ifnull F.1 F.2.1 hd (kk p l e s m args below meth c D T ad A F H locs larr hP hS hL)

theorem r_ifnullN {off : Int} (tgt : Nat) (hd : decode M.2.1 pc = .ok (.ifnull off, 3)) (ht : (pc : Int) + off = (tgt : Int)) (kk : Rn w M tgt ls (st) σ Post) : Rn w M pc ls (.null :: st) σ Post := by
  intro p l e s m args below meth c D T ad A F H locs larr hP hS hL
  exact lv_ifnullN F.1 F.2.1 hd ht (kk p l e s m args below meth c D T ad A F H locs larr hP hS hL)

theorem r_ifnonnull {x : Nat} {off : Int} (tgt : Nat) (hd : decode M.2.1 pc = .ok (.ifnonnull off, 3)) (ht : (pc : Int) + off = (tgt : Int)) (kk : Rn w M tgt ls (st) σ Post) : Rn w M pc ls (.ref x :: st) σ Post := by
  intro p l e s m args below meth c D T ad A F H locs larr hP hS hL
  exact lv_ifnonnull F.1 F.2.1 hd ht (kk p l e s m args below meth c D T ad A F H locs larr hP hS hL)

theorem r_ifnonnullN {off : Int} (hd : decode M.2.1 pc = .ok (.ifnonnull off, 3)) (kk : Rn w M (pc + 3) ls (st) σ Post) : Rn w M pc ls (.null :: st) σ Post := by
  intro p l e s m args below meth c D T ad A F H locs larr hP hS hL
  exact lv_ifnonnullN F.1 F.2.1 hd (kk p l e s m args below meth c D T ad A F H locs larr hP hS hL)

theorem r_tableIn {dflt lo hi off : Int} {offs : Array Int} {len : Nat} {x : Int32} (tgt : Nat) (hd : decode M.2.1 pc = .ok (.tableswitch dflt lo hi offs, len)) (h1 : ¬ x.toInt < lo) (h2 : ¬ hi < x.toInt) (ho : offs[(x.toInt - lo).toNat]? = some off) (ht : (pc : Int) + off = (tgt : Int)) (kk : Rn w M tgt ls st σ Post) : Rn w M pc ls (.int x :: st) σ Post := by
  intro p l e s m args below meth c D T ad A F H locs larr hP hS hL
  exact lv_tableIn F.1 F.2.1 hd h1 h2 ho ht (kk p l e s m args below meth c D T ad A F H locs larr hP hS hL)

theorem r_tableOut {dflt lo hi : Int} {offs : Array Int} {len : Nat} {x : Int32} (tgt : Nat) (hd : decode M.2.1 pc = .ok (.tableswitch dflt lo hi offs, len)) (h1 : x.toInt < lo ∨ hi < x.toInt) (ht : (pc : Int) + dflt = (tgt : Int)) (kk : Rn w M tgt ls st σ Post) : Rn w M pc ls (.int x :: st) σ Post := by
  intro p l e s m args below meth c D T ad A F H locs larr hP hS hL
  exact lv_tableOut F.1 F.2.1 hd h1 ht (kk p l e s m args below meth c D T ad A F H locs larr hP hS hL)

theorem rl_c_ob {w : rl_W} {T : Nat → ClassId} {ad : Nat → Nat} {σ : rl_S} {k ci : Nat} {fs : List (Option Value)} (h : w.2.1 k = .inr (.inl (ci, fs))) : rl_c w T ad σ k = .inr (ci, rl_ob ad fs (σ k)) := by simp only [rl_c, h]
theorem rl_c_ar {w : rl_W} {T : Nat → ClassId} {ad : Nat → Nat} {σ : rl_S} {k t n : Nat} (h : w.2.1 k = .inl (t, n)) : rl_c w T ad σ k = .inl (T t, (n, .inl (fun i => iI (σ k i)))) := by simp only [rl_c, h]
theorem rl_c_rr {w : rl_W} {T : Nat → ClassId} {ad : Nat → Nat} {σ : rl_S} {k t : Nat} {rs : List Nat} (h : w.2.1 k = .inr (.inr (t, rs))) : rl_c w T ad σ k = .inl (T t, (rs.length, .inr (.inr (.inr (.inr (fun i => (rs[i]?).map ad)))))) := by simp only [rl_c, h]
theorem sup_ne (σ : rl_S) {k a : Nat} (i : Nat) (x : Int) (h : a ≠ k) : sup σ k i x a = σ a := by simp [sup, h]
theorem sup_self (σ : rl_S) (k i : Nat) (x : Int) : sup σ k i x k = (fun j => if j = i then x else σ k j) := by simp [sup]
theorem sup_upd (σ : rl_S) (k i : Nat) (x : Int) : (fun j => iI (sup σ k i x k j)) = upd (fun j => iI (σ k j)) i (iI x) := by
  funext j
  by_cases h : j = i <;> simp [sup, upd, h]

theorem r_get {k ci j idx : Nat} {fs : List (Option Value)} {v : Value} (hf : rl_FL M.1.cls idx ci j) (hd : decode M.2.1 pc = .ok (.getfield idx, 3)) (hk : k < w.1) (hw : w.2.1 k = .inr (.inl (ci, fs))) (hv : rl_fv fs j (σ k) = some v) (kk : Rn w M (pc + 3) ls (v :: st) σ Post) : Rn w M pc ls (.ref k :: st) σ Post := by
  intro p l e s m args below meth c D T ad A F H locs larr hP hS hL
  obtain ⟨C, T0, N, ty0, ⟨hc, hin, hty, hnm⟩, hj, hlk⟩ := hf
  have he := rl_w_get w T ad σ hk
  rw [rl_c_ob hw] at he
  exact va_get (D := D) (ci := ci) (C := C) (T := T0) (N := N) F.1 F.2.1 F.2.2.2.1 (fun q h => List.mem_cons_of_mem _ (hin q h)) F.2.2.2.2.1 F.2.2.2.2.2.2.2.1 hP k he hc j hj (F.2.2.2.1 _ (List.mem_cons_of_mem _ hlk)) (fun _ h => h) (by rw [rl_ob_get, hv]; rfl) hd (kk p l e s m args below meth c D T ad A F H locs larr hP hS hL)

theorem r_put {k ci j idx : Nat} {ty : FieldType} {fs : List (Option Value)} {x : Int} (hf : rl_FP M.1.cls idx ci j ty) (hd : decode M.2.1 pc = .ok (.putfield idx, 3)) (hk : k < w.1) (hw : w.2.1 k = .inr (.inl (ci, fs))) (hj0 : fs[j]? = some none) (hn : narrow ty (.int (iI x)) = .int (iI x)) (hfit : fits ty (.int (iI x)) = true) (kk : Rn w M (pc + 3) ls st (sup σ k j x) Post) : Rn w M pc ls (.int (iI x) :: .ref k :: st) σ Post := by
  intro p l e s m args below meth c D T ad A F H locs larr hP hS hL
  obtain ⟨C, T0, N, ty0, ⟨hc, hin, hty, hnm⟩, hj, hlk, hfin, hpd⟩ := hf
  have he := rl_w_get w T ad σ hk
  rw [rl_c_ob hw] at he
  refine va_put (D := D) (ci := ci) (C := C) (T := T0) (N := N) F.1 F.2.1 F.2.2.2.1 (fun q h => List.mem_cons_of_mem _ (hin q h)) ty0 hty hnm F.2.2.2.2.1 F.2.2.2.2.2.2.2.1 hP (F.2.2.2.2.2.2.2.2.1 σ) hS k he hc j hj (F.2.2.2.1 _ (List.mem_cons_of_mem _ hlk)) (fun _ h => h) hfin hpd hn hfit (by simp only [rl_ob, List.length_mapIdx]; exact (List.getElem?_eq_some_iff.mp hj0).1) hd (fun H1 locs1 hP1 _ hS1 => ?_)
  have hP1 : va_P D vwCl (List.set (rl_w w T ad σ) k (ad k, .inr (ci, (rl_ob ad fs (σ k)).set j (.int (iI x))))) H1 := hP1
  rw [rl_ob_set ad fs j (σ k) x hj0, rl_w_set w T ad σ (sup σ k j x) hk (by rw [rl_c_ob hw, sup_self]) (fun a h => sup_ne σ j x h)] at hP1
  exact kk p l e s m args below meth c D T ad A F H1 locs1 larr hP1 hS1 hL

theorem r_iald {k t n : Nat} {i : Int32} (hd : decode M.2.1 pc = .ok (.iaload, 1)) (hk : k < w.1) (hw : w.2.1 k = .inl (t, n)) (ht : w.2.2.1[t]? = some .int) (hin : vp_in i n) (kk : Rn w M (pc + 1) ls (.int (iI (σ k i.toNatClampNeg)) :: st) σ Post) : Rn w M pc ls (.int i :: .ref k :: st) σ Post := by
  intro p l e s m args below meth c D T ad A F H locs larr hP hS hL
  have he := rl_w_get w T ad σ hk
  rw [rl_c_ar hw] at he
  exact va_iald F.1 F.2.1 F.2.2.2.2.2.2.2.1 hP k t he (rl_ty_get w T ht) hin hd (kk p l e s m args below meth c D T ad A F H locs larr hP hS hL)

theorem r_zald {k t n : Nat} {i : Int32} (hd : decode M.2.1 pc = .ok (.baload, 1)) (hk : k < w.1) (hw : w.2.1 k = .inl (t, n)) (ht : w.2.2.1[t]? = some .boolean) (hin : vp_in i n) (kk : Rn w M (pc + 1) ls (.int (iI (σ k i.toNatClampNeg)) :: st) σ Post) : Rn w M pc ls (.int i :: .ref k :: st) σ Post := by
  intro p l e s m args below meth c D T ad A F H locs larr hP hS hL
  have he := rl_w_get w T ad σ hk
  rw [rl_c_ar hw] at he
  exact va_zald F.1 F.2.1 F.2.2.2.2.2.2.2.1 hP k t he (rl_ty_get w T ht) hin hd (kk p l e s m args below meth c D T ad A F H locs larr hP hS hL)

theorem r_iast {k t n : Nat} {i : Int32} {x : Int} (hd : decode M.2.1 pc = .ok (.iastore, 1)) (hk : k < w.1) (hw : w.2.1 k = .inl (t, n)) (ht : w.2.2.1[t]? = some .int) (hin : vp_in i n) (kk : Rn w M (pc + 1) ls st (sup σ k i.toNatClampNeg x) Post) : Rn w M pc ls (.int (iI x) :: .int i :: .ref k :: st) σ Post := by
  intro p l e s m args below meth c D T ad A F H locs larr hP hS hL
  have he := rl_w_get w T ad σ hk
  rw [rl_c_ar hw] at he
  refine va_iast F.1 F.2.1 F.2.2.2.2.2.2.2.1 hP (F.2.2.2.2.2.2.2.2.1 σ) hS k t he (rl_ty_get w T ht) hin hd (fun H1 locs1 hP1 _ hS1 => ?_)
  rw [rl_w_set w T ad σ (sup σ k i.toNatClampNeg x) hk (by rw [rl_c_ar hw, sup_upd]) (fun a h => sup_ne σ _ x h)] at hP1
  exact kk p l e s m args below meth c D T ad A F H1 locs1 larr hP1 hS1 hL

theorem r_zast {k t n : Nat} {i : Int32} {x : Int} (hd : decode M.2.1 pc = .ok (.bastore, 1)) (hk : k < w.1) (hw : w.2.1 k = .inl (t, n)) (ht : w.2.2.1[t]? = some .boolean) (hin : vp_in i n) (hx : vp_nar .boolean (iI x) = iI x) (kk : Rn w M (pc + 1) ls st (sup σ k i.toNatClampNeg x) Post) : Rn w M pc ls (.int (iI x) :: .int i :: .ref k :: st) σ Post := by
  intro p l e s m args below meth c D T ad A F H locs larr hP hS hL
  have he := rl_w_get w T ad σ hk
  rw [rl_c_ar hw] at he
  refine va_zast F.1 F.2.1 F.2.2.2.2.2.2.2.1 hP (F.2.2.2.2.2.2.2.2.1 σ) hS k t he (rl_ty_get w T ht) hin hd (fun H1 locs1 hP1 _ hS1 => ?_)
  rw [hx, rl_w_set w T ad σ (sup σ k i.toNatClampNeg x) hk (by rw [rl_c_ar hw, sup_upd]) (fun a h => sup_ne σ _ _ h)] at hP1
  exact kk p l e s m args below meth c D T ad A F H1 locs1 larr hP1 hS1 hL

theorem r_alen {k t n : Nat} {ty : FieldType} {v : Int32} (hd : decode M.2.1 pc = .ok (.arraylength, 1)) (hk : k < w.1) (hw : w.2.1 k = .inl (t, n)) (ht : w.2.2.1[t]? = some ty) (hv : Int32.ofNat n = v) (kk : Rn w M (pc + 1) ls (.int v :: st) σ Post) : Rn w M pc ls (.ref k :: st) σ Post := by
  intro p l e s m args below meth c D T ad A F H locs larr hP hS hL
  have he := rl_w_get w T ad σ hk
  rw [rl_c_ar hw] at he
  exact va_alen F.1 F.2.1 F.2.2.2.2.2.2.2.1 hP k t he (rl_ty_get w T ht) hv hd (kk p l e s m args below meth c D T ad A F H locs larr hP hS hL)

theorem r_alenQ {k t : Nat} {rs : List Nat} {ty : FieldType} {v : Int32} (hd : decode M.2.1 pc = .ok (.arraylength, 1)) (hk : k < w.1) (hw : w.2.1 k = .inr (.inr (t, rs))) (ht : w.2.2.1[t]? = some ty) (hv : Int32.ofNat rs.length = v) (kk : Rn w M (pc + 1) ls (.int v :: st) σ Post) : Rn w M pc ls (.ref k :: st) σ Post := by
  intro p l e s m args below meth c D T ad A F H locs larr hP hS hL
  have he := rl_w_get w T ad σ hk
  rw [rl_c_rr hw] at he
  exact va_alen F.1 F.2.1 F.2.2.2.2.2.2.2.1 hP k t he (rl_ty_get w T ht) hv hd (kk p l e s m args below meth c D T ad A F H locs larr hP hS hL)

theorem r_aald {k t q : Nat} {rs : List Nat} {C : String} {i : Int32} (hd : decode M.2.1 pc = .ok (.aaload, 1)) (hk : k < w.1) (hw : w.2.1 k = .inr (.inr (t, rs))) (ht : w.2.2.1[t]? = some (.object C)) (hin : vp_in i rs.length) (hq : rs[i.toNatClampNeg]? = some q) (kk : Rn w M (pc + 1) ls (.ref q :: st) σ Post) : Rn w M pc ls (.int i :: .ref k :: st) σ Post := by
  intro p l e s m args below meth c D T ad A F H locs larr hP hS hL
  have he := rl_w_get w T ad σ hk
  rw [rl_c_rr hw] at he
  refine va_aldq F.1 F.2.1 F.2.2.2.2.2.2.2.1 hP k t he (rl_ty_get w T ht) hin hd ?_
  rw [hq]
  exact kk p l e s m args below meth c D T ad A F H locs larr hP hS hL

theorem r_gets {C n ref : String} {k len idx : Nat} {f : Nat → Int32} (hq : (C, n, k, len, f) ∈ w.2.2.2) (hw : Cond.fieldLink M.1.cls idx C n "[I" ∈ rl_T) (hd : decode M.2.1 pc = .ok (.getstatic idx, 3)) (kk : Rn w M (pc + 3) ls (.ref k :: st) σ Post) : Rn w M pc ls st σ Post := by
  intro p l e s m args below meth c D T ad A F H locs larr hP hS hL
  exact va_gets F.1 F.2.1 (F.2.2.2.2.2.2.2.2.2 _ hq).1 hS F.2.2.2.2.1 (F.2.2.2.1 _ (List.mem_cons_of_mem _ hw)) (fun _ h => h) hd (kk p l e s m args below meth c D T ad A F H locs larr hP hS hL)

theorem r_tald {C n : String} {k len : Nat} {f : Nat → Int32} {i : Int32} (hq : (C, n, k, len, f) ∈ w.2.2.2) (hd : decode M.2.1 pc = .ok (.iaload, 1)) (hin : vp_in i len) (kk : Rn w M (pc + 1) ls (.int (f i.toNatClampNeg) :: st) σ Post) : Rn w M pc ls (.int i :: .ref k :: st) σ Post := by
  intro p l e s m args below meth c D T ad A F H locs larr hP hS hL
  exact va_ti F.1 F.2.1 (F.2.2.2.2.2.2.2.2.2 _ hq).2 hS hin rfl hd (kk p l e s m args below meth c D T ad A F H locs larr hP hS hL)

theorem r_tlen {C n : String} {k len : Nat} {f : Nat → Int32} {v : Int32} (hq : (C, n, k, len, f) ∈ w.2.2.2) (hd : decode M.2.1 pc = .ok (.arraylength, 1)) (hv : Int32.ofNat len = v) (kk : Rn w M (pc + 1) ls (.int v :: st) σ Post) : Rn w M pc ls (.ref k :: st) σ Post := by
  intro p l e s m args below meth c D T ad A F H locs larr hP hS hL
  exact va_tlen F.1 F.2.1 (F.2.2.2.2.2.2.2.2.2 _ hq).2 hS hv hd (kk p l e s m args below meth c D T ad A F H locs larr hP hS hL)

theorem r_mmin {x y : Int32} {idx : Nat} (hw : Cond.methodLink M.1.cls idx Lib.Math.min.name ∈ rl_T ∧ Cond.static Lib.Math.min.name ∈ rl_T ∧ Cond.initialized "java/lang/Math" ∈ rl_T ∧ Cond.code Lib.Math.min.name Lib.Math.min.code 2 (some .int) ∈ rl_T) (hd : decode M.2.1 pc = .ok (.invokestatic idx, 3)) (hd1 : 1 ≤ M.2.2.2.2) (hr : (st.map fun v => v.category).sum ≤ 8) (kk : Rn w M (pc + 3) ls (.int (if y < x then y else x) :: st) σ Post) : Rn w M pc ls (.int y :: .int x :: st) σ Post := by
  intro p l e s m args below meth c D T ad A F H locs larr hP hS hL
  have hin : ∀ {q : Cond}, q ∈ rl_T → q.before args s = true := fun h => F.2.2.2.1 _ (List.mem_cons_of_mem _ h)
  have hs : ((st.map (rcv ad)).map fun v => v.category).sum = (st.map fun v => v.category).sum := by simp [List.map_map, Function.comp_def, rcv_cat]
  exact va_mmin F.1 F.2.1 (F.2.2.2.2.2.2.1.trans hL.1.symm) F.2.2.2.2.1 (hin hw.1) (hin hw.2.1) (hin hw.2.2.1) (hin hw.2.2.2) hd1 (by rw [hs]; show _ ≤ 32 * M.2.2.2.2; omega) (Nat.le_refl _) (Nat.le_refl _) hd (kk p l e s m args below meth c D T ad A F H locs larr hP hS hL)

theorem r_mmax {x y : Int32} {idx : Nat} (hw : Cond.methodLink M.1.cls idx Lib.Math.max.name ∈ rl_T ∧ Cond.static Lib.Math.max.name ∈ rl_T ∧ Cond.initialized "java/lang/Math" ∈ rl_T ∧ Cond.code Lib.Math.max.name Lib.Math.max.code 2 (some .int) ∈ rl_T) (hd : decode M.2.1 pc = .ok (.invokestatic idx, 3)) (hd1 : 1 ≤ M.2.2.2.2) (hr : (st.map fun v => v.category).sum ≤ 8) (kk : Rn w M (pc + 3) ls (.int (if x < y then y else x) :: st) σ Post) : Rn w M pc ls (.int y :: .int x :: st) σ Post := by
  intro p l e s m args below meth c D T ad A F H locs larr hP hS hL
  have hin : ∀ {q : Cond}, q ∈ rl_T → q.before args s = true := fun h => F.2.2.2.1 _ (List.mem_cons_of_mem _ h)
  have hs : ((st.map (rcv ad)).map fun v => v.category).sum = (st.map fun v => v.category).sum := by simp [List.map_map, Function.comp_def, rcv_cat]
  exact va_mmax F.1 F.2.1 (F.2.2.2.2.2.2.1.trans hL.1.symm) F.2.2.2.2.1 (hin hw.1) (hin hw.2.1) (hin hw.2.2.1) (hin hw.2.2.2) hd1 (by rw [hs]; show _ ≤ 32 * M.2.2.2.2; omega) (Nat.le_refl _) (Nat.le_refl _) hd (kk p l e s m args below meth c D T ad A F H locs larr hP hS hL)

theorem r_mabs {x : Int32} {idx : Nat} (hw : Cond.methodLink M.1.cls idx Lib.Math.abs.name ∈ rl_T ∧ Cond.static Lib.Math.abs.name ∈ rl_T ∧ Cond.initialized "java/lang/Math" ∈ rl_T ∧ Cond.code Lib.Math.abs.name Lib.Math.abs.code 1 (some .int) ∈ rl_T) (hd : decode M.2.1 pc = .ok (.invokestatic idx, 3)) (hd1 : 1 ≤ M.2.2.2.2) (hr : (st.map fun v => v.category).sum ≤ 8) (kk : Rn w M (pc + 3) ls (.int (if 0 ≤ x then x else 0 - x) :: st) σ Post) : Rn w M pc ls (.int x :: st) σ Post := by
  intro p l e s m args below meth c D T ad A F H locs larr hP hS hL
  have hin : ∀ {q : Cond}, q ∈ rl_T → q.before args s = true := fun h => F.2.2.2.1 _ (List.mem_cons_of_mem _ h)
  have hs : ((st.map (rcv ad)).map fun v => v.category).sum = (st.map fun v => v.category).sum := by simp [List.map_map, Function.comp_def, rcv_cat]
  exact va_mabs F.1 F.2.1 (F.2.2.2.2.2.2.1.trans hL.1.symm) F.2.2.2.2.1 (hin hw.1) (hin hw.2.1) (hin hw.2.2.1) (hin hw.2.2.2) hd1 (by rw [hs]; show _ ≤ 32 * M.2.2.2.2; omega) (Nat.le_refl _) (Nat.le_refl _) hd (kk p l e s m args below meth c D T ad A F H locs larr hP hS hL)

theorem r_iret {x : Int32} (hr : M.2.2.2.1 = some .int) (hd : decode M.2.1 pc = .ok (.ireturn, 1)) (hp : Post (some (.int x)) σ) : Rn w M pc ls [.int x] σ Post := by
  intro p l e s m args below meth c D T ad A F H locs larr hP hS hL
  exact W.iret F.1 F.2.1 (F.2.2.1.trans hr) (fun t ht hW => ⟨⟨some (.int x), σ, rfl, hp, by rw [ht]; exact hP, va_K.moved hW.alike F.2.2.2.2.2.2.2.1, F.2.2.2.2.2.2.2.2.1, by rw [ht]; exact rl_Z.go hW.alike F.2.2.2.2.2.2.2.2.2 hS.2.1⟩, hS.F ht⟩) hS.2.2 hd F.2.2.2.2.2.1

theorem r_zret {x : Int32} (hr : M.2.2.2.1 = some .boolean) (hd : decode M.2.1 pc = .ok (.ireturn, 1)) (hn : narrow .boolean (.int x) = .int x) (hp : Post (some (.int x)) σ) : Rn w M pc ls [.int x] σ Post := by
  intro p l e s m args below meth c D T ad A F H locs larr hP hS hL
  exact W.zret F.1 F.2.1 (F.2.2.1.trans hr) hn (fun t ht hW => ⟨⟨some (.int x), σ, rfl, hp, by rw [ht]; exact hP, va_K.moved hW.alike F.2.2.2.2.2.2.2.1, F.2.2.2.2.2.2.2.2.1, by rw [ht]; exact rl_Z.go hW.alike F.2.2.2.2.2.2.2.2.2 hS.2.1⟩, hS.F ht⟩) hS.2.2 hd F.2.2.2.2.2.1

theorem r_lret {x : Int64} (hr : M.2.2.2.1 = some .long) (hd : decode M.2.1 pc = .ok (.lreturn, 1)) (hp : Post (some (.long x)) σ) : Rn w M pc ls [.long x] σ Post := by
  intro p l e s m args below meth c D T ad A F H locs larr hP hS hL
  exact W.lret F.1 F.2.1 (F.2.2.1.trans hr) (fun t ht hW => ⟨⟨some (.long x), σ, rfl, hp, by rw [ht]; exact hP, va_K.moved hW.alike F.2.2.2.2.2.2.2.1, F.2.2.2.2.2.2.2.2.1, by rw [ht]; exact rl_Z.go hW.alike F.2.2.2.2.2.2.2.2.2 hS.2.1⟩, hS.F ht⟩) hS.2.2 hd F.2.2.2.2.2.1

theorem r_vret (hr : M.2.2.2.1 = none) (hd : decode M.2.1 pc = .ok (.return_, 1)) (hp : Post (none) σ) : Rn w M pc ls [] σ Post := by
  intro p l e s m args below meth c D T ad A F H locs larr hP hS hL
  exact W.vret F.1 F.2.1 (F.2.2.1.trans hr) (fun t ht hW => ⟨⟨none, σ, rfl, hp, by rw [ht]; exact hP, va_K.moved hW.alike F.2.2.2.2.2.2.2.1, F.2.2.2.2.2.2.2.2.1, by rw [ht]; exact rl_Z.go hW.alike F.2.2.2.2.2.2.2.2.2 hS.2.1⟩, hS.F ht⟩) hS.2.2 hd F.2.2.2.2.2.1

theorem r_aret {x : Nat} {C : String} (hr : M.2.2.2.1 = some (.object C)) (hd : decode M.2.1 pc = .ok (.areturn, 1)) (hp : Post (some (.ref x)) σ) : Rn w M pc ls [.ref x] σ Post := by
  intro p l e s m args below meth c D T ad A F H locs larr hP hS hL
  exact W.aret F.1 F.2.1 (F.2.2.1.trans hr) (Or.inl ⟨_, rfl⟩) (Or.inr ⟨_, rfl⟩) (fun t ht hW => ⟨⟨some (.ref x), σ, rfl, hp, by rw [ht]; exact hP, va_K.moved hW.alike F.2.2.2.2.2.2.2.1, F.2.2.2.2.2.2.2.2.1, by rw [ht]; exact rl_Z.go hW.alike F.2.2.2.2.2.2.2.2.2 hS.2.1⟩, hS.F ht⟩) hS.2.2 hd F.2.2.2.2.2.1

theorem r_aretN {C : String} (hr : M.2.2.2.1 = some (.object C)) (hd : decode M.2.1 pc = .ok (.areturn, 1)) (hp : Post (some .null) σ) : Rn w M pc ls [.null] σ Post := by
  intro p l e s m args below meth c D T ad A F H locs larr hP hS hL
  exact W.aret F.1 F.2.1 (F.2.2.1.trans hr) (Or.inl ⟨_, rfl⟩) (Or.inl rfl) (fun t ht hW => ⟨⟨some .null, σ, rfl, hp, by rw [ht]; exact hP, va_K.moved hW.alike F.2.2.2.2.2.2.2.1, F.2.2.2.2.2.2.2.2.1, by rw [ht]; exact rl_Z.go hW.alike F.2.2.2.2.2.2.2.2.2 hS.2.1⟩, hS.F ht⟩) hS.2.2 hd F.2.2.2.2.2.1

theorem rl_go {Post' : Option Value → rl_S → Prop} {p : Program} {l : Launch} {e : Env} {s : State} {m : MethodId} {args : Array Value} {below : List Frame} {meth : Method} {c : Code} {D : va_G} {T : Nat → ClassId} {ad : Nat → Nat} {A : Nat → Prop} (F : rl_F w M p s m args meth c D T ad A) {H : Heap} {locs : List Loc} {larr : Array Slot} (hS : va_S A s.heap H locs) (hL : rl_L larr M.2.2.1 ad ls) {st0 : List Value} {av : Array Value}
    (run : va_Run p l e (rl_R M.2.2.2.2) s m args below meth c H locs 0 0 0 0 (F0 m pc larr st0) (st.map (rcv ad)) (rl_Q w D T ad A Post' av) A)
    (kk : ∀ r σ1, Post' r σ1 → Rn w M (pc + 3) ls (r.toList ++ st) σ1 Post) :
    W p l e (rl_R M.2.2.2.2) s m args below meth c H locs 0 0 (MQ below (rl_Q w D T ad A Post) args s 0 0 A) (F0 m pc larr st0) := by
  intro U hU X
  obtain ⟨v, st₀, t, U', L, h0, X', hL', e1, e2, ⟨⟨r, σ1, hv, hp, hw1⟩, hz, hk⟩, stp⟩ := run U hU X
  cases hv
  rw [h0] at hz hk
  have hw2 : va_P D vwCl (rl_w w T ad σ1) U'.heap := by rw [e1]; exact hw1.1
  have hS1 : va_S A s.heap U'.heap (locs ++ L) := ⟨Nat.le_trans hS.1 (by rw [e1]; exact hz), fun q h1 h2 => by rw [e1, hk q (Nat.lt_of_lt_of_le h1 hS.1) h2]; exact hS.2.1 q h1 h2, fun q hq => by
    rcases List.mem_append.mp hq with h | h
    · exact hS.2.2 q h
    · exact hL' q h⟩
  obtain ⟨t2, a1, b1⟩ := kk r σ1 hp p l e s m args below meth c D T ad A F U'.heap (locs ++ L) larr hw2 hS1 hL U' rfl X'
  refine ⟨t2, stp t2 ?_, b1⟩
  have he : (r.map (rcv ad)).toList ++ st.map (rcv ad) = (r.toList ++ st).map (rcv ad) := by cases r <;> simp
  rw [he]
  exact a1

theorem rl_blind {w : rl_W} {D : va_G} {T : Nat → ClassId} {ad : Nat → Nat} {A : Nat → Prop} {σ : rl_S} (av : List Value) : FrameBlind (va_Pc av (fun U => rl_H w D T ad A σ U)) := fun a U g mk q =>
  ⟨q.1, q.2.1, va_K.moved (u := U) (U := U.calling g mk a) (Vm.Alike.refl U.vm) q.2.2.1, q.2.2.2.1, rl_Z.go (u := U) (U := U.calling g mk a) (Vm.Alike.refl U.vm) q.2.2.2.2 (fun _ _ _ => rfl)⟩

set_option maxHeartbeats 1000000 in
theorem r_callV {M' : rl_M} {k ci idx n : Nat} {as stk : List Value} {fs : List (Option Value)} {Post' : Option Value → rl_S → Prop} (hct : Ct w M' (.ref k :: as) σ Post') (hv : rl_CV M.1.cls idx M' n) (hd : decode M.2.1 pc = .ok (.invokevirtual idx, 3)) (hk : k < w.1) (hw : w.2.1 k = .inr (.inl (ci, fs))) (hcl : ∃ T N, vwCl[ci]? = some (M'.1.cls, T, N)) (hdep : M'.2.2.2.2 + 1 ≤ M.2.2.2.2) (hml : M'.2.2.1 ≤ 13) (hn : as.length = n) (hst : stk = as.reverse ++ .ref k :: st) (hr : (st.map fun v => v.category).sum ≤ 8)
    (kk : ∀ r σ1, Post' r σ1 → Rn w M (pc + 3) ls (r.toList ++ st) σ1 Post) : Rn w M pc ls stk σ Post := by
  intro p l e s m args below meth c D T ad A F H locs larr hP hS hL
  obtain ⟨hc1, hlk, hin, hse, hini, hpl, hpd⟩ := hv
  obtain ⟨T0, N0, hcl⟩ := hcl
  have hb : ∀ {q : Cond}, q ∈ rl_T → q.before args s = true := fun h => F.2.2.2.1 _ (List.mem_cons_of_mem _ h)
  have he := rl_w_get w T ad σ hk
  rw [rl_c_ob hw] at he
  have hs : ((st.map (rcv ad)).map fun v => v.category).sum = (st.map fun v => v.category).sum := by simp [List.map_map, Function.comp_def, rcv_cat]
  have cw : CallW (rl_R M.2.2.2.2) s args M.1.cls M'.1.cls idx M'.1 M'.2.1 M'.2.2.1 M'.2.2.2.1 (rl_ws M') (rl_R M'.2.2.2.2) 0 0 n :=
    ⟨callB_of n F.2.2.2.1 (rl_goodM hc1) rfl rfl rfl (hb hini) (hb hlk) ⟨hpl.1, hpl.2, hpd⟩ ⟨hdep, by show 8 + (_ + 11) + 32 * M'.2.2.2.2 ≤ 32 * M.2.2.2.2; omega⟩, hb hin, hb hse⟩
  have run := va_runV (p := p) (l := l) (e := e) (R := rl_R M.2.2.2.2) (s := s) (m := m) (args := args) (below := below) (meth := meth) (c := c) (H := H) (locs := locs) (cells := 0) (slots := 0) (g := F0 m pc larr ((as.map (rcv ad)).reverse ++ .ref (ad k) :: st.map (rcv ad))) (rest := st.map (rcv ad)) (As := as.map (rcv ad)) (nL := M.2.2.1) (Ts := rl_ws M)
    ⟨F.1, F.2.1, F.2.2.2.2.2.2.1, F.2.2.2.2.1, F.2.2.2.1⟩ (hct l D T ad A) cw
    ⟨rl_blind _, va_recv F.2.2.2.2.2.2.2.1 hP hcl he, fun U hU hW => ⟨rfl, by rw [hU]; exact hP, va_K.moved hW.alike F.2.2.2.2.2.2.2.1, F.2.2.2.2.2.2.2.2.1, by rw [hU]; exact rl_Z.go hW.alike F.2.2.2.2.2.2.2.2.2 hS.2.1⟩⟩
    rfl (by rw [List.length_map]; exact hn) hL.1 rfl (lv_room (by rw [hs]; exact hr)) hd ⟨Nat.le_refl _, Nat.le_refl _⟩
  have := rl_go F hS hL run kk
  rw [hst]
  simpa only [List.map_append, List.map_reverse, List.map_cons, rcv] using this

set_option maxHeartbeats 1000000 in
theorem r_callS {M' : rl_M} {idx n : Nat} {as stk : List Value} {Post' : Option Value → rl_S → Prop} (hct : Ct w M' as σ Post') (hv : rl_CS M.1.cls idx M' n) (hd : decode M.2.1 pc = .ok (.invokestatic idx, 3)) (hdep : M'.2.2.2.2 + 1 ≤ M.2.2.2.2) (hml : M'.2.2.1 ≤ 13) (hn : as.length = n) (hst : stk = as.reverse ++ st) (hr : (st.map fun v => v.category).sum ≤ 8)
    (kk : ∀ r σ1, Post' r σ1 → Rn w M (pc + 3) ls (r.toList ++ st) σ1 Post) : Rn w M pc ls stk σ Post := by
  intro p l e s m args below meth c D T ad A F H locs larr hP hS hL
  obtain ⟨hc1, hlk, hsta, hini, hpl, hpd⟩ := hv
  have hb : ∀ {q : Cond}, q ∈ rl_T → q.before args s = true := fun h => F.2.2.2.1 _ (List.mem_cons_of_mem _ h)
  have hs : ((st.map (rcv ad)).map fun v => v.category).sum = (st.map fun v => v.category).sum := by simp [List.map_map, Function.comp_def, rcv_cat]
  have cb : CallB (rl_R M.2.2.2.2) s args M.1.cls idx M'.1 M'.2.1 M'.2.2.1 M'.2.2.2.1 (rl_ws M') (rl_R M'.2.2.2.2) 0 0 n :=
    callB_of n F.2.2.2.1 (rl_goodM hc1) rfl rfl rfl (hb hini) (hb hlk) ⟨hpl.1, hpl.2, hpd⟩ ⟨hdep, by show 8 + (_ + 11) + 32 * M'.2.2.2.2 ≤ 32 * M.2.2.2.2; omega⟩
  have run := va_runS (p := p) (l := l) (e := e) (R := rl_R M.2.2.2.2) (s := s) (m := m) (args := args) (below := below) (meth := meth) (c := c) (H := H) (locs := locs) (cells := 0) (slots := 0) (g := F0 m pc larr ((as.map (rcv ad)).reverse ++ st.map (rcv ad))) (rest := st.map (rcv ad)) (As := as.map (rcv ad)) (nL := M.2.2.1) (Ts := rl_ws M)
    ⟨F.1, F.2.1, F.2.2.2.2.2.2.1, F.2.2.2.2.1, F.2.2.2.1⟩ (hct l D T ad A) ⟨cb, hb hsta⟩
    ⟨rl_blind _, fun U hU hW => ⟨rfl, by rw [hU]; exact hP, va_K.moved hW.alike F.2.2.2.2.2.2.2.1, F.2.2.2.2.2.2.2.2.1, by rw [hU]; exact rl_Z.go hW.alike F.2.2.2.2.2.2.2.2.2 hS.2.1⟩⟩
    rfl (by rw [List.length_map]; exact hn) hL.1 rfl (lv_room (by rw [hs]; exact hr)) hd ⟨Nat.le_refl _, Nat.le_refl _⟩
  have := rl_go F hS hL run kk
  rw [hst]
  simpa only [List.map_append, List.map_reverse] using this

end RL
