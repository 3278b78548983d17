theorem zin_LEAST : ("RopeLadder$Settings", "LEAST", 30, 12, fun j => iI (zLEAST j)) ∈ cW.2.2.2 := List.mem_cons_self
theorem zin_MOST : ("RopeLadder$Settings", "MOST", 31, 12, fun j => iI (zMOST j)) ∈ cW.2.2.2 := List.mem_cons_of_mem _ List.mem_cons_self
theorem zin_TENTHS : ("RopeLadder", "DIGEST_TENTHS", 32, 5, fun j => iI (zTENTHS j)) ∈ cW.2.2.2 := List.mem_cons_of_mem _ (List.mem_cons_of_mem _ List.mem_cons_self)
section RM
variable {w : rl_W} {M : rl_M} {pc : Nat} {ls st : List Value} {σ : rl_S} {Post : Option Value → rl_S → Prop}
theorem i_ldc {n : Nat} {v : Int32} (hw : Cond.constant M.1.cls n v ∈ rl_T) (hd : decode M.2.1 pc = .ok (.ldc n, 2)) (kk : Rn w M (pc + 2) ls (.int (iI v.toInt) :: st) σ Post) : Rn w M pc ls st σ Post := r_ldc hd hw (by rw [iI_of] at kk; exact kk)
theorem i_ldcw {n : Nat} {v : Int32} (hw : Cond.constant M.1.cls n v ∈ rl_T) (hd : decode M.2.1 pc = .ok (.ldc_w n, 3)) (kk : Rn w M (pc + 3) ls (.int (iI v.toInt) :: st) σ Post) : Rn w M pc ls st σ Post := r_ldcw hd hw (by rw [iI_of] at kk; exact kk)
theorem i_mmin {a b : Int} {idx : Nat} (hw : Cond.methodLink M.1.cls idx Lib.Math.min.name ∈ rl_T ∧ Cond.static Lib.Math.min.name ∈ rl_T ∧ Cond.initialized "java/lang/Math" ∈ rl_T ∧ Cond.code Lib.Math.min.name Lib.Math.min.code 2 (some .int) ∈ rl_T) (hd : decode M.2.1 pc = .ok (.invokestatic idx, 3)) (hd1 : 1 ≤ M.2.2.2.2) (hr : (st.map fun v => v.category).sum ≤ 8) (ha : -2147483648 ≤ a ∧ a < 2147483648) (hb : -2147483648 ≤ b ∧ b < 2147483648) (kk : Rn w M (pc + 3) ls (.int (iI (min a b)) :: st) σ Post) : Rn w M pc ls (.int (iI b) :: .int (iI a) :: st) σ Post := by
  refine r_mmin hw hd hd1 hr ?_
  have : (if iI b < iI a then iI b else iI a) = iI (min a b) := by
    by_cases h : b < a
    · rw [if_pos ((iI_lt hb ha).mpr h)]; congr 1; omega
    · rw [if_neg (fun z => h ((iI_lt hb ha).mp z))]; congr 1; omega
  rw [this]; exact kk
theorem i_mmax {a b : Int} {idx : Nat} (hw : Cond.methodLink M.1.cls idx Lib.Math.max.name ∈ rl_T ∧ Cond.static Lib.Math.max.name ∈ rl_T ∧ Cond.initialized "java/lang/Math" ∈ rl_T ∧ Cond.code Lib.Math.max.name Lib.Math.max.code 2 (some .int) ∈ rl_T) (hd : decode M.2.1 pc = .ok (.invokestatic idx, 3)) (hd1 : 1 ≤ M.2.2.2.2) (hr : (st.map fun v => v.category).sum ≤ 8) (ha : -2147483648 ≤ a ∧ a < 2147483648) (hb : -2147483648 ≤ b ∧ b < 2147483648) (kk : Rn w M (pc + 3) ls (.int (iI (max a b)) :: st) σ Post) : Rn w M pc ls (.int (iI b) :: .int (iI a) :: st) σ Post := by
  refine r_mmax hw hd hd1 hr ?_
  have : (if iI a < iI b then iI b else iI a) = iI (max a b) := by
    by_cases h : a < b
    · rw [if_pos ((iI_lt ha hb).mpr h)]; congr 1; omega
    · rw [if_neg (fun z => h ((iI_lt ha hb).mp z))]; congr 1; omega
  rw [this]; exact kk
theorem i_mabs {a : Int} {idx : Nat} (hw : Cond.methodLink M.1.cls idx Lib.Math.abs.name ∈ rl_T ∧ Cond.static Lib.Math.abs.name ∈ rl_T ∧ Cond.initialized "java/lang/Math" ∈ rl_T ∧ Cond.code Lib.Math.abs.name Lib.Math.abs.code 1 (some .int) ∈ rl_T) (hd : decode M.2.1 pc = .ok (.invokestatic idx, 3)) (hd1 : 1 ≤ M.2.2.2.2) (hr : (st.map fun v => v.category).sum ≤ 8) (ha : -2147483648 ≤ a ∧ a < 2147483648) (kk : Rn w M (pc + 3) ls (.int (iI (max a (-a))) :: st) σ Post) : Rn w M pc ls (.int (iI a) :: st) σ Post := by
  refine r_mabs hw hd hd1 hr ?_
  have h0 : (0 : Int32) = iI 0 := rfl
  have : (if 0 ≤ iI a then iI a else 0 - iI a) = iI (max a (-a)) := by
    by_cases h : 0 ≤ a
    · rw [if_pos (by rw [h0]; exact (iI_le (by decide) ha).mpr h)]; congr 1; omega
    · rw [if_neg (by rw [h0]; exact fun z => h ((iI_le (by decide) ha).mp z)), h0, iI_sub]; congr 1; omega
  rw [this]; exact kk
end RM
/-! what the document asks, over integers: the sea -/
def tri (x l : Int) : Int := min x (l - x)
def mv (h : Int → Int) (t : Int) : Int := if t ≤ 0 ∨ 399 ≤ t then 0 else if h (t + 1) < h t then (if h (t - 1) ≤ h t then 1 else 3) else if h t < h (t + 1) then 2 else 0
theorem mv_bd (h : Int → Int) (t : Int) : 0 ≤ mv h t ∧ mv h t ≤ 3 := by
  unfold mv
  repeat' split
  all_goals decide
def cr (h : Int → Int) : Nat → Int → Int → Int
  | 0, _, _ => -1
  | n + 1, t, k => if mv h t = 1 then (if k = 1 then t else cr h n (t + 1) (k - 1)) else cr h n (t + 1) k
def cF (h : Int → Int) (t k : Int) : Int := cr h (400 - t).toNat t k
theorem cr_bd (h : Int → Int) : ∀ (n : Nat) (t k : Int), cr h n t k = -1 ∨ (t ≤ cr h n t k ∧ cr h n t k < t + n)
  | 0, t, k => Or.inl rfl
  | n + 1, t, k => by
    have i1 := cr_bd h n (t + 1) (k - 1)
    have i2 := cr_bd h n (t + 1) k
    simp only [cr]
    split
    · split
      · right; omega
      · omega
    · omega
theorem cF_bd (h : Int → Int) {t : Int} (k : Int) (h0 : 0 ≤ t) (h1 : t ≤ 400) : cF h t k = -1 ∨ (t ≤ cF h t k ∧ cF h t k < 400) := by
  have := cr_bd h (400 - t).toNat t k
  unfold cF
  omega
def sv (h : Int → Int) : Nat → Int → Int → Int → Int → Int
  | 0, _, _, place, _ => place
  | m + 1, k, t, place, hi => if t = -1 then place else if place = -1 ∨ hi < h t then sv h m (k + 1) (cF h (t + 1) 1) k (h t) else sv h m (k + 1) (cF h (t + 1) 1) place hi
def cnt (h : Int → Int) : Nat → Int → Int
  | 0, _ => 0
  | n + 1, t => (if mv h t = 1 then 1 else 0) + cnt h n (t + 1)
theorem cnt_bd (h : Int → Int) : ∀ (n : Nat) (t : Int), 0 ≤ cnt h n t ∧ cnt h n t ≤ n
  | 0, t => by simp [cnt]
  | n + 1, t => by
    have := cnt_bd h n (t + 1)
    simp only [cnt]
    split <;> omega
/-- least and greatest of n + 1 heights from a on -/
def lo (h : Int → Int) : Nat → Int → Int
  | 0, a => h a
  | n + 1, a => min (lo h n a) (h (a + (n + 1 : Nat)))
def hg (h : Int → Int) : Nat → Int → Int
  | 0, a => h a
  | n + 1, a => max (hg h n a) (h (a + (n + 1 : Nat)))
def spr (h : Int → Int) (n : Nat) (a : Int) : Int := hg h n a - lo h n a
theorem lo_mono (h : Int → Int) (a : Int) : ∀ (n m : Nat), lo h (n + m) a ≤ lo h n a
  | n, 0 => Int.le_refl _
  | n, m + 1 => by
    have := lo_mono h a n m
    show min (lo h (n + m) a) _ ≤ _
    omega
theorem hg_mono (h : Int → Int) (a : Int) : ∀ (n m : Nat), hg h n a ≤ hg h (n + m) a
  | n, 0 => Int.le_refl _
  | n, m + 1 => by
    have := hg_mono h a n m
    show _ ≤ max (hg h (n + m) a) _
    omega
theorem spr_mono (h : Int → Int) (a : Int) (n m : Nat) : spr h n a ≤ spr h (n + m) a := by
  have := lo_mono h a n m
  have := hg_mono h a n m
  unfold spr
  omega
/-- heights as they are kept: of 400 tenths, each from 0 to 3000 -/
def HB (h : Int → Int) : Prop := ∀ z : Int, 0 ≤ z → z < 400 → 0 ≤ h z ∧ h z ≤ 3000
theorem lo_bd {h : Int → Int} (hb : HB h) : ∀ (n : Nat) (a : Int), 0 ≤ a → a + n < 400 → 0 ≤ lo h n a ∧ lo h n a ≤ 3000
  | 0, a, h0, h1 => hb a h0 (by omega)
  | n + 1, a, h0, h1 => by
    have := lo_bd hb n a h0 (by omega)
    have := hb (a + (n + 1 : Nat)) (by omega) (by omega)
    simp only [lo]
    omega
theorem hg_bd {h : Int → Int} (hb : HB h) : ∀ (n : Nat) (a : Int), 0 ≤ a → a + n < 400 → 0 ≤ hg h n a ∧ hg h n a ≤ 3000
  | 0, a, h0, h1 => hb a h0 (by omega)
  | n + 1, a, h0, h1 => by
    have := hg_bd hb n a h0 (by omega)
    have := hb (a + (n + 1 : Nat)) (by omega) (by omega)
    simp only [hg]
    omega
theorem lo_hg (h : Int → Int) : ∀ (n : Nat) (a : Int), lo h n a ≤ hg h n a
  | 0, a => Int.le_refl _
  | n + 1, a => by
    have := lo_hg h n a
    simp only [lo, hg]
    omega
/-- the greatest height not above a limit, from acc on -/
def gh (h : Int → Int) (lim : Int) : Nat → Int → Int → Int
  | 0, _, acc => acc
  | n + 1, t, acc => gh h lim n (t + 1) (if h t ≤ lim ∧ acc < h t then h t else acc)
theorem gh_bd {h : Int → Int} (hb : HB h) (lim : Int) : ∀ (n : Nat) (t acc : Int), 0 ≤ t → t + n ≤ 400 → 0 ≤ acc → acc ≤ 3000 → 0 ≤ gh h lim n t acc ∧ gh h lim n t acc ≤ 3000
  | 0, t, acc, h0, h1, h2, h3 => ⟨h2, h3⟩
  | n + 1, t, acc, h0, h1, h2, h3 => by
    have := hb t h0 (by omega)
    simp only [gh]
    split
    · exact gh_bd hb lim n (t + 1) _ (by omega) (by omega) (by omega) (by omega)
    · exact gh_bd hb lim n (t + 1) _ (by omega) (by omega) (by omega) (by omega)
def mxU (f : Int → Int) : Nat → Int → Int → Int
  | 0, _, acc => acc
  | n + 1, t, acc => mxU f n (t + 1) (max acc (f t))
theorem mxU_bd {h : Int → Int} (hb : HB h) : ∀ (n : Nat) (t acc : Int), 0 ≤ t → t + n ≤ 400 → 0 ≤ acc → acc ≤ 3000 → 0 ≤ mxU h n t acc ∧ mxU h n t acc ≤ 3000
  | 0, t, acc, h0, h1, h2, h3 => ⟨h2, h3⟩
  | n + 1, t, acc, h0, h1, h2, h3 => by
    have := hb t h0 (by omega)
    simp only [mxU]
    exact mxU_bd hb n (t + 1) _ (by omega) (by omega) (by omega) (by omega)
theorem gh_mxU {h : Int → Int} (hb : HB h) {lim : Int} (hl : 3000 ≤ lim) : ∀ (n : Nat) (t acc : Int), 0 ≤ t → t + n ≤ 400 → gh h lim n t acc = mxU h n t acc
  | 0, t, acc, h0, h1 => rfl
  | n + 1, t, acc, h0, h1 => by
    have := hb t h0 (by omega)
    simp only [gh, mxU]
    rw [gh_mxU hb hl n (t + 1) _ (by omega) (by omega)]
    congr 1
    split <;> omega
/-- lulls: the first of the least, s the spread from a tenth on -/
def lu (s : Int → Int) : Nat → Int → Int → Int → Int × Int
  | 0, _, b, l => (b, l)
  | n + 1, t, b, l => if b = -1 ∨ s t < l then lu s n (t + 1) t (s t) else lu s n (t + 1) b l
/-- heights by the swells: H heights, L lengths, P begins -/
def rawU (H L P : Int → Int) (t : Int) : Nat → Int
  | 0 => 0
  | n + 1 => rawU H L P t n + H n * tri ((t + P n) % L n) (L n)
def hiF (r : Int → Int) (a m : Int) (t : Int) : Int := if a ≤ t ∧ t < a + m then r t / 2 else r t
