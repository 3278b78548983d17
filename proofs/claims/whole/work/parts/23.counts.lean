/-! counts and the digest -/
def q_count (M : rl_S) (w : Int) : Int := if w = 0 then nS M else if w = 1 then M 1 0 else if w = 2 then M 1 1 else if w = 3 then sm (hS M) (nS M).toNat else if w = 4 then cnt (hi M) 400 0 else if w = 5 then M 0 12 else if w = 6 then M 6 0 else if w = 7 then mxU (hi M) 400 0 0 else if w = 8 then M 0 21 else -2
def dI (h : Int64) (x : Int) : Int64 := 31 * h + (iI x).toInt64
def dL (h x : Int64) : Int64 := 31 * h + x
def tD (M : rl_S) (h : Int64) (t : Int) : Int64 :=
  dI (dI (dI (dI (dI (dL (dL (dI (dI (dI (dI (dI (dI (dI (dI (dI (dI (dI h (q_high M t)) (q_does M t)) (q_leans M t)) (q_crest M t 2)) (q_seventh M t)) (q_lull M t 20 0)) (q_lull M t 20 1)) (q_step M t)) (q_fall M t)) (q_climb M t)) (q_bangs M t)) (q_safe M t 0)) (q_safe M t 1)) (q_best M t 30)) (q_call M t 30)) (q_down M t 30 0)) (q_down M t 30 1)) (q_ladder M t 30)
def dC (M : rl_S) : Nat → Int → Int64 → Int64
  | 0, _, h => h
  | n + 1, w, h => dC M n (w + 1) (dI h (q_count M w))
def dS (M : rl_S) : Nat → Int → Int64 → Int64
  | 0, _, h => h
  | n + 1, s, h => dS M n (s + 1) (dI (dI (dI (dI h (hS M s)) (lS M s)) (q_learn M s (-1))) (q_learn M s 0))
def dT (M : rl_S) : Nat → Nat → Int64 → Int64
  | 0, _, h => h
  | n + 1, i, h => dT M n (i + 1) (tD M h (zTENTHS i))
def q_digest (M : rl_S) : Int64 := dI (dI (dT M 5 0 (dI (dI (dS M (nS M).toNat 0 (dI (dI (dC M 8 0 17) (q_fault M 0)) (q_fault M 1))) (q_roll M 0)) (q_roll M 1))) (q_saves M)) (q_night M 7 5)
theorem zT_bd : ∀ j, j < 5 → 0 ≤ zTENTHS j ∧ zTENTHS j ≤ 399 := by decide
theorem hS_b6 {M : rl_S} (hw : WF M) : B6 (hS M) := fun z z0 z1 => by
  have := hF_bd (b := b0 M) (m := 6) hw.1.1 z0
  unfold hS nS
  omega
