/-! how long the ladder is best: f the foot, r the arm -/
def tau (h : Int → Int) (r f x : Int) : Int := if r < f - h x then 1000 else if f < h x then 1 else 0
def byF (h : Int → Int) (r f : Int) : Nat → Int → Int
  | 0, _ => 0
  | n + 1, x => tau h r f x + byF h r f n (x + 1)
theorem tau_bd (h : Int → Int) (r f x : Int) : 0 ≤ tau h r f x ∧ tau h r f x ≤ 1000 := by
  unfold tau
  repeat' split
  all_goals decide
theorem byF_bd (h : Int → Int) (r f : Int) : ∀ (n : Nat) (x : Int), 0 ≤ byF h r f n x ∧ byF h r f n x ≤ 1000 * n
  | 0, x => by simp [byF]
  | n + 1, x => by
    have := byF_bd h r f n (x + 1)
    have := tau_bd h r f x
    simp only [byF]
    omega
theorem byF_le {h : Int → Int} {r f g : Int} : ∀ (n : Nat) (x : Int), (∀ y, x ≤ y → y < x + n → tau h r f y ≤ tau h r g y) → byF h r f n x ≤ byF h r g n x
  | 0, x, _ => Int.le_refl _
  | n + 1, x, H => by
    have i := byF_le n (x + 1) (fun y y0 y1 => H y (by omega) (by omega))
    have := H x (by omega) (by omega)
    simp only [byF]
    omega
theorem byF_lt {h : Int → Int} {r f g : Int} : ∀ (n : Nat) (x : Int), (∀ y, x ≤ y → y < x + n → tau h r f y ≤ tau h r g y) → (∃ y, x ≤ y ∧ y < x + n ∧ tau h r f y < tau h r g y) → byF h r f n x < byF h r g n x
  | 0, x, _, ⟨y, a, b, _⟩ => by omega
  | n + 1, x, H, ⟨y, a, b, q⟩ => by
    have h1 := H x (by omega) (by omega)
    simp only [byF]
    by_cases e : y = x
    · subst e
      have i := byF_le n (y + 1) (fun z z0 z1 => H z (by omega) (by omega))
      omega
    · have i := byF_lt n (x + 1) (fun z z0 z1 => H z (by omega) (by omega)) ⟨y, by omega, by omega, q⟩
      omega
theorem byF_n {h : Int → Int} {r f : Int} : ∀ (n : Nat) (x : Int), (∀ y, x ≤ y → y < x + n → f - h y ≤ r) → byF h r f n x ≤ n
  | 0, x, _ => by simp [byF]
  | n + 1, x, H => by
    have i := byF_n n (x + 1) (fun y y0 y1 => H y (by omega) (by omega))
    have h1 := H x (by omega) (by omega)
    have e : tau h r f x ≤ 1 := by unfold tau; rw [if_neg (by omega)]; split <;> decide
    simp only [byF]
    omega
theorem byF_k {h : Int → Int} {r f : Int} : ∀ (n : Nat) (x : Int), (∃ y, x ≤ y ∧ y < x + n ∧ r < f - h y) → 1000 ≤ byF h r f n x
  | 0, x, ⟨y, a, b, _⟩ => by omega
  | n + 1, x, ⟨y, a, b, q⟩ => by
    simp only [byF]
    by_cases e : y = x
    · subst e
      have e : tau h r f y = 1000 := by unfold tau; rw [if_pos q]
      have := byF_bd h r f n (y + 1)
      omega
    · have i := byF_k n (x + 1) ⟨y, by omega, by omega, q⟩
      have := tau_bd h r f x
      omega
theorem gh_sp (h : Int → Int) (lim : Int) : ∀ (n : Nat) (t acc : Int), acc ≤ gh h lim n t acc ∧ (∀ y, t ≤ y → y < t + n → h y ≤ lim → h y ≤ gh h lim n t acc) ∧ (gh h lim n t acc = acc ∨ ∃ y, t ≤ y ∧ y < t + n ∧ h y = gh h lim n t acc ∧ h y ≤ lim)
  | 0, t, acc => ⟨Int.le_refl _, fun y a b _ => by omega, Or.inl rfl⟩
  | n + 1, t, acc => by
    simp only [gh]
    by_cases q : h t ≤ lim ∧ acc < h t
    · rw [if_pos q]
      obtain ⟨i1, i2, i3⟩ := gh_sp h lim n (t + 1) (h t)
      refine ⟨by omega, fun y a b c => ?_, ?_⟩
      · by_cases e : y = t
        · subst e; exact i1
        · exact i2 y (by omega) (by omega) c
      · rcases i3 with i3 | ⟨y, a, b, c⟩
        · exact Or.inr ⟨t, by omega, by omega, i3.symm, q.1⟩
        · exact Or.inr ⟨y, by omega, by omega, c⟩
    · rw [if_neg q]
      obtain ⟨i1, i2, i3⟩ := gh_sp h lim n (t + 1) acc
      refine ⟨i1, fun y a b c => ?_, ?_⟩
      · by_cases e : y = t
        · subst e; omega
        · exact i2 y (by omega) (by omega) c
      · rcases i3 with i3 | ⟨y, a, b, c⟩
        · exact Or.inl i3
        · exact Or.inr ⟨y, by omega, by omega, c⟩
theorem lo_sp (h : Int → Int) (a : Int) : ∀ n : Nat, (∀ y, a ≤ y → y ≤ a + n → lo h n a ≤ h y) ∧ ∃ y, a ≤ y ∧ y ≤ a + n ∧ h y = lo h n a
  | 0 => ⟨fun y y0 y1 => by rw [show y = a by omega]; exact Int.le_refl _, a, by omega, by omega, rfl⟩
  | n + 1 => by
    obtain ⟨i1, y, y0, y1, y2⟩ := lo_sp h a n
    have e : lo h (n + 1) a = min (lo h n a) (h (a + (n + 1 : Nat))) := rfl
    refine ⟨fun z z0 z1 => ?_, ?_⟩
    · by_cases q : z = a + (n + 1 : Nat)
      · subst q; omega
      · have := i1 z z0 (by omega)
        omega
    · by_cases q : lo h n a ≤ h (a + (n + 1 : Nat))
      · exact ⟨y, y0, by omega, by omega⟩
      · exact ⟨a + (n + 1 : Nat), by omega, by omega, by omega⟩
/-- the best foot is the first of the least -/
theorem lad_best {h : Int → Int} (hb : HB h) {r a : Int} {n : Nat} (r0 : 0 ≤ r) (a0 : 0 ≤ a) (n0 : 1 ≤ n) (n1 : n ≤ 100) (an : a + n ≤ 400) (G : Int) (hG : G = gh h (min 999 (lo h (n - 1) a + r)) n a 0) : (0 ≤ G ∧ G ≤ 999) ∧ (∀ f, 0 ≤ f → f < G → byF h r G n a < byF h r f n a) ∧ (∀ f, 0 ≤ f → f ≤ 999 → byF h r G n a ≤ byF h r f n a) := by
  obtain ⟨l1, y0, ya, yb, yc⟩ := lo_sp h a (n - 1)
  obtain ⟨g1, g2, g3⟩ := gh_sp h (min 999 (lo h (n - 1) a + r)) n a 0
  have lb := lo_bd hb (n - 1) a a0 (by omega)
  rw [← hG] at g1 g2 g3
  generalize lo h (n - 1) a = L at *
  have gl : G ≤ min 999 (L + r) := by
    rcases g3 with g3 | ⟨y, u1, u2, u3, u4⟩ <;> omega
  have low : ∀ f, 0 ≤ f → f < G → byF h r G n a < byF h r f n a := by
    intro f f0 f1
    refine byF_lt n a (fun y u v => ?_) ?_
    · clear g3
      have := l1 y u (by omega)
      unfold tau
      rw [if_neg (show ¬ r < G - h y by omega), if_neg (show ¬ r < f - h y by omega)]
      split <;> split <;> omega
    · rcases g3 with g3 | ⟨y, u1, u2, u3, u4⟩
      · omega
      · refine ⟨y, u1, u2, ?_⟩
        have := l1 y u1 (by omega)
        unfold tau
        rw [if_neg (by omega), if_neg (by omega), if_neg (by omega), if_pos (by omega)]
        decide
  clear g3
  refine ⟨⟨g1, by omega⟩, low, fun f f0 f1 => ?_⟩
  rcases Int.lt_or_le f G with q | q
  · have := low f f0 q; omega
  · rcases Int.lt_or_le (L + r) f with p | p
    · have k := byF_k (h := h) (r := r) (f := f) n a ⟨y0, ya, by omega, by omega⟩
      have k2 := byF_n (h := h) (r := r) (f := G) n a (fun y u v => by have := l1 y u (by omega); omega)
      omega
    · refine byF_le n a (fun y u v => ?_)
      have := l1 y u (by omega)
      have g4 := g2 y u v
      unfold tau
      rw [if_neg (show ¬ r < G - h y by omega), if_neg (show ¬ r < f - h y by omega)]
      split <;> split <;> omega
theorem m_lad_in (M σ : rl_S) (c : IH M σ) (hw : WF M) (t m b l f e : Int) (t0 : 0 ≤ t ∧ t ≤ 399) (m0 : 1 ≤ m ∧ m ≤ 100) (f0 : 0 ≤ f ∧ f ≤ 999) (he : e = min 400 (t + m)) (Post : Option Value → rl_S → Prop) : ∀ (n : Nat) (x s : Int), x + n = e → 0 ≤ x → (∀ S, S = s + byF (hi M) (M 6 3) f n x → Rn mW mX9_ladderOf 95 [.ref 0, .int (iI t), .int (iI m), .int (iI b), .int (iI l), .int (iI f), .int (iI S), .int (iI e)] [] σ Post) → Rn mW mX9_ladderOf 26 [.ref 0, .int (iI t), .int (iI m), .int (iI b), .int (iI l), .int (iI f), .int (iI s), .int (iI x)] [] σ Post := by
  intro n
  have st := wf_set hw
  have k3 : σ 6 (3 : Int).toNat = M 6 3 := c.1.1.1 6 3 (by decide)
  induction n with
  | zero =>
    intro x s hx x0 K
    have ex : x = e := by omega
    rw [ex]
    have K := K s (by simp [byF])
    refine r_iload dX9_ladderOf_26 rfl ?_
    refine r_iload_n dX9_ladderOf_28 rfl ?_
    refine r_iload_n dX9_ladderOf_29 rfl ?_
    refine i_iadd dX9_ladderOf_30 ?_
    refine i_icmp_ge 95 dX9_ladderOf_31 rfl ⟨by omega, by omega⟩ ⟨by omega, by omega⟩ (fun q31 => ?_) (fun q31 => ?_)
    · skip
      exact K
    · skip
      refine r_iload dX9_ladderOf_34 rfl ?_
      refine i_sipush dX9_ladderOf_36 (by decide) ?_
      refine i_icmp_ge 95 dX9_ladderOf_39 rfl ⟨by omega, by omega⟩ ⟨by omega, by omega⟩ (fun q39 => ?_) (fun q39 => ?_)
      · skip
        exact K
      · exfalso
        omega
  | succ n ih =>
    intro x s hx x0 K
    have b1 := wf_hb hw x x0 (by omega)
    have et : tau (hi M) (M 6 3) f x = if M 6 3 < f - hi M x then 1000 else if f < hi M x then 1 else 0 := rfl
    simp only [byF] at K
    refine r_iload dX9_ladderOf_26 rfl ?_
    refine r_iload_n dX9_ladderOf_28 rfl ?_
    refine r_iload_n dX9_ladderOf_29 rfl ?_
    refine i_iadd dX9_ladderOf_30 ?_
    refine i_icmp_ge 95 dX9_ladderOf_31 rfl ⟨by omega, by omega⟩ ⟨by omega, by omega⟩ (fun q31 => ?_) (fun q31 => ?_)
    · exfalso
      omega
    · skip
      refine r_iload dX9_ladderOf_34 rfl ?_
      refine i_sipush dX9_ladderOf_36 (by decide) ?_
      refine i_icmp_ge 95 dX9_ladderOf_39 rfl ⟨by omega, by omega⟩ ⟨by omega, by omega⟩ (fun q39 => ?_) (fun q39 => ?_)
      · exfalso
        omega
      · skip
        refine r_iload dX9_ladderOf_42 rfl ?_
        refine r_iload dX9_ladderOf_44 rfl ?_
        refine r_aload_n dX9_ladderOf_46 rfl ?_
        refine r_get (k := 0) lfX9_28 dX9_ladderOf_47 (Nat.le_of_ble_eq_true rfl) rfl rfl ?_
        refine r_iload dX9_ladderOf_50 rfl ?_
        refine i_ald (k := 7) dX9_ladderOf_52 (Nat.le_of_ble_eq_true rfl) rfl rfl ⟨by omega, by omega⟩ (by decide) ?_
        rw [c.2 x x0 (by omega)]
        refine i_isub dX9_ladderOf_53 ?_
        refine r_aload_n dX9_ladderOf_54 rfl ?_
        refine r_get (k := 0) lfX9_25 dX9_ladderOf_55 (Nat.le_of_ble_eq_true rfl) rfl rfl ?_
        refine i_const dX9_ladderOf_58 ?_
        refine i_ald (k := 6) dX9_ladderOf_59 (Nat.le_of_ble_eq_true rfl) rfl rfl ⟨by omega, by omega⟩ (by decide) ?_
        rw [k3]
        refine i_icmp_le 69 dX9_ladderOf_60 rfl ⟨by omega, by omega⟩ ⟨by omega, by omega⟩ (fun q60 => ?_) (fun q60 => ?_)
        · skip
          refine r_aload_n dX9_ladderOf_69 rfl ?_
          refine r_get (k := 0) lfX9_28 dX9_ladderOf_70 (Nat.le_of_ble_eq_true rfl) rfl rfl ?_
          refine r_iload dX9_ladderOf_73 rfl ?_
          refine i_ald (k := 7) dX9_ladderOf_75 (Nat.le_of_ble_eq_true rfl) rfl rfl ⟨by omega, by omega⟩ (by decide) ?_
          rw [c.2 x x0 (by omega)]
          refine r_iload dX9_ladderOf_76 rfl ?_
          refine i_icmp_le 85 dX9_ladderOf_78 rfl ⟨by omega, by omega⟩ ⟨by omega, by omega⟩ (fun q78 => ?_) (fun q78 => ?_)
          · skip
            refine i_const dX9_ladderOf_85 ?_
            refine i_iadd dX9_ladderOf_86 ?_
            refine r_istore dX9_ladderOf_87 (Nat.le_of_ble_eq_true rfl) ?_
            refine i_iinc dX9_ladderOf_89 rfl (Nat.le_of_ble_eq_true rfl) ?_
            refine r_goto 26 dX9_ladderOf_92 rfl ?_
            first
              | (rw [if_pos (by omega)] at et; exact ih _ _ (by omega) (by omega) (fun S hS => K S (by omega)))
              | (rw [if_neg (by omega), if_pos (by omega)] at et; exact ih _ _ (by omega) (by omega) (fun S hS => K S (by omega)))
              | (rw [if_neg (by omega), if_neg (by omega)] at et; exact ih _ _ (by omega) (by omega) (fun S hS => K S (by omega)))
          · skip
            refine i_const dX9_ladderOf_81 ?_
            refine r_goto 86 dX9_ladderOf_82 rfl ?_
            refine i_iadd dX9_ladderOf_86 ?_
            refine r_istore dX9_ladderOf_87 (Nat.le_of_ble_eq_true rfl) ?_
            refine i_iinc dX9_ladderOf_89 rfl (Nat.le_of_ble_eq_true rfl) ?_
            refine r_goto 26 dX9_ladderOf_92 rfl ?_
            first
              | (rw [if_pos (by omega)] at et; exact ih _ _ (by omega) (by omega) (fun S hS => K S (by omega)))
              | (rw [if_neg (by omega), if_pos (by omega)] at et; exact ih _ _ (by omega) (by omega) (fun S hS => K S (by omega)))
              | (rw [if_neg (by omega), if_neg (by omega)] at et; exact ih _ _ (by omega) (by omega) (fun S hS => K S (by omega)))
        · skip
          refine i_sipush dX9_ladderOf_63 (by decide) ?_
          refine r_goto 86 dX9_ladderOf_66 rfl ?_
          refine i_iadd dX9_ladderOf_86 ?_
          refine r_istore dX9_ladderOf_87 (Nat.le_of_ble_eq_true rfl) ?_
          refine i_iinc dX9_ladderOf_89 rfl (Nat.le_of_ble_eq_true rfl) ?_
          refine r_goto 26 dX9_ladderOf_92 rfl ?_
          first
            | (rw [if_pos (by omega)] at et; exact ih _ _ (by omega) (by omega) (fun S hS => K S (by omega)))
            | (rw [if_neg (by omega), if_pos (by omega)] at et; exact ih _ _ (by omega) (by omega) (fun S hS => K S (by omega)))
            | (rw [if_neg (by omega), if_neg (by omega)] at et; exact ih _ _ (by omega) (by omega) (fun S hS => K S (by omega)))

theorem m_lad_l (M σ : rl_S) (c : IH M σ) (hw : WF M) (t m : Int) (N : Nat) (t0 : 0 ≤ t ∧ t ≤ 399) (m0 : 1 ≤ m ∧ m ≤ 100) (hN : (N : Int) = min 400 (t + m) - t) (G : Int) (G0 : 0 ≤ G ∧ G ≤ 999) (G1 : ∀ f, 0 ≤ f → f < G → byF (hi M) (M 6 3) G N t < byF (hi M) (M 6 3) f N t) (G2 : ∀ f, 0 ≤ f → f ≤ 999 → byF (hi M) (M 6 3) G N t ≤ byF (hi M) (M 6 3) f N t) : ∀ (n : Nat) (f b l : Int) (l6 l7 : Value), f + n = 1000 → 0 ≤ f → ((f = 0 ∧ b = -1 ∧ l = 0) ∨ (0 ≤ b ∧ b < f ∧ l = byF (hi M) (M 6 3) b N t ∧ (∀ g, 0 ≤ g → g < b → byF (hi M) (M 6 3) b N t < byF (hi M) (M 6 3) g N t) ∧ (∀ g, 0 ≤ g → g < f → byF (hi M) (M 6 3) b N t ≤ byF (hi M) (M 6 3) g N t))) → Rn mW mX9_ladderOf 12 [.ref 0, .int (iI t), .int (iI m), .int (iI b), .int (iI l), .int (iI f), l6, l7] [] σ (pH M G) := by
  intro n
  induction n with
  | zero =>
    intro f b l l6 l7 hf f0 hb
    refine r_iload dX9_ladderOf_12 rfl ?_
    refine i_sipush dX9_ladderOf_14 (by decide) ?_
    refine i_icmp_ge 146 dX9_ladderOf_17 rfl ⟨by omega, by omega⟩ ⟨by omega, by omega⟩ (fun q17 => ?_) (fun q17 => ?_)
    · skip
      refine r_iload_n dX9_ladderOf_146 rfl ?_
      refine r_iret rfl dX9_ladderOf_147 ?_
      refine ⟨_, rfl, ?_, c⟩
      rcases hb with hb | ⟨b0, b1, b2, b3, b4⟩
      · omega
      · rcases Int.lt_trichotomy b G with q | q | q
        · have := G1 b b0 q; have := b4 G (by omega) (by omega); omega
        · exact q
        · have := b3 G (by omega) q; have := G2 b b0 (by omega); omega
    · exfalso
      omega
  | succ n ih =>
    intro f b l l6 l7 hf f0 hb
    have bf := byF_bd (hi M) (M 6 3) f N t
    have bl : 0 ≤ l ∧ l ≤ 100000 := by
      rcases hb with hb | ⟨b0, b1, b2, b3, b4⟩
      · omega
      · have := byF_bd (hi M) (M 6 3) b N t; omega
    have bb : -1 ≤ b ∧ b ≤ 999 := by
      rcases hb with hb | ⟨b0, b1, b2, b3, b4⟩ <;> omega
    refine r_iload dX9_ladderOf_12 rfl ?_
    refine i_sipush dX9_ladderOf_14 (by decide) ?_
    refine i_icmp_ge 146 dX9_ladderOf_17 rfl ⟨by omega, by omega⟩ ⟨by omega, by omega⟩ (fun q17 => ?_) (fun q17 => ?_)
    · exfalso
      omega
    · skip
      refine i_const dX9_ladderOf_20 ?_
      refine r_istore dX9_ladderOf_21 (Nat.le_of_ble_eq_true rfl) ?_
      refine r_iload_n dX9_ladderOf_23 rfl ?_
      refine r_istore dX9_ladderOf_24 (Nat.le_of_ble_eq_true rfl) ?_
      refine m_lad_in M σ c hw t m b l f (min 400 (t + m)) t0 m0 (by omega) rfl _ N t 0 (by omega) (by omega) (fun S hS => ?_)
      rw [Int.zero_add] at hS
      subst hS
      refine r_iload_n dX9_ladderOf_95 rfl ?_
      refine i_const dX9_ladderOf_96 ?_
      refine i_icmp_eq 107 dX9_ladderOf_97 rfl ⟨by omega, by omega⟩ ⟨by omega, by omega⟩ (fun q97 => ?_) (fun q97 => ?_)
      · skip
        refine i_const dX9_ladderOf_107 ?_
        refine r_goto 112 dX9_ladderOf_108 rfl ?_
        refine r_istore dX9_ladderOf_112 (Nat.le_of_ble_eq_true rfl) ?_
        refine r_iload dX9_ladderOf_114 rfl ?_
        refine i_if_eq 124 dX9_ladderOf_116 rfl ⟨by omega, by omega⟩ (fun q116 => ?_) (fun q116 => ?_)
        · exfalso
          omega
        · skip
          refine r_iload dX9_ladderOf_119 rfl ?_
          refine r_goto 125 dX9_ladderOf_121 rfl ?_
          refine r_istore_n dX9_ladderOf_125 (Nat.le_of_ble_eq_true rfl) ?_
          refine r_iload dX9_ladderOf_126 rfl ?_
          refine i_if_eq 136 dX9_ladderOf_128 rfl ⟨by omega, by omega⟩ (fun q128 => ?_) (fun q128 => ?_)
          · exfalso
            omega
          · skip
            refine r_iload dX9_ladderOf_131 rfl ?_
            refine r_goto 138 dX9_ladderOf_133 rfl ?_
            refine r_istore dX9_ladderOf_138 (Nat.le_of_ble_eq_true rfl) ?_
            refine i_iinc dX9_ladderOf_140 rfl (Nat.le_of_ble_eq_true rfl) ?_
            refine r_goto 12 dX9_ladderOf_143 rfl ?_
            first
              | (refine ih _ _ _ _ _ (by omega) (by omega) (Or.inr ⟨f0, by omega, rfl, fun g g0 g1 => ?_, fun g g0 g1 => ?_⟩)
                 · rcases hb with hb | ⟨b0, b1, b2, b3, b4⟩
                   · omega
                   · have := b4 g g0 g1; omega
                 · by_cases e : g = f
                   · subst e; exact Int.le_refl _
                   · rcases hb with hb | ⟨b0, b1, b2, b3, b4⟩
                     · omega
                     · have := b4 g g0 (by omega); omega)
              | (refine ih _ _ _ _ _ (by omega) (by omega) (Or.inr ?_)
                 rcases hb with hb | ⟨b0, b1, b2, b3, b4⟩
                 · omega
                 · refine ⟨b0, by omega, b2, b3, fun g g0 g1 => ?_⟩
                   by_cases e : g = f
                   · subst e; omega
                   · exact b4 g g0 (by omega))
      · skip
        refine r_iload dX9_ladderOf_100 rfl ?_
        refine r_iload dX9_ladderOf_102 rfl ?_
        refine i_icmp_ge 111 dX9_ladderOf_104 rfl ⟨by omega, by omega⟩ ⟨by omega, by omega⟩ (fun q104 => ?_) (fun q104 => ?_)
        · skip
          refine i_const dX9_ladderOf_111 ?_
          refine r_istore dX9_ladderOf_112 (Nat.le_of_ble_eq_true rfl) ?_
          refine r_iload dX9_ladderOf_114 rfl ?_
          refine i_if_eq 124 dX9_ladderOf_116 rfl ⟨by omega, by omega⟩ (fun q116 => ?_) (fun q116 => ?_)
          · skip
            refine r_iload_n dX9_ladderOf_124 rfl ?_
            refine r_istore_n dX9_ladderOf_125 (Nat.le_of_ble_eq_true rfl) ?_
            refine r_iload dX9_ladderOf_126 rfl ?_
            refine i_if_eq 136 dX9_ladderOf_128 rfl ⟨by omega, by omega⟩ (fun q128 => ?_) (fun q128 => ?_)
            · skip
              refine r_iload dX9_ladderOf_136 rfl ?_
              refine r_istore dX9_ladderOf_138 (Nat.le_of_ble_eq_true rfl) ?_
              refine i_iinc dX9_ladderOf_140 rfl (Nat.le_of_ble_eq_true rfl) ?_
              refine r_goto 12 dX9_ladderOf_143 rfl ?_
              first
                | (refine ih _ _ _ _ _ (by omega) (by omega) (Or.inr ⟨f0, by omega, rfl, fun g g0 g1 => ?_, fun g g0 g1 => ?_⟩)
                   · rcases hb with hb | ⟨b0, b1, b2, b3, b4⟩
                     · omega
                     · have := b4 g g0 g1; omega
                   · by_cases e : g = f
                     · subst e; exact Int.le_refl _
                     · rcases hb with hb | ⟨b0, b1, b2, b3, b4⟩
                       · omega
                       · have := b4 g g0 (by omega); omega)
                | (refine ih _ _ _ _ _ (by omega) (by omega) (Or.inr ?_)
                   rcases hb with hb | ⟨b0, b1, b2, b3, b4⟩
                   · omega
                   · refine ⟨b0, by omega, b2, b3, fun g g0 g1 => ?_⟩
                     by_cases e : g = f
                     · subst e; omega
                     · exact b4 g g0 (by omega))
            · exfalso
              omega
          · exfalso
            omega
        · skip
          refine i_const dX9_ladderOf_107 ?_
          refine r_goto 112 dX9_ladderOf_108 rfl ?_
          refine r_istore dX9_ladderOf_112 (Nat.le_of_ble_eq_true rfl) ?_
          refine r_iload dX9_ladderOf_114 rfl ?_
          refine i_if_eq 124 dX9_ladderOf_116 rfl ⟨by omega, by omega⟩ (fun q116 => ?_) (fun q116 => ?_)
          · exfalso
            omega
          · skip
            refine r_iload dX9_ladderOf_119 rfl ?_
            refine r_goto 125 dX9_ladderOf_121 rfl ?_
            refine r_istore_n dX9_ladderOf_125 (Nat.le_of_ble_eq_true rfl) ?_
            refine r_iload dX9_ladderOf_126 rfl ?_
            refine i_if_eq 136 dX9_ladderOf_128 rfl ⟨by omega, by omega⟩ (fun q128 => ?_) (fun q128 => ?_)
            · exfalso
              omega
            · skip
              refine r_iload dX9_ladderOf_131 rfl ?_
              refine r_goto 138 dX9_ladderOf_133 rfl ?_
              refine r_istore dX9_ladderOf_138 (Nat.le_of_ble_eq_true rfl) ?_
              refine i_iinc dX9_ladderOf_140 rfl (Nat.le_of_ble_eq_true rfl) ?_
              refine r_goto 12 dX9_ladderOf_143 rfl ?_
              first
                | (refine ih _ _ _ _ _ (by omega) (by omega) (Or.inr ⟨f0, by omega, rfl, fun g g0 g1 => ?_, fun g g0 g1 => ?_⟩)
                   · rcases hb with hb | ⟨b0, b1, b2, b3, b4⟩
                     · omega
                     · have := b4 g g0 g1; omega
                   · by_cases e : g = f
                     · subst e; exact Int.le_refl _
                     · rcases hb with hb | ⟨b0, b1, b2, b3, b4⟩
                       · omega
                       · have := b4 g g0 (by omega); omega)
                | (refine ih _ _ _ _ _ (by omega) (by omega) (Or.inr ?_)
                   rcases hb with hb | ⟨b0, b1, b2, b3, b4⟩
                   · omega
                   · refine ⟨b0, by omega, b2, b3, fun g g0 g1 => ?_⟩
                     by_cases e : g = f
                     · subst e; omega
                     · exact b4 g g0 (by omega))

set_option maxRecDepth 20000 in
theorem m_ladderOf (M σ : rl_S) (c : IM M σ) (hw : WF M) (t : Int) (t0 : 0 ≤ t) (t1 : t < 400) (m : Int) (m0 : 1 ≤ m ∧ m ≤ 100) : Ct mW mX9_ladderOf [.ref 0, .int (iI t), .int (iI m)] σ (pH M (gh (hi M) (min 999 (lo (hi M) (min 400 (t + m) - t - 1).toNat t + M 6 3)) (min 400 (t + m) - t).toNat t 0)) := by
  refine Ct.of plX9 (Nat.le_of_ble_eq_true rfl) ?_
  have st := wf_set hw
  refine r_aload_n dX9_ladderOf_0 rfl ?_
  refine i_cvV (m_lays M σ c hw) lmX9_117 dX9_ladderOf_1 (Nat.le_of_ble_eq_true rfl) rfl ⟨_, _, rfl⟩ (by decide) (by decide) rfl rfl (Nat.le_of_ble_eq_true rfl) (fun σ1 c1 => ?_)
  refine i_const dX9_ladderOf_4 ?_
  refine r_istore_n dX9_ladderOf_5 (Nat.le_of_ble_eq_true rfl) ?_
  refine i_const dX9_ladderOf_6 ?_
  refine r_istore dX9_ladderOf_7 (Nat.le_of_ble_eq_true rfl) ?_
  refine i_const dX9_ladderOf_9 ?_
  refine r_istore dX9_ladderOf_10 (Nat.le_of_ble_eq_true rfl) ?_
  have L := lad_best (wf_hb hw) (r := M 6 3) (a := t) (n := (min 400 (t + m) - t).toNat) st.2.2.2.1.1 t0 (by omega) (by omega) (by omega) _ rfl
  rw [show (min 400 (t + m) - t).toNat - 1 = (min 400 (t + m) - t - 1).toNat by omega] at L
  exact m_lad_l M σ1 c1 hw t m (min 400 (t + m) - t).toNat (by omega) m0 (by omega) _ L.1 L.2.1 L.2.2 1000 0 (-1) 0 _ _ (by omega) (by omega) (Or.inl ⟨rfl, rfl, rfl⟩)

set_option maxRecDepth 20000 in
theorem m_ladder (M σ : rl_S) (c : IM M σ) (hw : WF M) (t m : Int) (ht : -2147483648 ≤ t ∧ t < 2147483648) (hm : -2147483648 ≤ m ∧ m < 2147483648) : Ct mW mX9_ladder [.ref 0, .int (iI t), .int (iI m)] σ (pM M (q_ladder M t m)) := by
  refine Ct.of plX9 (Nat.le_of_ble_eq_true rfl) ?_
  have ob1 := ob_bd (decide (0 ≤ t ∧ t ≤ 399))
  have ob2 := ob_bd (decide (1 ≤ m ∧ m ≤ 100))
  refine r_iload_n dX9_ladder_0 rfl ?_
  refine i_csP (m_isTenth _ t ht) lmX9_90 dX9_ladder_1 (by decide) (by decide) rfl rfl (Nat.le_of_ble_eq_true rfl) ?_
  refine i_if_eq 23 dX9_ladder_4 rfl (ob_i32 _) (fun q4 => ?_) (fun q4 => ?_)
  · have e4 := ob_df q4
    refine i_bipush dX9_ladder_23 (by decide) ?_
    refine r_iret rfl dX9_ladder_25 ?_
    first
      | exact ⟨_, rfl, by rw [hd.1]; exact (if_pos (by omega)).symm, hd.2.1.1⟩
      | exact ⟨_, rfl, by unfold q_ladder; rw [if_neg (by omega)], c⟩
  · have e4 := ob_dt q4
    refine r_iload_n dX9_ladder_7 rfl ?_
    refine i_csP (m_isMany _ m hm) lmX9_141 dX9_ladder_8 (by decide) (by decide) rfl rfl (Nat.le_of_ble_eq_true rfl) ?_
    refine i_if_eq 23 dX9_ladder_11 rfl (ob_i32 _) (fun q11 => ?_) (fun q11 => ?_)
    · have e11 := ob_df q11
      refine i_bipush dX9_ladder_23 (by decide) ?_
      refine r_iret rfl dX9_ladder_25 ?_
      first
        | exact ⟨_, rfl, by rw [hd.1]; exact (if_pos (by omega)).symm, hd.2.1.1⟩
        | exact ⟨_, rfl, by unfold q_ladder; rw [if_neg (by omega)], c⟩
    · have e11 := ob_dt q11
      refine r_aload_n dX9_ladder_14 rfl ?_
      refine r_iload_n dX9_ladder_15 rfl ?_
      refine r_iload_n dX9_ladder_16 rfl ?_
      refine i_cvI (m_ladderOf M σ c hw t (by omega) (by omega) m (by omega)) lmX9_203 dX9_ladder_17 (Nat.le_of_ble_eq_true rfl) rfl ⟨_, _, rfl⟩ (by decide) (by decide) rfl rfl (Nat.le_of_ble_eq_true rfl) (fun z1 σ1 hd => ?_)
      refine r_goto 25 dX9_ladder_20 rfl ?_
      refine r_iret rfl dX9_ladder_25 ?_
      first
        | exact ⟨_, rfl, by rw [hd.1]; exact (if_pos (by omega)).symm, hd.2.1.1⟩
        | exact ⟨_, rfl, by unfold q_ladder; rw [if_neg (by omega)], c⟩
