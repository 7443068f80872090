/-! marks by falling: how many are t or more (one greater each), the one at a place -/
def cg (g : Nat → Nat) (t : Nat) : Nat → Nat := sm (fun j => if t ≤ g j then 1 else 0)
def ce (g : Nat → Nat) (t : Nat) : Nat → Nat := sm (fun j => if g j = t then 1 else 0)
theorem cg_le (g : Nat → Nat) (t n : Nat) : cg g t n ≤ n := by
  have := sm_le (f := fun j => if t ≤ g j then 1 else 0) (c := 1) (n := n) (fun j _ => by
    show (if t ≤ g j then 1 else 0) ≤ 1
    split <;> omega)
  rw [Nat.one_mul] at this; exact this
theorem cg_an (g : Nat → Nat) {s t : Nat} (h : s ≤ t) (n : Nat) : cg g t n ≤ cg g s n := sm_le2 (fun j _ => by
  show (if t ≤ g j then 1 else 0) ≤ (if s ≤ g j then 1 else 0)
  by_cases z : t ≤ g j
  · rw [if_pos z, if_pos (by omega)]; exact Nat.le_refl _
  · rw [if_neg z]; exact Nat.zero_le _)
theorem cg_ce (g : Nat → Nat) (t : Nat) : ∀ n, cg g t n = cg g (t + 1) n + ce g t n
  | 0 => rfl
  | n + 1 => by
    have ih := cg_ce g t n
    show cg g t n + (if t ≤ g n then 1 else 0) = (cg g (t + 1) n + (if t + 1 ≤ g n then 1 else 0)) + (ce g t n + (if g n = t then 1 else 0))
    have : (if t ≤ g n then 1 else 0) = (if t + 1 ≤ g n then 1 else 0) + (if g n = t then 1 else 0) := by
      rcases Nat.lt_trichotomy t (g n) with z | z | z
      · rw [if_pos (by omega), if_pos (by omega), if_neg (by omega)]
      · rw [if_pos (by omega), if_neg (by omega), if_pos (by omega)]
      · rw [if_neg (by omega), if_neg (by omega), if_neg (by omega)]
    omega
theorem ce_0 {g : Nat → Nat} {t n : Nat} (h : g n ≠ t) : ce g t (n + 1) = ce g t n := by
  show ce g t n + (if g n = t then 1 else 0) = _
  rw [if_neg h]; rfl
theorem ce_1 {g : Nat → Nat} {t n : Nat} (h : g n = t) : ce g t (n + 1) = ce g t n + 1 := by
  show ce g t n + (if g n = t then 1 else 0) = _
  rw [if_pos h]
theorem cg_22 {g : Nat → Nat} (h : ∀ j, j < 5 → g j ≤ 21) {t : Nat} (ht : 22 ≤ t) : cg g t 5 = 0 := sm_zero (fun j hj => by
  have := h j hj
  rw [if_neg (by omega)])
theorem cg_1 (g : Nat → Nat) (n : Nat) : cg g 1 n = sc_n g n := sm_congr (fun j _ => by
  show (if 1 ≤ g j then 1 else 0) = (if g j = 0 then 0 else 1)
  by_cases z : g j = 0
  · rw [if_neg (by omega), if_pos z]
  · rw [if_pos (by omega), if_neg z])
/-- how many of c's first n are greater than p: c falls -/
theorem ct_an {c : Nat → Nat} (hc : ∀ s t, s ≤ t → c t ≤ c s) (p : Nat) : ∀ n, sm (fun t => if p < c t then 1 else 0) n ≤ n ∧ ∀ s, s < n → (s < sm (fun t => if p < c t then 1 else 0) n ↔ p < c s)
  | 0 => ⟨Nat.le_refl _, fun s hs => absurd hs (Nat.not_lt_zero _)⟩
  | n + 1 => by
    obtain ⟨h1, h2⟩ := ct_an hc p n
    have e : sm (fun t => if p < c t then 1 else 0) (n + 1) = sm (fun t => if p < c t then 1 else 0) n + (if p < c n then 1 else 0) := rfl
    rw [e]
    by_cases z : p < c n
    · rw [if_pos z]
      have h3 : sm (fun t => if p < c t then 1 else 0) n = n := by
        rcases Nat.eq_zero_or_pos n with y | y
        · omega
        · have := (h2 (n - 1) (by omega)).mpr (Nat.lt_of_lt_of_le z (hc _ _ (by omega)))
          omega
      exact ⟨by omega, fun s hs => ⟨fun _ => Nat.lt_of_lt_of_le z (hc _ _ (by omega)), fun _ => by omega⟩⟩
    · rw [if_neg z]
      refine ⟨by omega, fun s hs => ?_⟩
      rcases Nat.lt_or_ge s n with y | y
      · exact h2 s y
      · rw [show s = n by omega]
        exact ⟨fun q => by omega, fun q => absurd q z⟩
/-- the mark at a place by falling marks, one greater (0: none) -/
def fa (g : Nat → Nat) (p : Nat) : Nat := sm (fun t => if p < cg g (t + 1) 5 then 1 else 0) 21
theorem fa_le (g : Nat → Nat) (p : Nat) : fa g p ≤ 21 := (ct_an (c := fun t => cg g (t + 1) 5) (fun s t h => cg_an g (by omega) 5) p 21).1
theorem fa_lt (g : Nat → Nat) (p : Nat) {s : Nat} (hs : s < 21) : s < fa g p ↔ p < cg g (s + 1) 5 := (ct_an (c := fun t => cg g (t + 1) 5) (fun s t h => cg_an g (by omega) 5) p 21).2 s hs
theorem fa_eq {g : Nat → Nat} {p t : Nat} (ht : t ≤ 21) (h1 : t = 0 ∨ p < cg g t 5) (h2 : cg g (t + 1) 5 ≤ p) : fa g p = t := by
  have a1 := fa_le g p
  have a2 : t ≤ fa g p := by
    rcases h1 with z | z
    · omega
    · rcases Nat.eq_zero_or_pos t with y | y
      · omega
      · have := (fa_lt g p (show t - 1 < 21 by omega)).mpr (by rw [show t - 1 + 1 = t by omega]; exact z)
        omega
  rcases Nat.lt_or_ge t 21 with z | z
  · have : ¬ t < fa g p := fun y => by have := (fa_lt g p z).mp y; omega
    omega
  · omega
theorem fa_an (g : Nat → Nat) {p q : Nat} (h : p ≤ q) : fa g q ≤ fa g p := sm_le2 (fun t _ => by
  show (if q < cg g (t + 1) 5 then 1 else 0) ≤ (if p < cg g (t + 1) 5 then 1 else 0)
  by_cases z : q < cg g (t + 1) 5
  · rw [if_pos z, if_pos (by omega)]; exact Nat.le_refl _
  · rw [if_neg z]; exact Nat.zero_le _)
theorem sm_cut (D : Nat → Nat) {t : Nat} : ∀ {n : Nat}, t ≤ n → sm D t = sm (fun s => if s < t then D s else 0) n
  | 0, h => by rw [Nat.le_zero.mp h]; rfl
  | n + 1, h => by
    show _ = sm (fun s => if s < t then D s else 0) n + (if n < t then D n else 0)
    rcases Nat.lt_or_ge n t with z | z
    · rw [if_pos z, show t = n + 1 by omega]
      show sm D n + D n = _
      congr 1
      exact sm_congr (fun j hj => by rw [if_pos (by omega)])
    · rw [if_neg (by omega), ← sm_cut D z]; rfl
theorem sm_pre (d c : Nat) : ∀ {n : Nat}, c ≤ n → sm (fun p => if p < c then d else 0) n = d * c
  | 0, h => by rw [Nat.le_zero.mp h]; rfl
  | n + 1, h => by
    show sm (fun p => if p < c then d else 0) n + (if n < c then d else 0) = d * c
    rcases Nat.lt_or_ge n c with z | z
    · rw [if_pos z, show c = n + 1 by omega, Nat.mul_succ]
      congr 1
      rw [← sm_pre d n (Nat.le_refl n)]
      exact sm_congr (fun j hj => by rw [if_pos (by omega), if_pos hj])
    · rw [if_neg (by omega), sm_pre d c z]; rfl
/-- the marks, one by one, and those by falling give the same sums -/
theorem fa_sm (D : Nat → Nat) {g : Nat → Nat} (h : ∀ j, j < 5 → g j ≤ 21) : sm (fun j => sm D (g j)) 5 = sm (fun p => sm D (fa g p)) 5 := by
  have e1 : sm (fun j => sm D (g j)) 5 = sm (fun j => sm (fun s => if s < g j then D s else 0) 21) 5 := sm_congr (fun j hj => sm_cut D (h j hj))
  have e2 : sm (fun p => sm D (fa g p)) 5 = sm (fun p => sm (fun s => if s < fa g p then D s else 0) 21) 5 := sm_congr (fun p _ => sm_cut D (fa_le g p))
  rw [e1, e2, sm_swap (fun j s => if s < g j then D s else 0) 21 5, sm_swap (fun p s => if s < fa g p then D s else 0) 21 5]
  refine sm_congr (fun s hs => ?_)
  have f1 : sm (fun p => if s < fa g p then D s else 0) 5 = D s * cg g (s + 1) 5 := by
    rw [← sm_pre (D s) (cg g (s + 1) 5) (cg_le g (s + 1) 5)]
    refine sm_congr (fun p _ => ?_)
    by_cases z : p < cg g (s + 1) 5
    · rw [if_pos z, if_pos ((fa_lt g p hs).mpr z)]
    · rw [if_neg z, if_neg (fun y => z ((fa_lt g p hs).mp y))]
  rw [f1]
  unfold cg
  rw [← sm_mul]
  refine sm_congr (fun j _ => ?_)
  show (if s < g j then D s else 0) = D s * (if s + 1 ≤ g j then 1 else 0)
  by_cases z : s < g j
  · rw [if_pos z, if_pos (by omega), Nat.mul_one]
  · rw [if_neg z, if_neg (by omega), Nat.mul_zero]
theorem d_n : ∀ t, sm (fun s => if s = 0 then 1 else 0) t = if t = 0 then 0 else 1
  | 0 => rfl
  | 1 => rfl
  | t + 2 => by
    show sm (fun s => if s = 0 then 1 else 0) (t + 1) + (if t + 1 = 0 then 1 else 0) = _
    rw [d_n (t + 1), if_neg (by omega), if_neg (by omega), if_neg (by omega)]
theorem d_s : ∀ t, sm (fun s => if s = 0 then 0 else 1) t = t - 1
  | 0 => rfl
  | 1 => rfl
  | t + 2 => by
    show sm (fun s => if s = 0 then 0 else 1) (t + 1) + (if t + 1 = 0 then 0 else 1) = _
    rw [d_s (t + 1), if_neg (by omega)]; omega
def kk (t : Nat) : Nat := if t = 0 then 0 else 2 ^ (3 * (t - 1))
theorem d_k : ∀ t, sm (fun s => kk (s + 1) - kk s) t = kk t
  | 0 => rfl
  | t + 1 => by
    show sm (fun s => kk (s + 1) - kk s) t + (kk (t + 1) - kk t) = _
    rw [d_k t]
    have : kk t ≤ kk (t + 1) := by
      unfold kk
      by_cases z : t = 0
      · rw [if_pos z]; exact Nat.zero_le _
      · rw [if_neg z, if_neg (by omega)]; exact Nat.pow_le_pow_right (by decide) (by omega)
    omega
theorem fa_n {g : Nat → Nat} (h : ∀ j, j < 5 → g j ≤ 21) : sm (fun p => if fa g p = 0 then 0 else 1) 5 = sc_n g 5 := by
  have := fa_sm (fun s => if s = 0 then 1 else 0) h
  simp only [d_n] at this
  exact this.symm
theorem fa_s {g : Nat → Nat} (h : ∀ j, j < 5 → g j ≤ 21) : sm (fun p => fa g p - 1) 5 = sc_s g 5 := by
  have := fa_sm (fun s => if s = 0 then 0 else 1) h
  simp only [d_s] at this
  exact this.symm
theorem fa_k {g : Nat → Nat} (h : ∀ j, j < 5 → g j ≤ 21) : sm (fun p => kk (fa g p)) 5 = sc_key g 5 := by
  have := fa_sm (fun s => kk (s + 1) - kk s) h
  simp only [d_k] at this
  exact this.symm
/-! the greatest and the least -/
theorem sc_gx {g : Nat → Nat} : ∀ k, (∀ j, j < k → g j ≤ sc_g g k + 1) ∧ (1 ≤ sc_n g k → ∃ j, j < k ∧ g j = sc_g g k + 1)
  | 0 => ⟨fun j hj => absurd hj (Nat.not_lt_zero _), fun h => absurd (show 1 ≤ 0 from h) (by decide)⟩
  | k + 1 => by
    obtain ⟨h1, h2⟩ := sc_gx (g := g) k
    rcases Nat.eq_zero_or_pos (g k) with z | z
    · rw [sc_g0 z, sc_n0 z]
      refine ⟨fun j hj => ?_, fun h => ?_⟩
      · by_cases e : j = k
        · rw [e, z]; exact Nat.zero_le _
        · exact h1 j (by omega)
      · obtain ⟨j, a, b⟩ := h2 h; exact ⟨j, by omega, b⟩
    · rcases Nat.lt_or_ge (sc_g g k) (g k - 1) with x | x
      · rw [sc_g1 z x]
        refine ⟨fun j hj => ?_, fun _ => ⟨k, by omega, by omega⟩⟩
        by_cases e : j = k
        · rw [e]; omega
        · have := h1 j (by omega); omega
      · rw [sc_g2 z x]
        refine ⟨fun j hj => ?_, fun _ => ?_⟩
        · by_cases e : j = k
          · rw [e]; omega
          · exact h1 j (by omega)
        · by_cases y : 1 ≤ sc_n g k
          · obtain ⟨j, a, b⟩ := h2 y; exact ⟨j, by omega, b⟩
          · have : sc_g g k = 0 := by
              clear h1 h2 x
              induction k with
              | zero => rfl
              | succ m ih =>
                rcases Nat.eq_zero_or_pos (g m) with w | w
                · rw [sc_g0 w]
                  by_cases gm : 0 < g m
                  · omega
                  · have y2 : ¬ 1 ≤ sc_n g m := by rw [sc_n0 w] at y; exact y
                    clear ih
                    have key : ∀ n, sc_n g n = 0 → sc_g g n = 0 := fun n => by
                      induction n with
                      | zero => intro _; rfl
                      | succ n ih2 =>
                        intro q
                        rcases Nat.eq_zero_or_pos (g n) with v | v
                        · rw [sc_n0 v] at q; rw [sc_g0 v]; exact ih2 q
                        · rw [sc_n1 v] at q; omega
                    exact key m (by omega)
                · rw [sc_n1 w] at y; omega
            exact ⟨k, by omega, by omega⟩
theorem sc_lx {g : Nat → Nat} (hg : ∀ j, j < 5 → g j ≤ 21) : ∀ k, k ≤ 5 → (∀ j, j < k → g j ≠ 0 → sc_l g k + 1 ≤ g j) ∧ (1 ≤ sc_n g k → ∃ j, j < k ∧ g j = sc_l g k + 1)
  | 0, _ => ⟨fun j hj => absurd hj (Nat.not_lt_zero _), fun h => absurd (show 1 ≤ 0 from h) (by decide)⟩
  | k + 1, hk => by
    obtain ⟨h1, h2⟩ := sc_lx hg k (by omega)
    obtain ⟨-, -, -, -, hb, -⟩ := sc_b hg k (by omega)
    have hgk := hg k (by omega)
    rcases Nat.eq_zero_or_pos (g k) with z | z
    · rw [sc_l0 z, sc_n0 z]
      refine ⟨fun j hj hj0 => ?_, fun h => ?_⟩
      · by_cases e : j = k
        · rw [e] at hj0; exact absurd z hj0
        · exact h1 j (by omega) hj0
      · obtain ⟨j, a, b⟩ := h2 h; exact ⟨j, by omega, b⟩
    · rcases Nat.lt_or_ge (g k - 1) (sc_l g k) with x | x
      · rw [sc_l1 z x]
        refine ⟨fun j hj hj0 => ?_, fun _ => ⟨k, by omega, by omega⟩⟩
        by_cases e : j = k
        · rw [e]; omega
        · have := h1 j (by omega) hj0; omega
      · rw [sc_l2 z x]
        refine ⟨fun j hj hj0 => ?_, fun _ => ?_⟩
        · by_cases e : j = k
          · rw [e]; omega
          · exact h1 j (by omega) hj0
        · by_cases y : 1 ≤ sc_n g k
          · obtain ⟨j, a, b⟩ := h2 y; exact ⟨j, by omega, b⟩
          · have := (hb (by omega)).2.1
            exact ⟨k, by omega, by omega⟩
theorem fa_g {g : Nat → Nat} (h : ∀ j, j < 5 → g j ≤ 21) (hn : 1 ≤ sc_n g 5) : fa g 0 = sc_g g 5 + 1 := by
  obtain ⟨h1, h2⟩ := sc_gx (g := g) 5
  obtain ⟨j, hj, ej⟩ := h2 hn
  have := h j hj
  refine fa_eq (by omega) (Or.inr ?_) ?_
  · have := sm_ge (f := fun j => if sc_g g 5 + 1 ≤ g j then 1 else 0) hj
    have e : (if sc_g g 5 + 1 ≤ g j then 1 else 0) = 1 := if_pos (by omega)
    have : (if sc_g g 5 + 1 ≤ g j then 1 else 0) ≤ cg g (sc_g g 5 + 1) 5 := this
    omega
  · have : cg g (sc_g g 5 + 1 + 1) 5 = 0 := sm_zero (fun i hi => by have := h1 i hi; rw [if_neg (by omega)])
    omega
theorem fa_l {g : Nat → Nat} (h : ∀ j, j < 5 → g j ≤ 21) (hn : 1 ≤ sc_n g 5) : fa g (sc_n g 5 - 1) = sc_l g 5 + 1 := by
  obtain ⟨h1, h2⟩ := sc_lx h 5 (Nat.le_refl _)
  obtain ⟨j, hj, ej⟩ := h2 hn
  have := h j hj
  have e1 : cg g (sc_l g 5 + 1) 5 = sc_n g 5 := by
    rw [← cg_1]
    refine sm_congr (fun i hi => ?_)
    show (if sc_l g 5 + 1 ≤ g i then 1 else 0) = (if 1 ≤ g i then 1 else 0)
    by_cases z : g i = 0
    · rw [if_neg (by omega), if_neg (by omega)]
    · have := h1 i hi z
      rw [if_pos (by omega), if_pos (by omega)]
  refine fa_eq (by omega) (Or.inr (by omega)) ?_
  have : cg g (sc_l g 5 + 1 + 1) 5 < cg g (sc_l g 5 + 1) 5 := sm_lt (fun i _ => by
    show (if sc_l g 5 + 1 + 1 ≤ g i then 1 else 0) ≤ (if sc_l g 5 + 1 ≤ g i then 1 else 0)
    by_cases z : sc_l g 5 + 1 + 1 ≤ g i
    · rw [if_pos z, if_pos (by omega)]; exact Nat.le_refl _
    · rw [if_neg z]; exact Nat.zero_le _) j hj (by
      show (if sc_l g 5 + 1 + 1 ≤ g j then 1 else 0) < (if sc_l g 5 + 1 ≤ g j then 1 else 0)
      rw [if_neg (by omega), if_pos (by omega)]; exact Nat.zero_lt_one)
  omega
/-! comparing by falling marks and by the keys -/
theorem kk_m {a b : Nat} (h : a ≤ b) : kk a ≤ kk b := by
  unfold kk
  by_cases z : a = 0
  · rw [if_pos z]; exact Nat.zero_le _
  · rw [if_neg z, if_neg (by omega)]; exact Nat.pow_le_pow_right (by decide) (by omega)
theorem kk_lt {a b : Nat} (h : b < a) : 5 * kk b < kk a := by
  unfold kk
  rw [if_neg (show ¬ a = 0 by omega)]
  by_cases z : b = 0
  · rw [if_pos z]; exact Nat.pos_of_ne_zero (Nat.ne_of_gt (Nat.two_pow_pos _))
  · rw [if_neg z]
    have h1 : 2 ^ (3 * (b - 1) + 3) ≤ 2 ^ (3 * (a - 1)) := Nat.pow_le_pow_right (by decide) (by omega)
    have h2 : 2 ^ (3 * (b - 1) + 3) = 2 ^ (3 * (b - 1)) * 8 := Nat.pow_add 2 _ 3
    have h3 := Nat.two_pow_pos (3 * (b - 1))
    omega
theorem sm_sp (f : Nat → Nat) (m : Nat) : ∀ n, sm f (m + n) = sm f m + sm (fun k => f (m + k)) n
  | 0 => rfl
  | n + 1 => by
    show sm f (m + n) + f (m + n) = sm f m + (sm (fun k => f (m + k)) n + f (m + n))
    rw [sm_sp f m n]; omega
theorem fa_key {g h : Nat → Nat} (hg : ∀ j, j < 5 → g j ≤ 21) (hh : ∀ j, j < 5 → h j ≤ 21) {p : Nat} (hp : p < 5) (he : ∀ q, q < p → fa g q = fa h q) (hl : fa h p < fa g p) : sc_key h 5 < sc_key g 5 := by
  rw [← fa_k hg, ← fa_k hh]
  have e5 : (5 : Nat) = p + (5 - p) := by omega
  have a1 : sm (fun q => kk (fa h q)) 5 = sm (fun q => kk (fa h q)) p + sm (fun k => kk (fa h (p + k))) (5 - p) := by
    have := sm_sp (fun q => kk (fa h q)) p (5 - p)
    rw [← e5] at this; exact this
  have a2 : sm (fun q => kk (fa g q)) 5 = sm (fun q => kk (fa g q)) p + sm (fun k => kk (fa g (p + k))) (5 - p) := by
    have := sm_sp (fun q => kk (fa g q)) p (5 - p)
    rw [← e5] at this; exact this
  have a3 : sm (fun q => kk (fa g q)) p = sm (fun q => kk (fa h q)) p := sm_congr (fun q hq => by rw [he q hq])
  have a4 : sm (fun k => kk (fa h (p + k))) (5 - p) ≤ kk (fa h p) * (5 - p) := sm_le (fun k _ => kk_m (fa_an h (by omega)))
  have a5 : kk (fa h p) * (5 - p) ≤ kk (fa h p) * 5 := Nat.mul_le_mul_left _ (by omega)
  have a6 := kk_lt hl
  have a7 : kk (fa g (p + 0)) ≤ sm (fun k => kk (fa g (p + k))) (5 - p) := sm_ge (f := fun k => kk (fa g (p + k))) (k := 0) (by omega)
  rw [Nat.add_zero] at a7
  omega
theorem fa_same {g h : Nat → Nat} (hg : ∀ j, j < 5 → g j ≤ 21) (hh : ∀ j, j < 5 → h j ≤ 21) (he : ∀ q, q < 5 → fa g q = fa h q) : sc_key g 5 = sc_key h 5 := by
  rw [← fa_k hg, ← fa_k hh]
  exact sm_congr (fun q hq => by rw [he q hq])

