/-! pigeons, ranks -/
theorem pg_le : ∀ (m n : Nat) (f : Nat → Nat), (∀ i, i < n → f i < m) → (∀ i j, i < n → j < n → f i = f j → i = j) → n ≤ m
  | 0, n, f, h, _ => by
    rcases Nat.eq_zero_or_pos n with z | z
    · omega
    · exact absurd (h 0 z) (Nat.not_lt_zero _)
  | m + 1, 0, f, h, hi => Nat.zero_le _
  | m + 1, n + 1, f, h, hi => by
    by_cases q : ∃ i, i < n + 1 ∧ f i = m
    · obtain ⟨i0, h1, h2⟩ := q
      have ih := pg_le m n (fun i => if i < i0 then f i else f (i + 1)) (fun i hin => by
        show (if i < i0 then f i else f (i + 1)) < m
        by_cases z : i < i0
        · rw [if_pos z]
          have := h i (by omega)
          have : f i ≠ m := fun e => by have := hi i i0 (by omega) h1 (e.trans h2.symm); omega
          omega
        · rw [if_neg z]
          have := h (i + 1) (by omega)
          have : f (i + 1) ≠ m := fun e => by have := hi (i + 1) i0 (by omega) h1 (e.trans h2.symm); omega
          omega) (fun i j hin hjn e => by
        have e : (if i < i0 then f i else f (i + 1)) = (if j < i0 then f j else f (j + 1)) := e
        by_cases z : i < i0 <;> by_cases y : j < i0
        · rw [if_pos z, if_pos y] at e; exact hi i j (by omega) (by omega) e
        · rw [if_pos z, if_neg y] at e; have := hi i (j + 1) (by omega) (by omega) e; omega
        · rw [if_neg z, if_pos y] at e; have := hi (i + 1) j (by omega) (by omega) e; omega
        · rw [if_neg z, if_neg y] at e; have := hi (i + 1) (j + 1) (by omega) (by omega) e; omega)
      omega
    · have ih := pg_le m (n + 1) f (fun i hin => by
        have := h i hin
        have : f i ≠ m := fun e => q ⟨i, hin, e⟩
        omega) hi
      omega
/-- one to one below n: each number below n is met -/
theorem pg_on (n : Nat) (f : Nat → Nat) (h : ∀ i, i < n → f i < n) (hi : ∀ i j, i < n → j < n → f i = f j → i = j) (r : Nat) (hr : r < n) : ∃ i, i < n ∧ f i = r := by
  apply Classical.byContradiction
  intro q
  have hq : ∀ i, i < n → f i ≠ r := fun i hin e => q ⟨i, hin, e⟩
  have := pg_le (n - 1) n (fun i => if f i < r then f i else f i - 1) (fun i hin => by
    show (if f i < r then f i else f i - 1) < n - 1
    have h1 := h i hin
    have h2 := hq i hin
    by_cases z : f i < r
    · rw [if_pos z]; omega
    · rw [if_neg z]; omega) (fun i j hin hjn e => by
    have e : (if f i < r then f i else f i - 1) = (if f j < r then f j else f j - 1) := e
    have h1 := hq i hin
    have h2 := hq j hjn
    apply hi i j hin hjn
    by_cases z : f i < r <;> by_cases y : f j < r
    · rw [if_pos z, if_pos y] at e; exact e
    · rw [if_pos z, if_neg y] at e; omega
    · rw [if_neg z, if_pos y] at e; omega
    · rw [if_neg z, if_neg y] at e; omega)
  omega
/-- how many stand ahead -/
noncomputable def od_r (lt : Nat → Nat → Prop) (n i : Nat) : Nat := sm (fun j => pI (lt j i) 1 0) n
theorem sm_le2 {f g : Nat → Nat} : ∀ {n : Nat}, (∀ j, j < n → f j ≤ g j) → sm f n ≤ sm g n
  | 0, _ => Nat.le_refl _
  | n + 1, h => Nat.add_le_add (sm_le2 (fun j hj => h j (by omega))) (h n (by omega))
theorem sm_lt {f g : Nat → Nat} : ∀ {n : Nat}, (∀ j, j < n → f j ≤ g j) → ∀ k, k < n → f k < g k → sm f n < sm g n
  | 0, _, k, hk, _ => absurd hk (Nat.not_lt_zero _)
  | n + 1, h, k, hk, hlt => by
    rcases Nat.lt_or_ge k n with q | q
    · exact Nat.add_lt_add_of_lt_of_le (sm_lt (fun j hj => h j (by omega)) k q hlt) (h n (by omega))
    · rw [show k = n by omega] at hlt
      exact Nat.add_lt_add_of_le_of_lt (sm_le2 (fun j hj => h j (by omega))) hlt
theorem pI_le {P Q : Prop} (h : P → Q) : (pI P 1 0 : Nat) ≤ pI Q 1 0 := by
  by_cases p : P
  · rw [pI_t p, pI_t (h p)]; exact Nat.le_refl _
  · rw [pI_f p]; exact Nat.zero_le _
theorem pI_le1 (P : Prop) : (pI P 1 0 : Nat) ≤ 1 := by
  by_cases p : P
  · rw [pI_t p]; exact Nat.le_refl _
  · rw [pI_f p]; exact Nat.zero_le _
section OD
variable {lt : Nat → Nat → Prop} {n : Nat} (ir : ∀ i, ¬ lt i i) (tr : ∀ i j k, lt i j → lt j k → lt i k) (to : ∀ i j, i ≠ j → lt i j ∨ lt j i)
theorem od_lt (ir : ∀ i, ¬ lt i i) (tr : ∀ i j k, lt i j → lt j k → lt i k) {i j : Nat} (hi : i < n) (h : lt i j) : od_r lt n i < od_r lt n j := by
  refine sm_lt (fun k _ => pI_le (fun q => tr k i j q h)) i hi ?_
  show (pI (lt i i) 1 0 : Nat) < pI (lt i j) 1 0
  rw [pI_f (ir i), pI_t h]
  exact Nat.zero_lt_one
theorem od_bd (ir : ∀ i, ¬ lt i i) {i : Nat} (hi : i < n) : od_r lt n i < n := by
  have h : od_r lt n i < sm (fun _ => 1) n := sm_lt (fun k _ => pI_le1 _) i hi (by rw [pI_f (ir i)]; exact Nat.zero_lt_one)
  have : ∀ m, sm (fun _ => 1) m = m := fun m => by
    induction m with
    | zero => rfl
    | succ m ih => show sm _ m + 1 = m + 1; rw [ih]
  rw [this] at h
  exact h
theorem od_inj (ir : ∀ i, ¬ lt i i) (tr : ∀ i j k, lt i j → lt j k → lt i k) (to : ∀ i j, i ≠ j → lt i j ∨ lt j i) {i j : Nat} (hi : i < n) (hj : j < n) (h : od_r lt n i = od_r lt n j) : i = j := by
  apply Classical.byContradiction
  intro q
  rcases to i j q with z | z
  · have := od_lt ir tr hi z; omega
  · have := od_lt ir tr hj z; omega
theorem od_iff (ir : ∀ i, ¬ lt i i) (tr : ∀ i j k, lt i j → lt j k → lt i k) (to : ∀ i j, i ≠ j → lt i j ∨ lt j i) {i j : Nat} (hi : i < n) (hj : j < n) : lt i j ↔ od_r lt n i < od_r lt n j := by
  constructor
  · exact od_lt ir tr hi
  · intro h
    have hne : i ≠ j := fun e => by rw [e] at h; omega
    rcases to i j hne with z | z
    · exact z
    · have := od_lt ir tr hj z; omega
theorem od_on (ir : ∀ i, ¬ lt i i) (tr : ∀ i j k, lt i j → lt j k → lt i k) (to : ∀ i j, i ≠ j → lt i j ∨ lt j i) (r : Nat) (hr : r < n) : ∃ i, i < n ∧ od_r lt n i = r :=
  pg_on n (od_r lt n) (fun i hi => od_bd ir hi) (fun i j hi hj h => od_inj ir tr to hi hj h) r hr
end OD
