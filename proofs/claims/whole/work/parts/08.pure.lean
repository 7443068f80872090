/-! pure words: sums, folds, rows and sheaves -/
def sm (f : Nat → Nat) : Nat → Nat
  | 0 => 0
  | n + 1 => sm f n + f n
theorem sm_congr {f g : Nat → Nat} : ∀ {n : Nat}, (∀ j, j < n → f j = g j) → sm f n = sm g n
  | 0, _ => rfl
  | n + 1, h => by
    show sm f n + f n = sm g n + g n
    rw [sm_congr (fun j hj => h j (Nat.lt_succ_of_lt hj)), h n (Nat.lt_succ_self n)]
theorem sm_le {f : Nat → Nat} {c : Nat} : ∀ {n : Nat}, (∀ j, j < n → f j ≤ c) → sm f n ≤ c * n
  | 0, _ => Nat.le_refl _
  | n + 1, h => by
    have h1 := sm_le (f := f) (c := c) (n := n) (fun j hj => h j (Nat.lt_succ_of_lt hj))
    have h2 := h n (Nat.lt_succ_self n)
    show sm f n + f n ≤ c * (n + 1)
    rw [Nat.mul_succ]
    omega
theorem sm_mono {f : Nat → Nat} {m : Nat} : ∀ {n : Nat}, m ≤ n → sm f m ≤ sm f n
  | 0, h => by rw [Nat.le_zero.mp h]; exact Nat.le_refl _
  | n + 1, h => by
    rcases Nat.lt_or_ge m (n + 1) with q | q
    · exact Nat.le_trans (sm_mono (Nat.le_of_lt_succ q)) (Nat.le_add_right _ _)
    · rw [Nat.le_antisymm h q]; exact Nat.le_refl _
/-- the greatest below n with p -/
noncomputable def gr (p : Nat → Prop) : Nat → Option Nat
  | 0 => none
  | n + 1 => @ite (Option Nat) (p n) (Classical.propDecidable _) (some n) (gr p n)
theorem gr_t {p : Nat → Prop} {n : Nat} (h : p n) : gr p (n + 1) = some n := @if_pos _ (Classical.propDecidable _) h _ _ _
theorem gr_f {p : Nat → Prop} {n : Nat} (h : ¬ p n) : gr p (n + 1) = gr p n := @if_neg _ (Classical.propDecidable _) h _ _ _
theorem gr_spec {p : Nat → Prop} : ∀ {n k : Nat}, gr p n = some k ↔ (k < n ∧ p k ∧ ∀ j, k < j → j < n → ¬ p j)
  | 0, k => by simp [gr]
  | n + 1, k => by
    by_cases h : p n
    · rw [gr_t h]
      constructor
      · intro q; cases q; exact ⟨Nat.lt_succ_self _, h, fun j h1 h2 => by omega⟩
      · rintro ⟨h1, h2, h3⟩
        rcases Nat.lt_or_ge k n with q | q
        · exact absurd h (h3 n q (Nat.lt_succ_self _))
        · rw [show k = n by omega]
    · rw [gr_f h, gr_spec]
      constructor
      · rintro ⟨h1, h2, h3⟩
        exact ⟨by omega, h2, fun j q1 q2 => by
          rcases Nat.lt_or_ge j n with z | z
          · exact h3 j q1 z
          · rw [show j = n by omega]; exact h⟩
      · rintro ⟨h1, h2, h3⟩
        have : k ≠ n := fun e => h (e ▸ h2)
        exact ⟨by omega, h2, fun j q1 q2 => h3 j q1 (by omega)⟩
theorem gr_none {p : Nat → Prop} : ∀ {n : Nat}, gr p n = none ↔ ∀ j, j < n → ¬ p j
  | 0 => by simp [gr]
  | n + 1 => by
    by_cases h : p n
    · rw [gr_t h]
      constructor
      · intro q; cases q
      · intro q; exact absurd h (q n (Nat.lt_succ_self _))
    · rw [gr_f h, gr_none]
      constructor
      · intro q j hj
        rcases Nat.lt_or_ge j n with z | z
        · exact q j z
        · rw [show j = n by omega]; exact h
      · intro q j hj; exact q j (by omega)
theorem gr_congr {p q : Nat → Prop} : ∀ {n : Nat}, (∀ j, j < n → (p j ↔ q j)) → gr p n = gr q n
  | 0, _ => rfl
  | n + 1, h => by
    have ih := gr_congr (p := p) (q := q) (n := n) (fun j hj => h j (by omega))
    by_cases z : p n
    · rw [gr_t z, gr_t ((h n (by omega)).mp z)]
    · rw [gr_f z, gr_f (fun y => z ((h n (by omega)).mpr y)), ih]
/-- a fold over the numbers below n -/
def itn {σ : Type} (f : Nat → σ → σ) : Nat → σ → σ
  | 0, s => s
  | n + 1, s => f n (itn f n s)
theorem itn_congr {σ : Type} {f g : Nat → σ → σ} : ∀ {n : Nat} {s : σ}, (∀ j, j < n → ∀ x, f j x = g j x) → itn f n s = itn g n s
  | 0, _, _ => rfl
  | n + 1, s, h => by
    show f n (itn f n s) = g n (itn g n s)
    rw [itn_congr (g := g) (fun j hj => h j (Nat.lt_succ_of_lt hj)), h n (Nat.lt_succ_self n)]
theorem itn_add {σ : Type} {f : Nat → σ → σ} (m : Nat) : ∀ (n : Nat) (s : σ), itn f (m + n) s = itn (fun k => f (m + k)) n (itn f m s)
  | 0, _ => rfl
  | n + 1, s => by
    show f (m + n) (itn f (m + n) s) = f (m + n) (itn (fun k => f (m + k)) n (itn f m s))
    rw [itn_add m n s]
theorem sm_itn (f : Nat → Nat) : ∀ n : Nat, sm f n = itn (fun k x => x + f k) n 0
  | 0 => rfl
  | n + 1 => by
    show sm f n + f n = itn (fun k x => x + f k) n 0 + f n
    rw [sm_itn f n]
/-- the slots of a version, four to a bar, against the sheaves of a piece of b bars of q parts, one behind another -/
theorem itn_slots {σ : Type} (g : Nat → σ → σ) {b q : Nat} (hb : b ≤ 8) (hq : q ≤ 4) (s : σ) :
    itn (fun j x => if j / 4 < b ∧ j % 4 < q then g (q * (j / 4) + j % 4) x else x) 32 s = itn g (b * q) s := by
  have h4 : ∀ i : Nat, ∀ x : σ, itn (fun j y => if j / 4 < b ∧ j % 4 < q then g (q * (j / 4) + j % 4) y else y) (4 * i) x = itn g (min i b * q) x := by
    intro i
    induction i with
    | zero => intro x; simp [itn]
    | succ i ih =>
      intro x
      have hm : itn g (min (i + 1) b * q) x = if i < b then itn (fun k => g (q * i + k)) q (itn g (min i b * q) x) else itn g (min i b * q) x := by
        by_cases h : i < b
        · rw [if_pos h, show min (i + 1) b = i + 1 by omega, show min i b = i by omega, Nat.succ_mul, itn_add, Nat.mul_comm i q]
        · rw [if_neg h, show min (i + 1) b = min i b by omega]
      rw [Nat.mul_succ, itn_add, ih x, hm]
      generalize itn g (min i b * q) x = y
      have e1 : (4 * i) / 4 = i := by omega
      have e2 : (4 * i + 1) / 4 = i := by omega
      have e3 : (4 * i + 2) / 4 = i := by omega
      have e4 : (4 * i + 3) / 4 = i := by omega
      have f1 : (4 * i) % 4 = 0 := by omega
      have f2 : (4 * i + 1) % 4 = 1 := by omega
      have f3 : (4 * i + 2) % 4 = 2 := by omega
      have f4 : (4 * i + 3) % 4 = 3 := by omega
      simp only [itn, Nat.add_zero, e1, e2, e3, e4, f1, f2, f3, f4]
      by_cases h : i < b
      · rcases (show q = 0 ∨ q = 1 ∨ q = 2 ∨ q = 3 ∨ q = 4 by omega) with rfl | rfl | rfl | rfl | rfl <;> simp [itn, h]
      · simp [h]
  have h8 := h4 8 s
  rw [show min 8 b = b by omega] at h8
  exact h8
