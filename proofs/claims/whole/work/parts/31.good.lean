/-! every call keeps the state's good form -/
theorem wf_note {S : sp_S} (h : sp_wf S) {t : Nat} (ht : t < 100) (hl : (sp_ty S).length < 8) : sp_wf (s_note S t) := by
  obtain ⟨⟨n1, n2, n3, n4, n5⟩, h2⟩ := h
  refine ⟨⟨n1, n2, n3, by rw [ty_note]; omega, fun x hx => ?_⟩, h2⟩
  have hx : x ∈ sp_ty S ++ [t] := hx
  rcases List.mem_append.mp hx with w | w
  · exact n5 x w
  · rw [List.mem_singleton.mp w]; omega
theorem wf_wipe {S : sp_S} (h : sp_wf S) : sp_wf (s_wipe S) := by
  obtain ⟨⟨n1, n2, n3, n4, n5⟩, h2⟩ := h
  exact ⟨⟨n1, n2, n3, Nat.zero_le _, fun x hx => by cases hx⟩, h2⟩
theorem wf_rule {S : sp_S} (h : sp_wf S) {i q r : Nat} (hr : r = 98 ∨ r = 108 ∨ r = 110) : sp_wf (s_rule S i q r) := by
  obtain ⟨h1, ⟨p1, p2⟩, h3⟩ := h
  refine ⟨h1, ⟨p1, fun j k => ?_⟩, h3⟩
  show (if j = i ∧ k = q then r else sp_ru S j k) = 98 ∨ (if j = i ∧ k = q then r else sp_ru S j k) = 108 ∨ (if j = i ∧ k = q then r else sp_ru S j k) = 110
  by_cases e : j = i ∧ k = q
  · rw [if_pos e]; exact hr
  · rw [if_neg e]; exact p2 j k
theorem wf_hear0 {S : sp_S} (h : sp_wf S) {r v : Nat} (hv : v < sp_nv S) : sp_wf (s_hear0 S (sp_vp S v) r v) := by
  obtain ⟨h1, h2, h3, h4, h5, h6, h7⟩ := h
  refine ⟨h1, h2, h3, h4, fun j q => ?_, h6, h7⟩
  obtain ⟨a1, a2, a3, a4⟩ := h5 j q
  have hvp := (h3 v hv).1
  show (∀ k, (if j = sp_vp S v ∧ q = r then 0 else sp_mk S j q k) ≤ 21 ∧ ((if j = sp_vp S v ∧ q = r then 0 else sp_ct S j q k) = (if j = sp_vp S v ∧ q = r then 0 else sp_mk S j q k) ∨ (if j = sp_vp S v ∧ q = r then 0 else sp_ct S j q k) = 0) ∧ ((if j = sp_vp S v ∧ q = r then v + 1 else sp_hv S j q) = 0 → (if j = sp_vp S v ∧ q = r then 0 else sp_mk S j q k) = 0) ∧ (sp_np S ≤ j → (if j = sp_vp S v ∧ q = r then 0 else sp_mk S j q k) = 0)) ∧ (if j = sp_vp S v ∧ q = r then v + 1 else sp_hv S j q) ≤ sp_nv S ∧ ((if j = sp_vp S v ∧ q = r then v + 1 else sp_hv S j q) ≠ 0 → sp_vp S ((if j = sp_vp S v ∧ q = r then v + 1 else sp_hv S j q) - 1) = j) ∧ (sp_np S ≤ j → (if j = sp_vp S v ∧ q = r then v + 1 else sp_hv S j q) = 0)
  by_cases e : j = sp_vp S v ∧ q = r
  · simp only [if_pos e]
    exact ⟨fun _ => ⟨Nat.zero_le _, Or.inl trivial, fun _ => trivial, fun _ => trivial⟩, by omega, fun _ => e.1.symm, fun w => by omega⟩
  · simp only [if_neg e]
    exact ⟨a1, a2, a3, a4⟩
theorem wf_hear {S : sp_S} (h : sp_wf S) {r v : Nat} (hv : v < sp_nv S) : sp_wf (s_hear S (sp_vp S v) r v) := by
  unfold s_hear
  by_cases e : sp_hv S (sp_vp S v) r = v + 1
  · rw [if_pos e]; exact h
  · rw [if_neg e]; exact wf_hear0 h hv
theorem wf_mark {S : sp_S} (h : sp_wf S) {i r j t : Nat} (ht : t ≤ 21) (hi : i < sp_np S) (hh : sp_hv S i r ≠ 0) : sp_wf (s_mark S i r j t) := by
  obtain ⟨h1, h2, h3, h4, h5, h6, h7⟩ := h
  refine ⟨h1, h2, h3, h4, fun i2 r2 => ?_, h6, h7⟩
  obtain ⟨a1, a2, a3, a4⟩ := h5 i2 r2
  refine ⟨fun k => ?_, a2, a3, a4⟩
  obtain ⟨b1, b2, b3, b4⟩ := a1 k
  show (if i2 = i ∧ r2 = r ∧ k = j then t else sp_mk S i2 r2 k) ≤ 21 ∧ ((if i2 = i ∧ r2 = r ∧ k = j then t else sp_ct S i2 r2 k) = (if i2 = i ∧ r2 = r ∧ k = j then t else sp_mk S i2 r2 k) ∨ (if i2 = i ∧ r2 = r ∧ k = j then t else sp_ct S i2 r2 k) = 0) ∧ (sp_hv S i2 r2 = 0 → (if i2 = i ∧ r2 = r ∧ k = j then t else sp_mk S i2 r2 k) = 0) ∧ (sp_np S ≤ i2 → (if i2 = i ∧ r2 = r ∧ k = j then t else sp_mk S i2 r2 k) = 0)
  by_cases e : i2 = i ∧ r2 = r ∧ k = j
  · simp only [if_pos e]
    exact ⟨ht, Or.inl trivial, fun w => absurd (by rw [← e.1, ← e.2.1]; exact w) hh, fun w => by omega⟩
  · simp only [if_neg e]
    exact ⟨b1, b2, b3, b4⟩
theorem wf_ed {S : sp_S} (hV : sw_V S) {v : Nat} (hv : v < sp_nv S) : ∀ j, j < 32 → ∀ rs, sp_sl S v j = some rs → ∀ r ∈ rs, r.1 < 6 := by
  intro j hj rs e r hr
  obtain ⟨w1, w2, rfl⟩ := sl_bd e
  have hk : sp_pa S (sp_vp S v) * (j / 4) + j % 4 < sp_ba S (sp_vp S v) * sp_pa S (sp_vp S v) := by
    have := Nat.mul_le_mul_right (sp_pa S (sp_vp S v)) (show j / 4 + 1 ≤ sp_ba S (sp_vp S v) from w1)
    rw [Nat.succ_mul, Nat.mul_comm (j / 4)] at this
    omega
  exact (((hV v hv).2.2.2.2 _ hk).2.2 r hr).1
theorem wf_give {S : sp_S} (h : sp_wf S) {v co : Nat} (hv : v < sp_nv S) (h1 : 1 ≤ co) (h2 : co ≤ 9999) (hz : sp_nz S < 12) : sp_wf (s_give S v co) := by
  obtain ⟨⟨n1, n2, n3, n4, n5⟩, hP, hV, hA, hH, hZ, hF⟩ := h
  refine ⟨⟨n1, n2, hz, n4, n5⟩, hP, hV, hA, hH, fun z w => ?_, hF⟩
  have w : z < sp_nz S + 1 := w
  show va_up (sp_zv S) (sp_nz S) v z < sp_nv S ∧ 1 ≤ va_up (sp_zc S) (sp_nz S) co z ∧ va_up (sp_zc S) (sp_nz S) co z ≤ 9999 ∧ sm (va_up (sp_zs S) (sp_nz S) (pz_sh (fun e => sp_w (sp_sl S v) (2 ^ e)) (sp_w (sp_sl S v) 63) co) z) 6 = va_up (sp_zc S) (sp_nz S) co z
  by_cases e : z = sp_nz S
  · subst e
    simp only [va_up_self]
    exact ⟨hv, h1, h2, pz_all (sp_w6 (wf_ed hV hv)) (w_pos hP hV hv)⟩
  · simp only [va_up_ne _ _ e]
    exact hZ z (by omega)
theorem wf_ask1 {S : sp_S} (h : sp_wf S) (v n : Nat) : sp_wf (s_ask1 S v n) := by
  obtain ⟨h1, h2, h3, h4, h5, h6, h7⟩ := h
  refine ⟨h1, h2, h3, h4, fun i r => ?_, h6, h7⟩
  obtain ⟨a1, a2, a3, a4⟩ := h5 i r
  refine ⟨fun k => ?_, a2, a3, a4⟩
  obtain ⟨b1, b2, b3, b4⟩ := a1 k
  show sp_mk S i r k ≤ 21 ∧ ((if i = sp_vp S v ∧ r < n ∧ sp_hv S i r = v + 1 then 0 else sp_ct S i r k) = sp_mk S i r k ∨ (if i = sp_vp S v ∧ r < n ∧ sp_hv S i r = v + 1 then 0 else sp_ct S i r k) = 0) ∧ _
  by_cases e : i = sp_vp S v ∧ r < n ∧ sp_hv S i r = v + 1
  · rw [if_pos e]; exact ⟨b1, Or.inr rfl, b3, b4⟩
  · rw [if_neg e]; exact ⟨b1, b2, b3, b4⟩
theorem wf_ask {S : sp_S} (h : sp_wf S) (m v : Nat) : sp_wf (s_ask S m v) := by
  unfold s_ask
  by_cases e : sp_un (sp_sl S m) (sp_sl S v) 32 = 0
  · rw [pI_t e]; exact h
  · rw [pI_f e]; exact wf_ask1 h v 4
theorem tb_lt {a n k : Nat} (h : a < 2 ^ n) (hb : a.testBit k = true) : k < n := by
  apply Classical.byContradiction
  intro w
  have := Nat.testBit_lt_two_pow (Nat.lt_of_lt_of_le h (Nat.pow_le_pow_right (by decide) (Nat.not_lt.mp w)))
  rw [this] at hb
  cases hb
theorem sm_at {f : Nat → Nat} {i : Nat} : ∀ {n : Nat}, (∀ j, j < n → j ≠ i → f j = 0) → f i ≤ 1 → sm f n ≤ 1
  | 0, _, _ => Nat.zero_le _
  | n + 1, h, h1 => by
    show sm f n + f n ≤ 1
    by_cases e : n = i
    · rw [sm_zero (fun j hj => h j (by omega) (by omega)), e]; omega
    · rw [h n (by omega) e]
      exact sm_at (fun j hj => h j (by omega)) h1

theorem wv_add {S S' : sp_S} (h : sp_wf S) (hn : sp_nv S' = sp_nv S + 1) (hp : sp_np S ≤ sp_np S')
    (ho : ∀ u, u < sp_nv S → sp_vp S' u = sp_vp S u ∧ sp_q1 S' u = sp_q1 S u ∧ sp_q2 S' u = sp_q2 S u ∧ sp_am S' u = sp_am S u ∧ sp_sl S' u = sp_sl S u ∧ sp_sv S' u = sp_sv S u ∧ sp_ba S' (sp_vp S u) = sp_ba S (sp_vp S u) ∧ sp_pa S' (sp_vp S u) = sp_pa S (sp_vp S u) ∧ sp_fi S' (sp_vp S u) = sp_fi S (sp_vp S u))
    (n1 : sp_vp S' (sp_nv S) < sp_np S') (n2 : sp_q1 S' (sp_nv S) ≤ sp_nv S) (n3 : sp_q2 S' (sp_nv S) ≤ sp_nv S) (n4 : sp_am S' (sp_nv S) < 2 ^ (sp_nv S + 1))
    (n5 : ∀ k, k < sp_ba S' (sp_vp S' (sp_nv S)) * sp_pa S' (sp_vp S' (sp_nv S)) → 1 ≤ (sp_sv S' (sp_nv S) k).length ∧ (sp_sv S' (sp_nv S) k).length ≤ 4 ∧ ∀ r ∈ sp_sv S' (sp_nv S) k, sp_rok r)
    (n6 : ∀ k, (sp_am S' (sp_nv S)).testBit k = true ↔ (k = sp_nv S ∨ (sp_q1 S' (sp_nv S) ≠ 0 ∧ (sp_am S (sp_q1 S' (sp_nv S) - 1)).testBit k = true) ∨ (sp_q2 S' (sp_nv S) ≠ 0 ∧ (sp_am S (sp_q2 S' (sp_nv S) - 1)).testBit k = true)))
    (n7 : ∀ k, k < sp_nv S → (sp_am S' (sp_nv S)).testBit k = true → sp_vp S k = sp_vp S' (sp_nv S)) (n8 : (sp_am S' (sp_nv S)).testBit (sp_fi S' (sp_vp S' (sp_nv S))) = true)
    (n9 : sp_q1 S' (sp_nv S) ≠ 0 → sp_q2 S' (sp_nv S) = 0 → sp_vp S (sp_q1 S' (sp_nv S) - 1) = sp_vp S' (sp_nv S) ∧ sp_un (sp_sl S' (sp_nv S)) (sp_sl S (sp_q1 S' (sp_nv S) - 1)) 32 ≤ 1) : sw_V S' ∧ sw_A S' ∧ sw_F S' := by
  obtain ⟨-, hP, hV, hA, -, -, hF⟩ := h
  refine ⟨fun u hu => ?_, fun u hu => ?_, fun u hu => ?_⟩
  · rw [hn] at hu
    by_cases e : u = sp_nv S
    · subst e; exact ⟨n1, n2, n3, n4, n5⟩
    · obtain ⟨e1, e2, e3, e4, e5, e6, e7, e8, e9⟩ := ho u (by omega)
      rw [e1, e2, e3, e4, e6, e7, e8]
      obtain ⟨a1, a2, a3, a4, a5⟩ := hV u (by omega)
      exact ⟨by omega, a2, a3, a4, a5⟩
  · rw [hn] at hu
    by_cases e : u = sp_nv S
    · subst e
      refine ⟨fun k => ?_, fun k hk => ?_, n8⟩
      · rw [n6 k]
        refine ⟨fun w => ?_, fun w => ?_⟩
        · rcases w with w | ⟨w1, w2⟩ | ⟨w1, w2⟩
          · exact Or.inl w
          · exact Or.inr (Or.inl ⟨w1, by rw [(ho _ (by omega)).2.2.2.1]; exact w2⟩)
          · exact Or.inr (Or.inr ⟨w1, by rw [(ho _ (by omega)).2.2.2.1]; exact w2⟩)
        · rcases w with w | ⟨w1, w2⟩ | ⟨w1, w2⟩
          · exact Or.inl w
          · rw [(ho _ (by omega)).2.2.2.1] at w2; exact Or.inr (Or.inl ⟨w1, w2⟩)
          · rw [(ho _ (by omega)).2.2.2.1] at w2; exact Or.inr (Or.inr ⟨w1, w2⟩)
      · have kl := tb_lt n4 hk
        by_cases e2 : k = sp_nv S
        · rw [e2]
        · rw [(ho k (by omega)).1]; exact n7 k (by omega) hk
    · obtain ⟨e1, e2, e3, e4, e5, e6, e7, e8, e9⟩ := ho u (by omega)
      obtain ⟨a1, a2, a3⟩ := hA u (by omega)
      obtain ⟨-, b2, b3, b4, -⟩ := hV u (by omega)
      rw [e1, e2, e3, e4, e9, (ho (sp_q1 S u - 1) (by omega)).2.2.2.1, (ho (sp_q2 S u - 1) (by omega)).2.2.2.1]
      exact ⟨a1, fun k hk => by rw [(ho k (by have := tb_lt b4 hk; omega)).1]; exact a2 k hk, a3⟩
  · rw [hn] at hu
    by_cases e : u = sp_nv S
    · subst e
      intro w1 w2
      have hu2 : sp_q1 S' (sp_nv S) - 1 < sp_nv S := by omega
      rw [(ho _ hu2).1, (ho _ hu2).2.2.2.2.1]
      exact n9 w1 w2
    · obtain ⟨e1, e2, e3, e4, e5, e6, e7, e8, e9⟩ := ho u (by omega)
      rw [e1, e2, e3, e5]
      intro w1 w2
      have hu2 : sp_q1 S u - 1 < sp_nv S := by have := (hV u (by omega)).2.1; omega
      rw [(ho _ hu2).1, (ho _ hu2).2.2.2.2.1]
      exact hF u (by omega) w1 w2
theorem wh_add {S S' : sp_S} (h : sp_wf S) (hn : sp_nv S ≤ sp_nv S') (hp : sp_np S ≤ sp_np S') (hh : S'.2.2.1 = S.2.2.1) (hz : S'.2.2.2.1 = S.2.2.2.1) (ho : ∀ u, u < sp_nv S → sp_vp S' u = sp_vp S u) : sw_H S' ∧ sw_Z S' := by
  obtain ⟨-, -, -, -, hH, hZ, -⟩ := h
  have e1 : sp_hv S' = sp_hv S := by unfold sp_hv; rw [hh]
  have e2 : sp_mk S' = sp_mk S := by unfold sp_mk; rw [hh]
  have e3 : sp_ct S' = sp_ct S := by unfold sp_ct; rw [hh]
  have z1 : sp_nz S' = sp_nz S := by unfold sp_nz; rw [hz]
  have z2 : sp_zv S' = sp_zv S := by unfold sp_zv; rw [hz]
  have z3 : sp_zc S' = sp_zc S := by unfold sp_zc; rw [hz]
  have z4 : sp_zs S' = sp_zs S := by unfold sp_zs; rw [hz]
  refine ⟨fun i r => ?_, fun z w => ?_⟩
  · obtain ⟨a1, a2, a3, a4⟩ := hH i r
    rw [e1, e2, e3]
    refine ⟨fun j => ⟨(a1 j).1, (a1 j).2.1, (a1 j).2.2.1, fun w => (a1 j).2.2.2 (by omega)⟩, by omega, fun w => ?_, fun w => a4 (by omega)⟩
    rw [ho _ (by omega)]; exact a3 w
  · rw [z1] at w
    rw [z2, z3, z4]
    obtain ⟨b1, b2⟩ := hZ z w
    exact ⟨by omega, b2⟩
theorem tb_or (a n k : Nat) : (a ||| 2 ^ n).testBit k = true ↔ k = n ∨ a.testBit k = true := by
  rw [Nat.testBit_or, Bool.or_eq_true, Nat.testBit_two_pow]
  constructor
  · rintro (h | h)
    · exact Or.inr h
    · exact Or.inl (by have := of_decide_eq_true h; omega)
  · rintro (h | h)
    · exact Or.inr (decide_eq_true h.symm)
    · exact Or.inl h
theorem wf_piece {S : sp_S} (h : sp_wf S) {b q : Nat} (b1 : 1 ≤ b) (b2 : b ≤ 8) (q1 : 1 ≤ q) (q2 : q ≤ 4) (hp : sp_np S < 6) (hv : sp_nv S < 40) : sp_wf (s_piece S b q) := by
  have h0 := h
  obtain ⟨⟨n1, n2, n3, n4, n5⟩, ⟨hP, hR⟩, hV, hA, hH, hZ, hF⟩ := h0
  have ev : sp_vp (s_piece S b q) (sp_nv S) = sp_np S := va_up_self _ _ _
  have ea : sp_am (s_piece S b q) (sp_nv S) = 2 ^ sp_nv S := va_up_self _ _ _
  have es : sp_sv (s_piece S b q) (sp_nv S) = fun _ => [(0, [])] := va_up_self _ _ _
  have e1 : sp_q1 (s_piece S b q) (sp_nv S) = 0 := va_up_self _ _ _
  have e2 : sp_q2 (s_piece S b q) (sp_nv S) = 0 := va_up_self _ _ _
  have ef : sp_fi (s_piece S b q) (sp_np S) = sp_nv S := va_up_self _ _ _
  have hold : ∀ u, u < sp_nv S → sp_vp (s_piece S b q) u = sp_vp S u := fun u hu => va_up_ne _ _ (by omega)
  have hw : sw_V (s_piece S b q) ∧ sw_A (s_piece S b q) ∧ sw_F (s_piece S b q) := wv_add h rfl (Nat.le_succ _) (fun u hu => by
    have hvu := (hV u hu).1
    exact ⟨hold u hu, va_up_ne _ _ (by omega), va_up_ne _ _ (by omega), va_up_ne _ _ (by omega), sl_eq (S' := s_piece S b q) (hold u hu) (va_up_ne _ _ (by omega)) (va_up_ne _ _ (by omega)) (va_up_ne _ _ (by omega)), va_up_ne _ _ (by omega), va_up_ne _ _ (by omega), va_up_ne _ _ (by omega), va_up_ne _ _ (by omega)⟩)
    (by rw [ev]; exact Nat.lt_succ_self _) (by rw [e1]; exact Nat.zero_le _) (by rw [e2]; exact Nat.zero_le _) (by rw [ea]; exact Nat.pow_lt_pow_right (by decide) (Nat.lt_succ_self _))
    (fun k _ => by rw [es]; exact ⟨Nat.le_refl _, (show (1 : Nat) ≤ 4 by decide), fun r hr => by rw [List.mem_singleton.mp hr]; exact ⟨by decide, Nat.zero_le _, fun x hx => by cases hx⟩⟩)
    (fun k => by rw [ea, e1, e2, Nat.testBit_two_pow]; exact ⟨fun w => Or.inl (of_decide_eq_true w).symm, fun w => by rcases w with w | ⟨w, -⟩ | ⟨w, -⟩; exact decide_eq_true w.symm; exact absurd rfl w; exact absurd rfl w⟩) (fun k kl hk => by rw [ea, Nat.testBit_two_pow] at hk; have := of_decide_eq_true hk; omega) (by rw [ev, ef, ea, Nat.testBit_two_pow]; simp) (fun w => absurd e1 w)
  obtain ⟨w1, w2⟩ := wh_add (S' := s_piece S b q) h (Nat.le_succ _) (Nat.le_succ _) rfl rfl hold
  refine ⟨⟨hp, hv, n3, n4, n5⟩, ⟨fun i hi => ?_, fun i k => ?_⟩, hw.1, hw.2.1, w1, w2, hw.2.2⟩
  · have hi : i < sp_np S + 1 := hi
    show 1 ≤ va_up (sp_ba S) (sp_np S) b i ∧ va_up (sp_ba S) (sp_np S) b i ≤ 8 ∧ 1 ≤ va_up (sp_pa S) (sp_np S) q i ∧ va_up (sp_pa S) (sp_np S) q i ≤ 4 ∧ va_up (sp_fi S) (sp_np S) (sp_nv S) i < sp_nv S + 1 ∧ va_up (sp_vp S) (sp_nv S) (sp_np S) (va_up (sp_fi S) (sp_np S) (sp_nv S) i) = i
    by_cases e : i = sp_np S
    · subst e
      simp only [va_up_self]
      exact ⟨b1, b2, q1, q2, Nat.lt_succ_self _, trivial⟩
    · simp only [va_up_ne _ _ e]
      obtain ⟨a1, a2, a3, a4, a5, a6⟩ := hP i (by omega)
      exact ⟨a1, a2, a3, a4, by omega, by rw [va_up_ne _ _ (by omega)]; exact a6⟩
  · show (if i = sp_np S then 98 else sp_ru S i k) = 98 ∨ (if i = sp_np S then 98 else sp_ru S i k) = 108 ∨ (if i = sp_np S then 98 else sp_ru S i k) = 110
    by_cases e : i = sp_np S
    · rw [if_pos e]; exact Or.inl rfl
    · rw [if_neg e]; exact hR i k

theorem wf_write {S : sp_S} (h : sp_wf S) {v e b p : Nat} (hv : v < sp_nv S) (hn : sp_nv S < 40) (he : e < 6) (hb : b < sp_ba S (sp_vp S v)) (hp : p < sp_pa S (sp_vp S v)) : sp_wf (s_write S v e b p) := by
  have h0 := h
  obtain ⟨⟨n1, n2, n3, n4, n5⟩, ⟨hP, hR⟩, hV, hA, hH, hZ, hF⟩ := h0
  obtain ⟨c1, c2, c3, c4, c5⟩ := hV v hv
  obtain ⟨d1, d2, d3, d4, d5, d6⟩ := hP _ c1
  have ev : sp_vp (s_write S v e b p) (sp_nv S) = sp_vp S v := va_up_self _ _ _
  have ea : sp_am (s_write S v e b p) (sp_nv S) = sp_am S v ||| 2 ^ sp_nv S := va_up_self _ _ _
  have es : sp_sv (s_write S v e b p) (sp_nv S) = va_up (sp_sv S v) (sp_pa S (sp_vp S v) * b + p) [(e, sp_ty S)] := va_up_self _ _ _
  have e1 : sp_q1 (s_write S v e b p) (sp_nv S) = v + 1 := va_up_self _ _ _
  have e2 : sp_q2 (s_write S v e b p) (sp_nv S) = 0 := va_up_self _ _ _
  have hold : ∀ u, u < sp_nv S → sp_vp (s_write S v e b p) u = sp_vp S u := fun u hu => va_up_ne _ _ (by omega)
  have hw : sw_V (s_write S v e b p) ∧ sw_A (s_write S v e b p) ∧ sw_F (s_write S v e b p) := wv_add h rfl (Nat.le_refl _) (fun u hu => ⟨hold u hu, va_up_ne _ _ (by omega), va_up_ne _ _ (by omega), va_up_ne _ _ (by omega), sl_eq (S' := s_write S v e b p) (hold u hu) rfl rfl (va_up_ne _ _ (by omega)), va_up_ne _ _ (by omega), rfl, rfl, rfl⟩)
    (by rw [ev]; exact c1) (by rw [e1]; exact hv) (by rw [e2]; exact Nat.zero_le _) (by rw [ea]; exact ta_or c4 _ hv)
    (fun k hk => by
      rw [ev] at hk
      rw [es]
      by_cases q : k = sp_pa S (sp_vp S v) * b + p
      · rw [q, va_up_self]
        exact ⟨Nat.le_refl _, (show (1 : Nat) ≤ 4 by decide), fun r hr => by rw [List.mem_singleton.mp hr]; exact ⟨he, n4, n5⟩⟩
      · rw [va_up_ne _ _ q]; exact c5 k hk)
    (fun k => by
      rw [ea, e1, e2, tb_or]
      exact ⟨fun w => w.elim Or.inl (fun w => Or.inr (Or.inl ⟨Nat.succ_ne_zero _, w⟩)), fun w => by rcases w with w | ⟨-, w⟩ | ⟨w, -⟩; exact Or.inl w; exact Or.inr w; exact absurd rfl w⟩)
    (fun k kl hk => by
      rw [ea, tb_or] at hk
      rw [ev]
      rcases hk with w | w
      · omega
      · exact (hA v hv).2.1 k w)
    (by rw [ev, ea, tb_or]; exact Or.inr (hA v hv).2.2)
    (fun _ _ => by
      rw [e1, ev]
      refine ⟨rfl, sm_at (i := b * 4 + p) (fun j _ w => ?_) ?_⟩
      · show pI (sp_oal _ _) 0 1 = 0
        rw [sl_wr hb hp (by omega), if_neg w, pI_t]
        intro x y q1 q2
        rw [show v + 1 - 1 = v from rfl, q1] at q2
        cases q2
        exact sp_al_rf x
      · show pI _ 0 1 ≤ 1
        by_cases w : sp_oal (sp_sl (s_write S v e b p) (sp_nv S) (b * 4 + p)) (sp_sl S (v + 1 - 1) (b * 4 + p))
        · rw [pI_t w]; decide
        · rw [pI_f w]; exact Nat.le_refl _)
  obtain ⟨w1, w2⟩ := wh_add (S' := s_write S v e b p) h (Nat.le_succ _) (Nat.le_refl _) rfl rfl hold
  refine ⟨⟨n1, hn, n3, Nat.zero_le _, fun x hx => by cases hx⟩, ⟨fun i hi => ?_, hR⟩, hw.1, hw.2.1, w1, w2, hw.2.2⟩
  obtain ⟨a1, a2, a3, a4, a5, a6⟩ := hP i hi
  exact ⟨a1, a2, a3, a4, Nat.lt_succ_of_lt a5, (hold _ a5).trans a6⟩
theorem jn_ok {a b : sp_Sh} (ha : ∀ r ∈ a, sp_rok r) (hb : ∀ r ∈ b, sp_rok r) (h1 : 1 ≤ a.length) : ∀ k, k ≤ b.length → (∀ r ∈ sp_jn a b k, sp_rok r) ∧ 1 ≤ (sp_jn a b k).length
  | 0, _ => ⟨ha, h1⟩
  | k + 1, hk => by
    obtain ⟨i1, i2⟩ := jn_ok ha hb h1 k (by omega)
    have hm : b.getD k sp_d0 ∈ b := by
      rw [List.getD_eq_getElem?_getD, List.getElem?_eq_getElem (show k < b.length by omega)]; exact List.getElem_mem _
    show (∀ r ∈ (pI _ _ _ : sp_Sh), sp_rok r) ∧ 1 ≤ (pI _ _ _ : sp_Sh).length
    by_cases q : sp_has (sp_jn a b k) (b.getD k sp_d0) ∨ 4 ≤ (sp_jn a b k).length
    · rw [pI_t q]; exact ⟨i1, i2⟩
    · rw [pI_f q]
      refine ⟨fun r hr => ?_, by rw [List.length_append]; omega⟩
      rcases List.mem_append.mp hr with w | w
      · exact i1 r w
      · rw [List.mem_singleton.mp w]; exact hb _ hm
def sp_ok (a : sp_Sh) : Prop := 1 ≤ a.length ∧ a.length ≤ 4 ∧ ∀ r ∈ a, sp_rok r
theorem pI_p {α : Type} {R : α → Prop} {P : Prop} {x y : α} (hx : R x) (hy : R y) : R (pI P x y) := by
  by_cases q : P
  · rw [pI_t q]; exact hx
  · rw [pI_f q]; exact hy
theorem m1_ok {r : Nat} {gt : Prop} {a b z : sp_Sh} (ha : sp_ok a) (hb : sp_ok b) : sp_ok (sp_m1 r gt a b z) := by
  unfold sp_m1
  refine pI_p ha (pI_p hb (pI_p (pI_p ha hb) (pI_p ?_ ?_)))
  · by_cases q : sp_no a < sp_no b
    · rw [if_pos q]; exact hb
    · rw [if_neg q]; exact ha
  · obtain ⟨w1, w2⟩ := jn_ok ha.2.2 hb.2.2 ha.1 b.length (Nat.le_refl _)
    exact ⟨w2, sp_jn_len ha.2.1 _, w1⟩
theorem wf_merge0 {S : sp_S} (h : sp_wf S) {v w : Nat} (hv : v < sp_nv S) (hw : w < sp_nv S) (hn : sp_nv S < 40) (hvw : sp_vp S v = sp_vp S w) : sp_wf (s_merge0 S v w) := by
  have h0 := h
  obtain ⟨⟨n1, n2, n3, n4, n5⟩, ⟨hP, hR⟩, hV, hA, hH, hZ, hF⟩ := h0
  obtain ⟨c1, c2, c3, c4, c5⟩ := hV v hv
  obtain ⟨g1, g2, g3, g4, g5⟩ := hV w hw
  rw [← hvw] at g5
  have ev : sp_vp (s_merge0 S v w) (sp_nv S) = sp_vp S v := va_up_self _ _ _
  have ea : sp_am (s_merge0 S v w) (sp_nv S) = sp_am S v ||| sp_am S w ||| 2 ^ sp_nv S := va_up_self _ _ _
  have es : sp_sv (s_merge0 S v w) (sp_nv S) = _ := va_up_self _ _ _
  have e1 : sp_q1 (s_merge0 S v w) (sp_nv S) = v + 1 := va_up_self _ _ _
  have e2 : sp_q2 (s_merge0 S v w) (sp_nv S) = w + 1 := va_up_self _ _ _
  have hold : ∀ u, u < sp_nv S → sp_vp (s_merge0 S v w) u = sp_vp S u := fun u hu => va_up_ne _ _ (by omega)
  have lt9 : ∀ u, u < sp_nv S → sp_am S u < 2 ^ (sp_nv S + 1) := fun u hu => Nat.lt_of_lt_of_le (hV u hu).2.2.2.1 (Nat.pow_le_pow_right (by decide) (by omega))
  have hww : sw_V (s_merge0 S v w) ∧ sw_A (s_merge0 S v w) ∧ sw_F (s_merge0 S v w) := wv_add h rfl (Nat.le_refl _) (fun u hu => ⟨hold u hu, va_up_ne _ _ (by omega), va_up_ne _ _ (by omega), va_up_ne _ _ (by omega), sl_eq (S' := s_merge0 S v w) (hold u hu) rfl rfl (va_up_ne _ _ (by omega)), va_up_ne _ _ (by omega), rfl, rfl, rfl⟩)
    (by rw [ev]; exact c1) (by rw [e1]; exact hv) (by rw [e2]; exact hw) (by rw [ea]; exact Nat.or_lt_two_pow (Nat.or_lt_two_pow (lt9 v hv) (lt9 w hw)) (Nat.pow_lt_pow_right (by decide) (Nat.lt_succ_self _)))
    (fun k hk => by
      rw [ev] at hk
      rw [es]
      exact m1_ok (c5 k hk) (g5 k hk))
    (fun k => by
      rw [ea, e1, e2, tb_or, Nat.testBit_or, Bool.or_eq_true]
      exact ⟨fun q => by rcases q with q | q | q; exact Or.inl q; exact Or.inr (Or.inl ⟨Nat.succ_ne_zero _, q⟩); exact Or.inr (Or.inr ⟨Nat.succ_ne_zero _, q⟩), fun q => by rcases q with q | ⟨-, q⟩ | ⟨-, q⟩; exact Or.inl q; exact Or.inr (Or.inl q); exact Or.inr (Or.inr q)⟩)
    (fun k kl hk => by
      rw [ea, tb_or, Nat.testBit_or, Bool.or_eq_true] at hk
      rw [ev]
      rcases hk with q | q | q
      · omega
      · exact (hA v hv).2.1 k q
      · exact ((hA w hw).2.1 k q).trans hvw.symm)
    (by rw [ev, ea, tb_or, Nat.testBit_or, Bool.or_eq_true]; exact Or.inr (Or.inl (hA v hv).2.2))
    (fun _ q => by rw [e2] at q; exact absurd q (Nat.succ_ne_zero _))
  obtain ⟨w1, w2⟩ := wh_add (S' := s_merge0 S v w) h (Nat.le_succ _) (Nat.le_refl _) rfl rfl hold
  refine ⟨⟨n1, hn, n3, n4, n5⟩, ⟨fun i hi => ?_, hR⟩, hww.1, hww.2.1, w1, w2, hww.2.2⟩
  obtain ⟨a1, a2, a3, a4, a5, a6⟩ := hP i hi
  exact ⟨a1, a2, a3, a4, Nat.lt_succ_of_lt a5, (hold _ a5).trans a6⟩
theorem wf_merge {S : sp_S} (h : sp_wf S) {v w : Nat} (hv : v < sp_nv S) (hw : w < sp_nv S) (hn : sp_nv S < 40) (hvw : sp_vp S v = sp_vp S w) : sp_wf (s_merge S v w) := wf_ask (wf_ask (wf_merge0 h hv hw hn hvw) _ _) _ _
