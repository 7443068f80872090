/-! the calls keep the good form -/
theorem wo_piece {S : sp_S} (h : sp_wf S) (x y : Int32) : sp_wf (o_piece S x y).2.2 := by
  unfold o_piece
  by_cases q : x < 1 ∨ 8 < x ∨ y < 1 ∨ 4 < y
  · rw [pI_t q]; exact h
  · rw [pI_f q]
    by_cases w : 6 ≤ sp_np S ∨ 40 ≤ sp_nv S
    · rw [pI_t w]; exact h
    · rw [pI_f w]
      have c1 : (1 : Int32).toInt = 1 := rfl
      have c8 : (8 : Int32).toInt = 8 := rfl
      have c4 : (4 : Int32).toInt = 4 := rfl
      have q1 : ¬ x < 1 := fun z => q (Or.inl z)
      have q2 : ¬ 8 < x := fun z => q (Or.inr (Or.inl z))
      have q3 : ¬ y < 1 := fun z => q (Or.inr (Or.inr (Or.inl z)))
      have q4 : ¬ 4 < y := fun z => q (Or.inr (Or.inr (Or.inr z)))
      rw [Int32.lt_iff_toInt_lt] at q1 q2 q3 q4
      exact wf_piece h (by unfold sp_n; omega) (by unfold sp_n; omega) (by unfold sp_n; omega) (by unfold sp_n; omega) (by omega) (by omega)
theorem wo_note {S : sp_S} (h : sp_wf S) (x : Int32) : sp_wf (o_note S x).2.2 := by
  unfold o_note
  cases e : sp_i x 100 with
  | none => exact h
  | some t =>
    show sp_wf (pI _ _ _ : sp_R3).2.2
    by_cases w : 8 ≤ (sp_ty S).length
    · rw [pI_t w]; exact h
    · rw [pI_f w]; exact wf_note h (sp_i_lt e).1 (by omega)
theorem wo_write {S : sp_S} (h : sp_wf S) (v e b p : Int32) : sp_wf (o_write S v e b p).2.2 := by
  unfold o_write
  cases q1 : sp_sh S v b p with
  | none => exact h
  | some rs =>
    cases q2 : sp_i e 6 with
    | none => exact h
    | some e1 =>
      show sp_wf (pI _ _ _ : sp_R3).2.2
      by_cases w : 40 ≤ sp_nv S
      · rw [pI_t w]; exact h
      · rw [pI_f w]
        obtain ⟨v1, b1, p1, g1, g2, g3, g4⟩ := sp_sh_yes q1
        obtain ⟨w1, w2, -⟩ := sl_bd g4
        have h40 := h.1.2.1
        have l2 := (sp_i_lt g2).1
        have l3 := (sp_i_lt g3).1
        rw [sp_n_i (by omega) g1, sp_n_i (by decide) q2, sp_n_i (by decide) g2, sp_n_i (by decide) g3]
        rw [show (b1 * 4 + p1) / 4 = b1 by omega] at w1
        rw [show (b1 * 4 + p1) % 4 = p1 by omega] at w2
        exact wf_write h (sp_i_lt g1).1 (by omega) (sp_i_lt q2).1 w1 w2
theorem wo_rule {S : sp_S} (h : sp_wf S) (i q r : Int32) : sp_wf (o_rule S i q r).2.2 := by
  unfold o_rule
  cases q1 : sp_i i (sp_np S) with
  | none => exact h
  | some i1 =>
    show sp_wf (match sp_i q (sp_pa S i1) with | none => sp_e 1 S | some q => pI (r ≠ nI 108 ∧ r ≠ nI 110 ∧ r ≠ nI 98) (sp_e 2 S) (0, .int (nI (sp_ru S i1 q)), s_rule S i1 q (sp_n r)) : sp_R3).2.2
    cases q2 : sp_i q (sp_pa S i1) with
    | none => exact h
    | some q0 =>
      show sp_wf (pI _ _ _ : sp_R3).2.2
      by_cases w : r ≠ nI 108 ∧ r ≠ nI 110 ∧ r ≠ nI 98
      · rw [pI_t w]; exact h
      · rw [pI_f w]
        refine wf_rule h ?_
        by_cases a1 : r = nI 108
        · rw [a1, sp_n_nI (by decide)]; exact Or.inr (Or.inl rfl)
        · by_cases a2 : r = nI 110
          · rw [a2, sp_n_nI (by decide)]; exact Or.inr (Or.inr rfl)
          · by_cases a3 : r = nI 98
            · rw [a3, sp_n_nI (by decide)]; exact Or.inl rfl
            · exact absurd ⟨a1, a2, a3⟩ w
theorem wo_merge {S : sp_S} (h : sp_wf S) (x y e : Int32) : sp_wf (o_merge S x y e).2.2 := by
  unfold o_merge
  cases q1 : sp_i x (sp_nv S) with
  | none => exact h
  | some v =>
    cases q2 : sp_i y (sp_nv S) with
    | none => exact h
    | some w =>
      cases q3 : sp_i e 6 with
      | none => exact h
      | some e1 =>
        show sp_wf (pI _ _ _ : sp_R3).2.2
        by_cases z : sp_vp S v ≠ sp_vp S w ∨ (sp_am S v).testBit w = true ∨ (sp_am S w).testBit v = true
        · rw [pI_t z]; exact h
        · rw [pI_f z]
          by_cases w4 : 40 ≤ sp_nv S
          · rw [pI_t w4]; exact h
          · rw [pI_f w4]
            exact wf_merge h (sp_i_lt q1).1 (sp_i_lt q2).1 (by omega) (Classical.not_not.mp (fun u => z (Or.inl u)))
theorem wo_hear {S : sp_S} (h : sp_wf S) (x y : Int32) : sp_wf (o_hear S x y).2.2 := by
  unfold o_hear
  cases q1 : sp_i y (sp_nv S) with
  | none => exact h
  | some v =>
    cases q2 : sp_i x 4 with
    | none => exact h
    | some r => exact wf_hear h (sp_i_lt q1).1
theorem wo_mark {S : sp_S} (h : sp_wf S) (x y z t : Int32) : sp_wf (o_mark S x y z t).2.2 := by
  unfold o_mark
  cases q1 : sp_i y 4 with
  | none => exact h
  | some r =>
    cases q2 : sp_i z (sp_np S) with
    | none => exact h
    | some i =>
      cases q3 : sp_i x 5 with
      | none => exact h
      | some j =>
        cases q4 : sp_i t 21 with
        | none => exact h
        | some u =>
          show sp_wf (pI _ _ _ : sp_R3).2.2
          by_cases w : sp_hv S i r = 0
          · rw [pI_t w]; exact h
          · rw [pI_f w]; exact wf_mark h (sp_i_lt q4).1 (sp_i_lt q2).1 w
theorem wo_affirm {S : sp_S} (h : sp_wf S) (x y z : Int32) : sp_wf (o_affirm S x y z).2.2 := by
  unfold o_affirm
  cases q1 : sp_i y 4 with
  | none => exact h
  | some r =>
    cases q2 : sp_i z (sp_np S) with
    | none => exact h
    | some i =>
      cases q3 : sp_i x 5 with
      | none => exact h
      | some j =>
        show sp_wf (pI _ _ _ : sp_R3).2.2
        by_cases w : sp_mk S i r j = 0 ∨ sp_ct S i r j ≠ 0
        · rw [pI_t w]; exact h
        · rw [pI_f w]
          obtain ⟨a1, -, a3, -⟩ := (h.2.2.2.2.1 i r).1 j
          exact wf_mark h a1 (sp_i_lt q2).1 (fun z => w (Or.inl (a3 z)))
theorem wo_give {S : sp_S} (h : sp_wf S) (x y : Int32) : sp_wf (o_give S x y).2.2 := by
  unfold o_give
  cases q1 : sp_pr S x with
  | none => exact h
  | some i =>
    show sp_wf (pI _ _ _ : sp_R3).2.2
    by_cases w : y < 1 ∨ nI 9999 < y
    · rw [pI_t w]; exact h
    · rw [pI_f w]
      by_cases w2 : sp_lh S i = 0
      · rw [pI_t w2]; exact h
      · rw [pI_f w2]
        by_cases w3 : 12 ≤ sp_nz S
        · rw [pI_t w3]; exact h
        · rw [pI_f w3]
          have c1 : (1 : Int32).toInt = 1 := rfl
          have c9 : (nI 9999).toInt = 9999 := rfl
          have a1 : ¬ y < 1 := fun z => w (Or.inl z)
          have a2 : ¬ nI 9999 < y := fun z => w (Or.inr z)
          rw [Int32.lt_iff_toInt_lt] at a1 a2
          have := lh_le h.2.2.2.2.1 i
          exact wf_give h (by omega) (by unfold sp_n; omega) (by unfold sp_n; omega) (by omega)
