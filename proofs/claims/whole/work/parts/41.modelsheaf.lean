/-! the model's sheaves, asked -/
theorem sh_is {S : sp_S} (hP : sw_P S) (hV : sw_V S) {y b q : Int32} {v : Nat} (ev : sp_i y (sp_nv S) = some v) (hv : v < sp_nv S) : (∃ i k, sp_i b (sp_ba S (sp_vp S v)) = some i ∧ sp_i q (sp_pa S (sp_vp S v)) = some k ∧ sp_sh S y b q = some (sp_sv S v (sp_pa S (sp_vp S v) * i + k))) ∨ ((sp_i b (sp_ba S (sp_vp S v)) = none ∨ sp_i q (sp_pa S (sp_vp S v)) = none) ∧ sp_sh S y b q = none) := by
  obtain ⟨-, b8, -, p4, -⟩ := hP.1 _ (hV v hv).1
  have i1 : ∀ {z : Int32} {n n' i : Nat}, n ≤ n' → n' < 2 ^ 31 → sp_i z n = some i → sp_i z n' = some i := fun {z n n' i} w w2 e => by
    obtain ⟨a1, rfl⟩ := sp_i_lt e
    exact sp_i_in (by omega) w2
  have key : ∀ i k, i < 8 → k < 4 → sp_sl S v (i * 4 + k) = if i < sp_ba S (sp_vp S v) ∧ k < sp_pa S (sp_vp S v) then some (sp_sv S v (sp_pa S (sp_vp S v) * i + k)) else none := fun i k h1 h2 => by
    unfold sp_sl
    rw [show (i * 4 + k) / 4 = i by omega, show (i * 4 + k) % 4 = k by omega]
  rw [sp_sh_at ev]
  cases e1 : sp_i b (sp_ba S (sp_vp S v)) with
  | none =>
    refine Or.inr ⟨Or.inl rfl, ?_⟩
    cases f1 : sp_i b 8 with
    | none => rfl
    | some i =>
      cases f2 : sp_i q 4 with
      | none => rfl
      | some k =>
        obtain ⟨a1, rfl⟩ := sp_i_lt f1
        show sp_sl S v (i * 4 + k) = none
        rw [key i k a1 (sp_i_lt f2).1, if_neg (fun w => by rw [sp_i_in w.1 (by omega)] at e1; cases e1)]
  | some i =>
    cases e2 : sp_i q (sp_pa S (sp_vp S v)) with
    | none =>
      refine Or.inr ⟨Or.inr rfl, ?_⟩
      cases f1 : sp_i b 8 with
      | none => rfl
      | some i2 =>
        cases f2 : sp_i q 4 with
        | none => rfl
        | some k =>
          obtain ⟨a2, rfl⟩ := sp_i_lt f2
          show sp_sl S v (i2 * 4 + k) = none
          rw [key i2 k (sp_i_lt f1).1 a2, if_neg (fun w => by rw [sp_i_in w.2 (by omega)] at e2; cases e2)]
    | some k =>
      refine Or.inl ⟨i, k, rfl, rfl, ?_⟩
      rw [i1 b8 (by decide) e1, i1 p4 (by decide) e2]
      show sp_sl S v (i * 4 + k) = _
      have a1 := (sp_i_lt e1).1
      have a2 := (sp_i_lt e2).1
      rw [key i k (by omega) (by omega), if_pos ⟨a1, a2⟩]
theorem sh_no {S : sp_S} {y b q : Int32} (ev : sp_i y (sp_nv S) = none) : sp_sh S y b q = none := by rw [sp_sh, ev]; rfl

set_option maxHeartbeats 4000000 in
set_option maxRecDepth 100000 in
theorem m_X7_at (D : va_G) (E : Nat → ClassId) (B : Nat) (l : Launch) (κ : Nat → Nat) (x : Nat) (ad sc : Nat → Nat) (ar : Nat → Nat → Int32) (S : sp_S) (v b p9 : Nat) (hM : mi_ S sc ar) (hw : sp_wf S) (vl : v < sp_nv S) : zs_Ct D E B l yX7_at cX7_at 4 (some .int) ({ frames := 0, cells := 0, slots := 0, locals := 0 } : Room) [.ref x, .int (nI v), .int (nI b), .int (nI p9)] (fun H => md_O D E κ x ad sc ar H) (zs_N) (zs_ro (.int (nI (41 * (32 * v + (sp_pa S (sp_vp S v) * b + p9)))))) := by
  refine zs_ct (by decide) (Nat.le_of_ble_eq_true rfl) (fun p e s m below meth c hE hr hin hp => ?_)
  refine zs_lo (lo' := [(0, .ref x), (1, .int (nI v)), (2, .int (nI b)), (3, .int (nI p9))]) rfl ?_
  have hO := hp
  obtain ⟨t0, hx, t5, t6, t7, t8, t9, t10, t11, t12, t13, t14, t15, t16, t17, t18, t19, t20, r5, r6, r7, r8, r9, r10, r11, r12, r13, r14, r15, r16, r17, r18, r19, r20⟩ := id hO
  obtain ⟨wN, wP, wV, wA, wH, wZ, wF⟩ := id hw
  obtain ⟨n6, n40, n12, n8, n99⟩ := id wN
  obtain ⟨⟨mp0, mP⟩, ⟨mv0, mV⟩, ⟨mt0, mT⟩, mH, ⟨mz0, mZ⟩, mE⟩ := id hM
  have vwl := (wV v vl).1
  refine zs_bipush (v := (nI 41)) hE dX7_at_0 (by decide) ?_
  refine zs_bipush (v := (nI 32)) hE dX7_at_2 (by decide) ?_
  refine zs_iload_n hE 1 dX7_at_4 rfl rfl ?_
  refine zs_imulN hE dX7_at_5 ?_
  refine zs_aload_n hE 0 dX7_at_6 rfl rfl ?_
  refine zs_get hE fl_X7_29 hx rfl dX7_at_7 ?_
  refine zs_aload_n hE 0 dX7_at_10 rfl rfl ?_
  refine zs_get hE fl_X7_39 hx rfl dX7_at_11 ?_
  refine zs_iload_n hE 1 dX7_at_14 rfl rfl ?_
  refine zs_iald hE r9 (by omega) (by decide) dX7_at_15 ?_
  refine zs_top (v' := .int (nI (sp_vp S v))) (by rw [(mV v vl).1]) ?_
  refine zs_iald hE r6 (by omega) (by decide) dX7_at_16 ?_
  refine zs_top (v' := .int (nI (sp_pa S (sp_vp S v)))) (by rw [(mP _ vwl).2.1]) ?_
  refine zs_iload_n hE 2 dX7_at_17 rfl rfl ?_
  refine zs_imulN hE dX7_at_18 ?_
  refine zs_iaddN hE dX7_at_19 ?_
  refine zs_iload_n hE 3 dX7_at_20 rfl rfl ?_
  refine zs_iaddN hE dX7_at_21 ?_
  refine zs_imulN hE dX7_at_22 ?_
  refine zs_top (v' := .int (nI (41 * (32 * v + (sp_pa S (sp_vp S v) * b + p9))))) (by rw [Nat.add_assoc]) ?_
  exact zs_iret hE hr (⟨rfl, rfl⟩) (by decide) (by decide) dX7_at_23

set_option maxHeartbeats 4000000 in
set_option maxRecDepth 100000 in
theorem m_X7_isSheaf (D : va_G) (E : Nat → ClassId) (B : Nat) (l : Launch) (κ : Nat → Nat) (x : Nat) (ad sc : Nat → Nat) (ar : Nat → Nat → Int32) (S : sp_S) (y b q : Int32) (hM : mi_ S sc ar) (hw : sp_wf S) : zs_Ct D E B l yX7_isSheaf cX7_isSheaf 4 (some .boolean) ({ frames := 2, cells := 0, slots := 0, locals := 43 } : Room) [.ref x, .int y, .int b, .int q] (fun H => md_O D E κ x ad sc ar H) (zs_N) (zs_ro (.int (zs_b (sp_sh S y b q ≠ none)))) := by
  refine zs_ct (by decide) (Nat.le_of_ble_eq_true rfl) (fun p e s m below meth c hE hr hin hp => ?_)
  refine zs_lo (lo' := [(0, .ref x), (1, .int y), (2, .int b), (3, .int q)]) rfl ?_
  have hO := hp
  obtain ⟨t0, hx, t5, t6, t7, t8, t9, t10, t11, t12, t13, t14, t15, t16, t17, t18, t19, t20, r5, r6, r7, r8, r9, r10, r11, r12, r13, r14, r15, r16, r17, r18, r19, r20⟩ := id hO
  obtain ⟨wN, wP, wV, wA, wH, wZ, wF⟩ := id hw
  obtain ⟨n6, n40, n12, n8, n99⟩ := id wN
  obtain ⟨⟨mp0, mP⟩, ⟨mv0, mV⟩, ⟨mt0, mT⟩, mH, ⟨mz0, mZ⟩, mE⟩ := id hM
  refine zs_aload_n hE 0 dX7_isSheaf_0 rfl rfl ?_
  refine zs_iload_n hE 1 dX7_isSheaf_1 rfl rfl ?_
  refine zs_callVR (av := [.int y]) (st := []) (b := x) hE (m_X7_isVersion D E B l κ x ad sc ar y (by omega)) rfl rfl sV_X7_100 hx rfl rfl (hO) ⟨by decide, by decide⟩ ⟨by decide, by decide⟩ (Nat.le_of_ble_eq_true rfl) dX7_isSheaf_2 ?_
  refine zs_if_eqB (tgt := 54) hE dX7_isSheaf_5 (by decide) (fun h1 => ?_) (fun h1 => ?_)
  · refine zs_iconst (v := (nI 0)) hE dX7_isSheaf_54 (by decide) ?_
    refine zs_top (v' := .int (zs_b (sp_sh S y b q ≠ none))) (vb0 (fun w => w (sh_no (by rw [← mv0]; exact Classical.not_not.mp h1)))) ?_
    exact zs_zret hE hr (zs_bnar _) (⟨rfl, rfl⟩) (by decide) (by decide) dX7_isSheaf_55
  · obtain ⟨v, ev⟩ : ∃ e, sp_i y (sp_nv S) = some e := by cases z9 : sp_i y (sp_nv S) with | none => (rw [mv0] at h1; exact absurd z9 h1) | some j => exact ⟨j, rfl⟩
    have lv := (sp_i_lt ev).1
    refine zs_lo (lo' := [(0, .ref x), (1, .int (nI v)), (2, .int b), (3, .int q)]) (by rw [(sp_i_lt ev).2]) ?_
    have vwl := (wV v lv).1
    have hsi := sh_is (b := b) (q := q) wP wV ev lv
    obtain ⟨-, b8, -, p4, -⟩ := wP.1 _ vwl
    refine zs_iload_n hE 2 dX7_isSheaf_8 rfl rfl ?_
    refine zs_iconst (v := (nI 0)) hE dX7_isSheaf_9 (by decide) ?_
    refine zs_aload_n hE 0 dX7_isSheaf_10 rfl rfl ?_
    refine zs_get hE fl_X7_25 hx rfl dX7_isSheaf_11 ?_
    refine zs_aload_n hE 0 dX7_isSheaf_14 rfl rfl ?_
    refine zs_get hE fl_X7_39 hx rfl dX7_isSheaf_15 ?_
    refine zs_iload_n hE 1 dX7_isSheaf_18 rfl rfl ?_
    refine zs_iald hE r9 (by omega) (by decide) dX7_isSheaf_19 ?_
    refine zs_top (v' := .int (nI (sp_vp S v))) (by rw [(mV v lv).1]) ?_
    refine zs_iald hE r5 (by omega) (by decide) dX7_isSheaf_20 ?_
    refine zs_top (v' := .int (nI (sp_ba S (sp_vp S v)))) (by rw [(mP _ vwl).1]) ?_
    refine zs_iconst (v := (nI 1)) hE dX7_isSheaf_21 (by decide) ?_
    refine zs_isub hE dX7_isSheaf_22 ?_
    refine zs_callSR (av := [.int b, .int (nI 0), .int ((nI (sp_ba S (sp_vp S v))) - (nI 1))]) (st := []) hE (m_X7_in D E B l b (nI 0) (nI (sp_ba S (sp_vp S v)) - 1)) rfl rfl sS_X7_77 (trivial) ⟨by decide, by decide⟩ ⟨by decide, by decide⟩ (Nat.le_of_ble_eq_true rfl) dX7_isSheaf_23 ?_
    refine zs_top (v' := .int (zs_b (sp_i b (sp_ba S (sp_vp S v)) ≠ none))) (by rw [zs_bc (in_i (by omega))]) ?_
    refine zs_if_eqB (tgt := 54) hE dX7_isSheaf_26 (by decide) (fun h2 => ?_) (fun h2 => ?_)
    · refine zs_iconst (v := (nI 0)) hE dX7_isSheaf_54 (by decide) ?_
      refine zs_top (v' := .int (zs_b (sp_sh S y b q ≠ none))) (vb0 (fun w => w (by rcases hsi with ⟨i, k, e1, e2, e3⟩ | e; exact absurd (fun w9 => by rw [e1] at w9; cases w9) h2; exact e.2))) ?_
      exact zs_zret hE hr (zs_bnar _) (⟨rfl, rfl⟩) (by decide) (by decide) dX7_isSheaf_55
    · refine zs_iload_n hE 3 dX7_isSheaf_29 rfl rfl ?_
      refine zs_iconst (v := (nI 0)) hE dX7_isSheaf_30 (by decide) ?_
      refine zs_aload_n hE 0 dX7_isSheaf_31 rfl rfl ?_
      refine zs_get hE fl_X7_29 hx rfl dX7_isSheaf_32 ?_
      refine zs_aload_n hE 0 dX7_isSheaf_35 rfl rfl ?_
      refine zs_get hE fl_X7_39 hx rfl dX7_isSheaf_36 ?_
      refine zs_iload_n hE 1 dX7_isSheaf_39 rfl rfl ?_
      refine zs_iald hE r9 (by omega) (by decide) dX7_isSheaf_40 ?_
      refine zs_top (v' := .int (nI (sp_vp S v))) (by rw [(mV v lv).1]) ?_
      refine zs_iald hE r6 (by omega) (by decide) dX7_isSheaf_41 ?_
      refine zs_top (v' := .int (nI (sp_pa S (sp_vp S v)))) (by rw [(mP _ vwl).2.1]) ?_
      refine zs_iconst (v := (nI 1)) hE dX7_isSheaf_42 (by decide) ?_
      refine zs_isub hE dX7_isSheaf_43 ?_
      refine zs_callSR (av := [.int q, .int (nI 0), .int ((nI (sp_pa S (sp_vp S v))) - (nI 1))]) (st := []) hE (m_X7_in D E B l q (nI 0) (nI (sp_pa S (sp_vp S v)) - 1)) rfl rfl sS_X7_77 (trivial) ⟨by decide, by decide⟩ ⟨by decide, by decide⟩ (Nat.le_of_ble_eq_true rfl) dX7_isSheaf_44 ?_
      refine zs_top (v' := .int (zs_b (sp_i q (sp_pa S (sp_vp S v)) ≠ none))) (by rw [zs_bc (in_i (by omega))]) ?_
      refine zs_if_eqB (tgt := 54) hE dX7_isSheaf_47 (by decide) (fun h3 => ?_) (fun h3 => ?_)
      · refine zs_iconst (v := (nI 0)) hE dX7_isSheaf_54 (by decide) ?_
        refine zs_top (v' := .int (zs_b (sp_sh S y b q ≠ none))) (vb0 (fun w => w (by rcases hsi with ⟨i, k, e1, e2, e3⟩ | e; exact absurd (fun w9 => by rw [e2] at w9; cases w9) h3; exact e.2))) ?_
        exact zs_zret hE hr (zs_bnar _) (⟨rfl, rfl⟩) (by decide) (by decide) dX7_isSheaf_55
      · refine zs_iconst (v := (nI 1)) hE dX7_isSheaf_50 (by decide) ?_
        refine zs_goto (tgt := 55) hE dX7_isSheaf_51 (by decide) ?_
        refine zs_top (v' := .int (zs_b (sp_sh S y b q ≠ none))) (vb1 (fun w => by rcases hsi with ⟨i, k, e1, e2, e3⟩ | ⟨e | e, -⟩; rw [e3] at w; cases w; exact h2 e; exact h3 e)) ?_
        exact zs_zret hE hr (zs_bnar _) (⟨rfl, rfl⟩) (by decide) (by decide) dX7_isSheaf_55

