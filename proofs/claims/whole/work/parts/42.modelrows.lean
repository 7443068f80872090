theorem shx {S : sp_S} (hP : sw_P S) (hV : sw_V S) {y b q : Int32} (h : sp_sh S y b q ≠ none) : ∃ v i k, sp_i y (sp_nv S) = some v ∧ sp_i b (sp_ba S (sp_vp S v)) = some i ∧ sp_i q (sp_pa S (sp_vp S v)) = some k ∧ sp_sh S y b q = some (sp_sv S v (sp_pa S (sp_vp S v) * i + k)) ∧ sp_pa S (sp_vp S v) * i + k < sp_ba S (sp_vp S v) * sp_pa S (sp_vp S v) := by
  cases ev : sp_i y (sp_nv S) with
  | none => exact absurd (sh_no ev) h
  | some v =>
    rcases sh_is (b := b) (q := q) hP hV ev (sp_i_lt ev).1 with ⟨i, k, e1, e2, e3⟩ | ⟨-, e⟩
    · refine ⟨v, i, k, rfl, e1, e2, e3, ?_⟩
      have a1 := (sp_i_lt e1).1
      have a2 := (sp_i_lt e2).1
      have := Nat.mul_le_mul_right (sp_pa S (sp_vp S v)) (show i + 1 ≤ sp_ba S (sp_vp S v) from a1)
      rw [Nat.succ_mul, Nat.mul_comm i] at this
      omega
    · exact absurd e h

set_option maxHeartbeats 4000000 in
set_option maxRecDepth 100000 in
theorem m_X7_rows (D : va_G) (E : Nat → ClassId) (B : Nat) (l : Launch) (κ : Nat → Nat) (x : Nat) (ad sc : Nat → Nat) (ar : Nat → Nat → Int32) (S : sp_S) (y b q : Int32) (hM : mi_ S sc ar) (hw : sp_wf S) : zs_Ct D E B l yX7_rows cX7_rows 4 (some .int) ({ frames := 3, cells := 0, slots := 0, locals := 66 } : Room) [.ref x, .int y, .int b, .int q] (fun H => md_O D E κ x ad sc ar H) (md_F κ) (mq_ D E κ x ad (o_rows S y b q)) := by
  refine zs_ct (by decide) (Nat.le_of_ble_eq_true rfl) (fun p e s m below meth c hE hr hin hp => ?_)
  refine zs_lo (lo' := [(0, .ref x), (1, .int y), (2, .int b), (3, .int q)]) rfl ?_
  have hO := hp
  obtain ⟨t0, hx, t5, t6, t7, t8, t9, t10, t11, t12, t13, t14, t15, t16, t17, t18, t19, t20, r5, r6, r7, r8, r9, r10, r11, r12, r13, r14, r15, r16, r17, r18, r19, r20⟩ := id hO
  obtain ⟨wN, wP, wV, wA, wH, wZ, wF⟩ := id hw
  obtain ⟨n6, n40, n12, n8, n99⟩ := id wN
  obtain ⟨⟨mp0, mP⟩, ⟨mv0, mV⟩, ⟨mt0, mT⟩, mH, ⟨mz0, mZ⟩, mE⟩ := id hM
  refine zs_aload_n hE 0 dX7_rows_0 rfl rfl ?_
  refine zs_iload_n hE 1 dX7_rows_1 rfl rfl ?_
  refine zs_iload_n hE 2 dX7_rows_2 rfl rfl ?_
  refine zs_iload_n hE 3 dX7_rows_3 rfl rfl ?_
  refine zs_callVR (av := [.int y, .int b, .int q]) (st := []) (b := x) hE (m_X7_isSheaf D E B l κ x ad sc ar S y b q hM hw) rfl rfl sV_X7_103 hx rfl rfl (hO) ⟨by decide, by decide⟩ ⟨by decide, by decide⟩ (Nat.le_of_ble_eq_true rfl) dX7_rows_4 ?_
  refine zs_if_eqB (tgt := 29) hE dX7_rows_7 (by decide) (fun h1 => ?_) (fun h1 => ?_)
  · refine zs_aload_n hE 0 dX7_rows_29 rfl rfl ?_
    refine zs_iconst (v := (nI 1)) hE dX7_rows_30 (by decide) ?_
    refine zs_callV (av := [.int (nI 1)]) (st := []) hE (m_X7_fails D E B l κ x ad sc ar 1) sV_X7_81 hx rfl rfl (hO) ⟨by decide, by decide⟩ ⟨by decide, by decide⟩ (fun q w9 => Or.inl w9) (Nat.le_of_ble_eq_true rfl) dX7_rows_31 (fun v1 H1 hv1 hz1 hk1 => ?_)
    obtain ⟨rfl, cz, cO⟩ := hv1
    refine zs_widen (k' := 0) (n' := 0) (by decide) (by decide) ?_
    exact zs_iret hE hr (mq_mk (S' := S) (v := .null) (k := 1) (by rw [o_rows, Classical.not_not.mp h1]; rfl) cz (fun w9 => by cases w9) cO (mi_4 hM)) (by decide) (by decide) dX7_rows_34
  · obtain ⟨v, i, k, ev, ei, ek, esh, kb⟩ := shx wP wV h1
    have lv := (sp_i_lt ev).1
    have vwl := (wV v lv).1
    have szl := sz_le wP vwl
    obtain ⟨d1, d2⟩ := (mV v lv).2.2.2 _ kb
    have okk := sv_ok wV lv kb
    have ok4 := okk.2.1
    generalize ers : sp_sv S v (sp_pa S (sp_vp S v) * i + k) = rs at *
    refine zs_lo (lo' := [(0, .ref x), (1, .int (nI v)), (2, .int (nI i)), (3, .int (nI k))]) (by rw [(sp_i_lt ev).2, (sp_i_lt ei).2, (sp_i_lt ek).2]) ?_
    refine zs_aload_n hE 0 dX7_rows_10 rfl rfl ?_
    refine zs_aload_n hE 0 dX7_rows_11 rfl rfl ?_
    refine zs_get hE fl_X7_49 hx rfl dX7_rows_12 ?_
    refine zs_aload_n hE 0 dX7_rows_15 rfl rfl ?_
    refine zs_iload_n hE 1 dX7_rows_16 rfl rfl ?_
    refine zs_iload_n hE 2 dX7_rows_17 rfl rfl ?_
    refine zs_iload_n hE 3 dX7_rows_18 rfl rfl ?_
    refine zs_callVR (av := [.int (nI v), .int (nI i), .int (nI k)]) (st := [.ref (ad 12), .ref x]) (b := x) hE (m_X7_at D E B l κ x ad sc ar S v i k hM hw lv) rfl rfl sV_X7_113 hx rfl rfl (hO) ⟨by decide, by decide⟩ ⟨by decide, by decide⟩ (Nat.le_of_ble_eq_true rfl) dX7_rows_19 ?_
    refine zs_iald hE r12 (by omega) (by decide) dX7_rows_22 ?_
    refine zs_top (v' := .int (nI rs.length)) (by rw [d1]) ?_
    refine zs_callV (av := [.int (nI rs.length)]) (st := []) hE (m_X7_tells D E B l κ x ad sc ar (nI rs.length)) sV_X7_93 hx rfl rfl (hO) ⟨by decide, by decide⟩ ⟨by decide, by decide⟩ (fun q w9 => Or.inl w9) (Nat.le_of_ble_eq_true rfl) dX7_rows_23 (fun v2 H2 hv2 hz2 hk2 => ?_)
    obtain ⟨rfl, cz, cO⟩ := hv2
    refine zs_widen (k' := 0) (n' := 0) (by decide) (by decide) ?_
    refine zs_goto (tgt := 34) hE dX7_rows_26 (by decide) ?_
    exact zs_iret hE hr (mq_mk (S' := S) (k := 0) (by rw [o_rows, esh]) cz (fun _ => rfl) cO (mi_4 hM)) (by decide) (by decide) dX7_rows_34

set_option maxHeartbeats 4000000 in
set_option maxRecDepth 100000 in
theorem m_X7_writer (D : va_G) (E : Nat → ClassId) (B : Nat) (l : Launch) (κ : Nat → Nat) (x : Nat) (ad sc : Nat → Nat) (ar : Nat → Nat → Int32) (S : sp_S) (y b q w : Int32) (hM : mi_ S sc ar) (hw : sp_wf S) : zs_Ct D E B l yX7_writer cX7_writer 6 (some .int) ({ frames := 3, cells := 0, slots := 0, locals := 66 } : Room) [.ref x, .int y, .int b, .int q, .int w] (fun H => md_O D E κ x ad sc ar H) (md_F κ) (mq_ D E κ x ad (o_writer S y b q w)) := by
  refine zs_ct (by decide) (Nat.le_of_ble_eq_true rfl) (fun p e s m below meth c hE hr hin hp => ?_)
  refine zs_lo (lo' := [(0, .ref x), (1, .int y), (2, .int b), (3, .int q), (4, .int w)]) rfl ?_
  have hO := hp
  obtain ⟨t0, hx, t5, t6, t7, t8, t9, t10, t11, t12, t13, t14, t15, t16, t17, t18, t19, t20, r5, r6, r7, r8, r9, r10, r11, r12, r13, r14, r15, r16, r17, r18, r19, r20⟩ := id hO
  obtain ⟨wN, wP, wV, wA, wH, wZ, wF⟩ := id hw
  obtain ⟨n6, n40, n12, n8, n99⟩ := id wN
  obtain ⟨⟨mp0, mP⟩, ⟨mv0, mV⟩, ⟨mt0, mT⟩, mH, ⟨mz0, mZ⟩, mE⟩ := id hM
  refine zs_aload_n hE 0 dX7_writer_0 rfl rfl ?_
  refine zs_iload_n hE 1 dX7_writer_1 rfl rfl ?_
  refine zs_iload_n hE 2 dX7_writer_2 rfl rfl ?_
  refine zs_iload_n hE 3 dX7_writer_3 rfl rfl ?_
  refine zs_callVR (av := [.int y, .int b, .int q]) (st := []) (b := x) hE (m_X7_isSheaf D E B l κ x ad sc ar S y b q hM hw) rfl rfl sV_X7_103 hx rfl rfl (hO) ⟨by decide, by decide⟩ ⟨by decide, by decide⟩ (Nat.le_of_ble_eq_true rfl) dX7_writer_4 ?_
  refine zs_if_neB (tgt := 16) hE dX7_writer_7 (by decide) (fun h1 => ?_) (fun h1 => ?_)
  · obtain ⟨v, i, k, ev, ei, ek, esh, kb⟩ := shx wP wV h1
    have lv := (sp_i_lt ev).1
    have vwl := (wV v lv).1
    have szl := sz_le wP vwl
    obtain ⟨d1, d2⟩ := (mV v lv).2.2.2 _ kb
    have okk := sv_ok wV lv kb
    have ok4 := okk.2.1
    generalize ers : sp_sv S v (sp_pa S (sp_vp S v) * i + k) = rs at *
    refine zs_lo (lo' := [(0, .ref x), (1, .int (nI v)), (2, .int (nI i)), (3, .int (nI k)), (4, .int w)]) (by rw [(sp_i_lt ev).2, (sp_i_lt ei).2, (sp_i_lt ek).2]) ?_
    refine zs_aload_n hE 0 dX7_writer_16 rfl rfl ?_
    refine zs_iload_n hE 1 dX7_writer_17 rfl rfl ?_
    refine zs_iload_n hE 2 dX7_writer_18 rfl rfl ?_
    refine zs_iload_n hE 3 dX7_writer_19 rfl rfl ?_
    refine zs_callVR (av := [.int (nI v), .int (nI i), .int (nI k)]) (st := []) (b := x) hE (m_X7_at D E B l κ x ad sc ar S v i k hM hw lv) rfl rfl sV_X7_113 hx rfl rfl (hO) ⟨by decide, by decide⟩ ⟨by decide, by decide⟩ (Nat.le_of_ble_eq_true rfl) dX7_writer_20 ?_
    refine zs_istore (lo' := [(5, .int (nI (41 * (32 * v + (sp_pa S (sp_vp S v) * i + k))))), (0, .ref x), (1, .int (nI v)), (2, .int (nI i)), (3, .int (nI k)), (4, .int w)]) hE dX7_writer_23 (by decide) rfl ?_
    refine zs_iload hE 5 dX7_writer_25 rfl ?_
    refine zs_iconst (v := (nI 0)) hE dX7_writer_27 (by decide) ?_
    refine zs_aload_n hE 1 dX7_writer_28 rfl rfl ?_
    refine zs_get hE fl_X7_49 hx rfl dX7_writer_29 ?_
    refine zs_iload hE 0 dX7_writer_32 rfl ?_
    refine zs_iald hE r12 (by omega) (by decide) dX7_writer_34 ?_
    refine zs_top (v' := .int (nI rs.length)) (by rw [d1]) ?_
    refine zs_iconst (v := (nI 1)) hE dX7_writer_35 (by decide) ?_
    refine zs_isub hE dX7_writer_36 ?_
    refine zs_callSR (av := [.int w, .int (nI 0), .int ((nI rs.length) - (nI 1))]) (st := []) hE (m_X7_in D E B l w (nI 0) (nI rs.length - 1)) rfl rfl sS_X7_77 (trivial) ⟨by decide, by decide⟩ ⟨by decide, by decide⟩ (Nat.le_of_ble_eq_true rfl) dX7_writer_37 ?_
    refine zs_top (v' := .int (zs_b (sp_i w rs.length ≠ none))) (by rw [zs_bc (in_i (by omega))]) ?_
    refine zs_if_eqB (tgt := 65) hE dX7_writer_40 (by decide) (fun h2 => ?_) (fun h2 => ?_)
    · refine zs_aload_n hE 1 dX7_writer_65 rfl rfl ?_
      refine zs_iconst (v := (nI 2)) hE dX7_writer_66 (by decide) ?_
      refine zs_callV (av := [.int (nI 2)]) (st := []) hE (m_X7_fails D E B l κ x ad sc ar 2) sV_X7_81 hx rfl rfl (hO) ⟨by decide, by decide⟩ ⟨by decide, by decide⟩ (fun q w9 => Or.inl w9) (Nat.le_of_ble_eq_true rfl) dX7_writer_67 (fun v1 H1 hv1 hz1 hk1 => ?_)
      obtain ⟨rfl, cz, cO⟩ := hv1
      refine zs_widen (k' := 0) (n' := 0) (by decide) (by decide) ?_
      exact zs_iret hE hr (mq_mk (S' := S) (v := .null) (k := 2) (by rw [o_writer, esh]; simp only []; rw [Classical.not_not.mp h2]; rfl) cz (fun w9 => by cases w9) cO (mi_4 hM)) (by decide) (by decide) dX7_writer_70
    · obtain ⟨r9, er⟩ : ∃ e, sp_i w rs.length = some e := by cases z9 : sp_i w rs.length with | none => exact absurd z9 h2 | some j => exact ⟨j, rfl⟩
      have lr := (sp_i_lt er).1
      obtain ⟨g1, g2, g3⟩ := d2 r9 lr
      have okr := ok_at okk lr
      have okl := okr.2.1
      refine zs_lo (lo' := [(5, .int (nI (41 * (32 * v + (sp_pa S (sp_vp S v) * i + k))))), (0, .ref x), (1, .int (nI v)), (2, .int (nI i)), (3, .int (nI k)), (4, .int (nI r9))]) (by rw [(sp_i_lt er).2]) ?_
      refine zs_aload_n hE 1 dX7_writer_43 rfl rfl ?_
      refine zs_aload_n hE 1 dX7_writer_44 rfl rfl ?_
      refine zs_get hE fl_X7_49 hx rfl dX7_writer_45 ?_
      refine zs_iload hE 0 dX7_writer_48 rfl ?_
      refine zs_iconst (v := (nI 1)) hE dX7_writer_50 (by decide) ?_
      refine zs_iaddN hE dX7_writer_51 ?_
      refine zs_bipush (v := (nI 10)) hE dX7_writer_52 (by decide) ?_
      refine zs_iload hE 5 dX7_writer_54 rfl ?_
      refine zs_imulN hE dX7_writer_56 ?_
      refine zs_iaddN hE dX7_writer_57 ?_
      refine zs_iald hE r12 (by omega) (by decide) dX7_writer_58 ?_
      refine zs_top (v' := .int (nI ((rs.getD r9 sp_d0).1))) (by rw [g1]) ?_
      refine zs_callV (av := [.int (nI ((rs.getD r9 sp_d0).1))]) (st := []) hE (m_X7_tells D E B l κ x ad sc ar (nI ((rs.getD r9 sp_d0).1))) sV_X7_93 hx rfl rfl (hO) ⟨by decide, by decide⟩ ⟨by decide, by decide⟩ (fun q w9 => Or.inl w9) (Nat.le_of_ble_eq_true rfl) dX7_writer_59 (fun v2 H2 hv2 hz2 hk2 => ?_)
      obtain ⟨rfl, cz, cO⟩ := hv2
      refine zs_widen (k' := 0) (n' := 0) (by decide) (by decide) ?_
      refine zs_goto (tgt := 70) hE dX7_writer_62 (by decide) ?_
      exact zs_iret hE hr (mq_mk (S' := S) (k := 0) (by rw [o_writer, esh]; simp only []; rw [er]) cz (fun _ => rfl) cO (mi_4 hM)) (by decide) (by decide) dX7_writer_70
  · refine zs_aload_n hE 0 dX7_writer_10 rfl rfl ?_
    refine zs_iconst (v := (nI 1)) hE dX7_writer_11 (by decide) ?_
    refine zs_callV (av := [.int (nI 1)]) (st := []) hE (m_X7_fails D E B l κ x ad sc ar 1) sV_X7_81 hx rfl rfl (hO) ⟨by decide, by decide⟩ ⟨by decide, by decide⟩ (fun q w9 => Or.inl w9) (Nat.le_of_ble_eq_true rfl) dX7_writer_12 (fun v3 H3 hv3 hz3 hk3 => ?_)
    obtain ⟨rfl, cz, cO⟩ := hv3
    refine zs_widen (k' := 0) (n' := 0) (by decide) (by decide) ?_
    exact zs_iret hE hr (mq_mk (S' := S) (v := .null) (k := 1) (by rw [o_writer, Classical.not_not.mp h1]; rfl) cz (fun w9 => by cases w9) cO (mi_4 hM)) (by decide) (by decide) dX7_writer_15

set_option maxHeartbeats 4000000 in
set_option maxRecDepth 100000 in
theorem m_X7_noteAt (D : va_G) (E : Nat → ClassId) (B : Nat) (l : Launch) (κ : Nat → Nat) (x : Nat) (ad sc : Nat → Nat) (ar : Nat → Nat → Int32) (S : sp_S) (y b q w u : Int32) (hM : mi_ S sc ar) (hw : sp_wf S) : zs_Ct D E B l yX7_noteAt cX7_noteAt 7 (some .int) ({ frames := 3, cells := 0, slots := 0, locals := 66 } : Room) [.ref x, .int y, .int b, .int q, .int w, .int u] (fun H => md_O D E κ x ad sc ar H) (md_F κ) (mq_ D E κ x ad (o_noteAt S y b q w u)) := by
  refine zs_ct (by decide) (Nat.le_of_ble_eq_true rfl) (fun p e s m below meth c hE hr hin hp => ?_)
  refine zs_lo (lo' := [(0, .ref x), (1, .int y), (2, .int b), (3, .int q), (4, .int w), (5, .int u)]) rfl ?_
  have hO := hp
  obtain ⟨t0, hx, t5, t6, t7, t8, t9, t10, t11, t12, t13, t14, t15, t16, t17, t18, t19, t20, r5, r6, r7, r8, r9, r10, r11, r12, r13, r14, r15, r16, r17, r18, r19, r20⟩ := id hO
  obtain ⟨wN, wP, wV, wA, wH, wZ, wF⟩ := id hw
  obtain ⟨n6, n40, n12, n8, n99⟩ := id wN
  obtain ⟨⟨mp0, mP⟩, ⟨mv0, mV⟩, ⟨mt0, mT⟩, mH, ⟨mz0, mZ⟩, mE⟩ := id hM
  refine zs_aload_n hE 0 dX7_noteAt_0 rfl rfl ?_
  refine zs_iload_n hE 1 dX7_noteAt_1 rfl rfl ?_
  refine zs_iload_n hE 2 dX7_noteAt_2 rfl rfl ?_
  refine zs_iload_n hE 3 dX7_noteAt_3 rfl rfl ?_
  refine zs_callVR (av := [.int y, .int b, .int q]) (st := []) (b := x) hE (m_X7_isSheaf D E B l κ x ad sc ar S y b q hM hw) rfl rfl sV_X7_103 hx rfl rfl (hO) ⟨by decide, by decide⟩ ⟨by decide, by decide⟩ (Nat.le_of_ble_eq_true rfl) dX7_noteAt_4 ?_
  refine zs_if_neB (tgt := 16) hE dX7_noteAt_7 (by decide) (fun h1 => ?_) (fun h1 => ?_)
  · obtain ⟨v, i, k, ev, ei, ek, esh, kb⟩ := shx wP wV h1
    have lv := (sp_i_lt ev).1
    have vwl := (wV v lv).1
    have szl := sz_le wP vwl
    obtain ⟨d1, d2⟩ := (mV v lv).2.2.2 _ kb
    have okk := sv_ok wV lv kb
    have ok4 := okk.2.1
    generalize ers : sp_sv S v (sp_pa S (sp_vp S v) * i + k) = rs at *
    refine zs_lo (lo' := [(0, .ref x), (1, .int (nI v)), (2, .int (nI i)), (3, .int (nI k)), (4, .int w), (5, .int u)]) (by rw [(sp_i_lt ev).2, (sp_i_lt ei).2, (sp_i_lt ek).2]) ?_
    refine zs_aload_n hE 0 dX7_noteAt_16 rfl rfl ?_
    refine zs_iload_n hE 1 dX7_noteAt_17 rfl rfl ?_
    refine zs_iload_n hE 2 dX7_noteAt_18 rfl rfl ?_
    refine zs_iload_n hE 3 dX7_noteAt_19 rfl rfl ?_
    refine zs_callVR (av := [.int (nI v), .int (nI i), .int (nI k)]) (st := []) (b := x) hE (m_X7_at D E B l κ x ad sc ar S v i k hM hw lv) rfl rfl sV_X7_113 hx rfl rfl (hO) ⟨by decide, by decide⟩ ⟨by decide, by decide⟩ (Nat.le_of_ble_eq_true rfl) dX7_noteAt_20 ?_
    refine zs_istore (lo' := [(6, .int (nI (41 * (32 * v + (sp_pa S (sp_vp S v) * i + k))))), (0, .ref x), (1, .int (nI v)), (2, .int (nI i)), (3, .int (nI k)), (4, .int w), (5, .int u)]) hE dX7_noteAt_23 (by decide) rfl ?_
    refine zs_iload hE 5 dX7_noteAt_25 rfl ?_
    refine zs_iconst (v := (nI 0)) hE dX7_noteAt_27 (by decide) ?_
    refine zs_aload_n hE 1 dX7_noteAt_28 rfl rfl ?_
    refine zs_get hE fl_X7_49 hx rfl dX7_noteAt_29 ?_
    refine zs_iload hE 0 dX7_noteAt_32 rfl ?_
    refine zs_iald hE r12 (by omega) (by decide) dX7_noteAt_34 ?_
    refine zs_top (v' := .int (nI rs.length)) (by rw [d1]) ?_
    refine zs_iconst (v := (nI 1)) hE dX7_noteAt_35 (by decide) ?_
    refine zs_isub hE dX7_noteAt_36 ?_
    refine zs_callSR (av := [.int w, .int (nI 0), .int ((nI rs.length) - (nI 1))]) (st := []) hE (m_X7_in D E B l w (nI 0) (nI rs.length - 1)) rfl rfl sS_X7_77 (trivial) ⟨by decide, by decide⟩ ⟨by decide, by decide⟩ (Nat.le_of_ble_eq_true rfl) dX7_noteAt_37 ?_
    refine zs_top (v' := .int (zs_b (sp_i w rs.length ≠ none))) (by rw [zs_bc (in_i (by omega))]) ?_
    refine zs_if_eqB (tgt := 69) hE dX7_noteAt_40 (by decide) (fun h2 => ?_) (fun h2 => ?_)
    · refine zs_aload_n hE 1 dX7_noteAt_69 rfl rfl ?_
      refine zs_iconst (v := (nI 2)) hE dX7_noteAt_70 (by decide) ?_
      refine zs_callV (av := [.int (nI 2)]) (st := []) hE (m_X7_fails D E B l κ x ad sc ar 2) sV_X7_81 hx rfl rfl (hO) ⟨by decide, by decide⟩ ⟨by decide, by decide⟩ (fun q w9 => Or.inl w9) (Nat.le_of_ble_eq_true rfl) dX7_noteAt_71 (fun v1 H1 hv1 hz1 hk1 => ?_)
      obtain ⟨rfl, cz, cO⟩ := hv1
      refine zs_widen (k' := 0) (n' := 0) (by decide) (by decide) ?_
      exact zs_iret hE hr (mq_mk (S' := S) (v := .null) (k := 2) (by rw [o_noteAt, esh]; simp only []; rw [Classical.not_not.mp h2]; rfl) cz (fun w9 => by cases w9) cO (mi_4 hM)) (by decide) (by decide) dX7_noteAt_74
    · obtain ⟨r9, er⟩ : ∃ e, sp_i w rs.length = some e := by cases z9 : sp_i w rs.length with | none => exact absurd z9 h2 | some j => exact ⟨j, rfl⟩
      have lr := (sp_i_lt er).1
      obtain ⟨g1, g2, g3⟩ := d2 r9 lr
      have okr := ok_at okk lr
      have okl := okr.2.1
      refine zs_lo (lo' := [(6, .int (nI (41 * (32 * v + (sp_pa S (sp_vp S v) * i + k))))), (0, .ref x), (1, .int (nI v)), (2, .int (nI i)), (3, .int (nI k)), (4, .int (nI r9)), (5, .int u)]) (by rw [(sp_i_lt er).2]) ?_
      refine zs_iload hE 6 dX7_noteAt_43 rfl ?_
      refine zs_iconst (v := (nI 0)) hE dX7_noteAt_45 (by decide) ?_
      refine zs_aload_n hE 1 dX7_noteAt_46 rfl rfl ?_
      refine zs_get hE fl_X7_49 hx rfl dX7_noteAt_47 ?_
      refine zs_iload hE 0 dX7_noteAt_50 rfl ?_
      refine zs_iconst (v := (nI 2)) hE dX7_noteAt_52 (by decide) ?_
      refine zs_iaddN hE dX7_noteAt_53 ?_
      refine zs_bipush (v := (nI 10)) hE dX7_noteAt_54 (by decide) ?_
      refine zs_iload hE 5 dX7_noteAt_56 rfl ?_
      refine zs_imulN hE dX7_noteAt_58 ?_
      refine zs_iaddN hE dX7_noteAt_59 ?_
      refine zs_iald hE r12 (by omega) (by decide) dX7_noteAt_60 ?_
      refine zs_top (v' := .int (nI ((rs.getD r9 sp_d0).2.length))) (by rw [show 41 * (32 * v + (sp_pa S (sp_vp S v) * i + k)) + 2 + 10 * r9 = 41 * (32 * v + (sp_pa S (sp_vp S v) * i + k)) + 1 + 10 * r9 + 1 by omega, g2]) ?_
      refine zs_iconst (v := (nI 1)) hE dX7_noteAt_61 (by decide) ?_
      refine zs_isub hE dX7_noteAt_62 ?_
      refine zs_callSR (av := [.int u, .int (nI 0), .int ((nI ((rs.getD r9 sp_d0).2.length)) - (nI 1))]) (st := []) hE (m_X7_in D E B l u (nI 0) (nI (rs.getD r9 sp_d0).2.length - 1)) rfl rfl sS_X7_77 (trivial) ⟨by decide, by decide⟩ ⟨by decide, by decide⟩ (Nat.le_of_ble_eq_true rfl) dX7_noteAt_63 ?_
      refine zs_top (v' := .int (zs_b (sp_i u (rs.getD r9 sp_d0).2.length ≠ none))) (by rw [zs_bc (in_i (by omega))]) ?_
      refine zs_if_neB (tgt := 75) hE dX7_noteAt_66 (by decide) (fun h3 => ?_) (fun h3 => ?_)
      · obtain ⟨p9, ep⟩ : ∃ e, sp_i u (rs.getD r9 sp_d0).2.length = some e := by cases z9 : sp_i u (rs.getD r9 sp_d0).2.length with | none => exact absurd z9 h3 | some j => exact ⟨j, rfl⟩
        have lp9 := (sp_i_lt ep).1
        refine zs_lo (lo' := [(6, .int (nI (41 * (32 * v + (sp_pa S (sp_vp S v) * i + k))))), (0, .ref x), (1, .int (nI v)), (2, .int (nI i)), (3, .int (nI k)), (4, .int (nI r9)), (5, .int (nI p9))]) (by rw [(sp_i_lt ep).2]) ?_
        refine zs_aload_n hE 1 dX7_noteAt_75 rfl rfl ?_
        refine zs_aload_n hE 1 dX7_noteAt_76 rfl rfl ?_
        refine zs_get hE fl_X7_49 hx rfl dX7_noteAt_77 ?_
        refine zs_iload hE 0 dX7_noteAt_80 rfl ?_
        refine zs_iconst (v := (nI 3)) hE dX7_noteAt_82 (by decide) ?_
        refine zs_iaddN hE dX7_noteAt_83 ?_
        refine zs_bipush (v := (nI 10)) hE dX7_noteAt_84 (by decide) ?_
        refine zs_iload hE 5 dX7_noteAt_86 rfl ?_
        refine zs_imulN hE dX7_noteAt_88 ?_
        refine zs_iaddN hE dX7_noteAt_89 ?_
        refine zs_iload hE 6 dX7_noteAt_90 rfl ?_
        refine zs_iaddN hE dX7_noteAt_92 ?_
        refine zs_iald hE r12 (by omega) (by decide) dX7_noteAt_93 ?_
        refine zs_top (v' := .int (nI ((rs.getD r9 sp_d0).2.getD p9 0))) (by rw [show 41 * (32 * v + (sp_pa S (sp_vp S v) * i + k)) + 3 + 10 * r9 + p9 = 41 * (32 * v + (sp_pa S (sp_vp S v) * i + k)) + 1 + 10 * r9 + 2 + p9 by omega, g3 p9 lp9]) ?_
        refine zs_callV (av := [.int (nI ((rs.getD r9 sp_d0).2.getD p9 0))]) (st := []) hE (m_X7_tells D E B l κ x ad sc ar (nI ((rs.getD r9 sp_d0).2.getD p9 0))) sV_X7_93 hx rfl rfl (hO) ⟨by decide, by decide⟩ ⟨by decide, by decide⟩ (fun q w9 => Or.inl w9) (Nat.le_of_ble_eq_true rfl) dX7_noteAt_94 (fun v2 H2 hv2 hz2 hk2 => ?_)
        obtain ⟨rfl, cz, cO⟩ := hv2
        refine zs_widen (k' := 0) (n' := 0) (by decide) (by decide) ?_
        exact zs_iret hE hr (mq_mk (S' := S) (k := 0) (by rw [o_noteAt, esh]; simp only []; rw [er]; simp only []; rw [ep]) cz (fun _ => rfl) cO (mi_4 hM)) (by decide) (by decide) dX7_noteAt_97
      · refine zs_aload_n hE 1 dX7_noteAt_69 rfl rfl ?_
        refine zs_iconst (v := (nI 2)) hE dX7_noteAt_70 (by decide) ?_
        refine zs_callV (av := [.int (nI 2)]) (st := []) hE (m_X7_fails D E B l κ x ad sc ar 2) sV_X7_81 hx rfl rfl (hO) ⟨by decide, by decide⟩ ⟨by decide, by decide⟩ (fun q w9 => Or.inl w9) (Nat.le_of_ble_eq_true rfl) dX7_noteAt_71 (fun v3 H3 hv3 hz3 hk3 => ?_)
        obtain ⟨rfl, cz, cO⟩ := hv3
        refine zs_widen (k' := 0) (n' := 0) (by decide) (by decide) ?_
        exact zs_iret hE hr (mq_mk (S' := S) (v := .null) (k := 2) (by rw [o_noteAt, esh]; simp only []; rw [er]; simp only []; rw [Classical.not_not.mp h3]; rfl) cz (fun w9 => by cases w9) cO (mi_4 hM)) (by decide) (by decide) dX7_noteAt_74
  · refine zs_aload_n hE 0 dX7_noteAt_10 rfl rfl ?_
    refine zs_iconst (v := (nI 1)) hE dX7_noteAt_11 (by decide) ?_
    refine zs_callV (av := [.int (nI 1)]) (st := []) hE (m_X7_fails D E B l κ x ad sc ar 1) sV_X7_81 hx rfl rfl (hO) ⟨by decide, by decide⟩ ⟨by decide, by decide⟩ (fun q w9 => Or.inl w9) (Nat.le_of_ble_eq_true rfl) dX7_noteAt_12 (fun v4 H4 hv4 hz4 hk4 => ?_)
    obtain ⟨rfl, cz, cO⟩ := hv4
    refine zs_widen (k' := 0) (n' := 0) (by decide) (by decide) ?_
    exact zs_iret hE hr (mq_mk (S' := S) (v := .null) (k := 1) (by rw [o_noteAt, Classical.not_not.mp h1]; rfl) cz (fun w9 => by cases w9) cO (mi_4 hM)) (by decide) (by decide) dX7_noteAt_15

