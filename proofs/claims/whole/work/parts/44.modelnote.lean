/-! the model: note, wipe -/
theorem mi_note {S : sp_S} {sc : Nat → Nat} {ar : Nat → Nat → Int32} {t : Nat} {f : Nat → Int32} (h : mi_ S sc ar) (hf : ∀ j, j < (sp_ty S).length → f j = ar 13 j) (ht : f (sp_ty S).length = nI t) : mi_ (s_note S t) (va_up sc 2 ((sp_ty S).length + 1)) (va_up ar 13 f) := by
  obtain ⟨h1, h2, ⟨h3, h4⟩, h5, h6⟩ := h
  refine ⟨h1, h2, ⟨(ty_note S t).symm, fun j hj => ?_⟩, h5, h6⟩
  rw [ty_note] at hj
  show f j = nI ((sp_ty S ++ [t]).getD j 0)
  rcases Nat.lt_or_ge j (sp_ty S).length with w | w
  · rw [hf j w, h4 j w, List.getD_eq_getElem?_getD, List.getD_eq_getElem?_getD, List.getElem?_append_left w]
  · rw [show j = (sp_ty S).length by omega, ht, List.getD_eq_getElem?_getD, List.getElem?_append_right (Nat.le_refl _)]; simp
theorem mi_wipe {S : sp_S} {sc : Nat → Nat} {ar : Nat → Nat → Int32} (h : mi_ S sc ar) : mi_ (s_wipe S) (va_up sc 2 0) ar := by
  obtain ⟨h1, h2, h3, h5, h6⟩ := h
  exact ⟨h1, h2, ⟨rfl, fun j hj => absurd hj (Nat.not_lt_zero _)⟩, h5, h6⟩

set_option maxHeartbeats 4000000 in
set_option maxRecDepth 100000 in
theorem m_X7_wipe (D : va_G) (E : Nat → ClassId) (B : Nat) (l : Launch) (κ : Nat → Nat) (x : Nat) (ad sc : Nat → Nat) (ar : Nat → Nat → Int32) (S : sp_S) (hM : mi_ S sc ar) (hw : sp_wf S) : zs_Ct D E B l yX7_wipe cX7_wipe 2 (some .int) ({ frames := 1, cells := 0, slots := 0, locals := 21 } : Room) [.ref x] (fun H => md_O D E κ x ad sc ar H) (md_F κ) (mq_ D E κ x ad (o_wipe S)) := by
  refine zs_ct (by decide) (Nat.le_of_ble_eq_true rfl) (fun p e s m below meth c hE hr hin hp => ?_)
  refine zs_lo (lo' := [(0, .ref x)]) rfl ?_
  have hO := hp
  obtain ⟨t0, hx, t5, t6, t7, t8, t9, t10, t11, t12, t13, t14, t15, t16, t17, t18, t19, t20, r5, r6, r7, r8, r9, r10, r11, r12, r13, r14, r15, r16, r17, r18, r19, r20⟩ := id hO
  obtain ⟨wN, wP, wV, wA, wH, wZ, wF⟩ := id hw
  obtain ⟨n6, n40, n12, n8, n99⟩ := id wN
  obtain ⟨⟨mp0, mP⟩, ⟨mv0, mV⟩, ⟨mt0, mT⟩, mH, ⟨mz0, mZ⟩, mE⟩ := id hM
  refine zs_aload_n hE 0 dX7_wipe_0 rfl rfl ?_
  refine zs_get hE fl_X7_16 hx rfl dX7_wipe_1 ?_
  refine zs_top (v' := .int (nI ((sp_ty S).length))) (by rw [mt0]) ?_
  refine zs_istore_n (lo' := [(1, .int (nI ((sp_ty S).length))), (0, .ref x)]) hE dX7_wipe_4 rfl (by decide) rfl ?_
  refine zs_aload_n hE 1 dX7_wipe_5 rfl rfl ?_
  refine zs_iconst (v := (nI 0)) hE dX7_wipe_6 (by decide) ?_
  refine zs_put (v := .int (nI 0)) hE fl_X7_16 hx (Or.inl (show 500 ≤ κ x by omega)) (rfl) (rfl) (Nat.le_of_ble_eq_true rfl) dX7_wipe_7 (fun H1 hp1 hz1 ho1 => ?_)
  have r5 := zs_pt.kept r5 (ho1 _ (cs_ne t5 t0 (by decide)))
  have r6 := zs_pt.kept r6 (ho1 _ (cs_ne t6 t0 (by decide)))
  have r7 := zs_pt.kept r7 (ho1 _ (cs_ne t7 t0 (by decide)))
  have r8 := zs_pt.kept r8 (ho1 _ (cs_ne t8 t0 (by decide)))
  have r9 := zs_pt.kept r9 (ho1 _ (cs_ne t9 t0 (by decide)))
  have r10 := zs_pt.kept r10 (ho1 _ (cs_ne t10 t0 (by decide)))
  have r11 := zs_pt.kept r11 (ho1 _ (cs_ne t11 t0 (by decide)))
  have r12 := zs_pt.kept r12 (ho1 _ (cs_ne t12 t0 (by decide)))
  have r13 := zs_pt.kept r13 (ho1 _ (cs_ne t13 t0 (by decide)))
  have r14 := zs_pt.kept r14 (ho1 _ (cs_ne t14 t0 (by decide)))
  have r15 := zs_pt.kept r15 (ho1 _ (cs_ne t15 t0 (by decide)))
  have r16 := zs_pt.kept r16 (ho1 _ (cs_ne t16 t0 (by decide)))
  have r17 := zs_pt.kept r17 (ho1 _ (cs_ne t17 t0 (by decide)))
  have r18 := zs_pt.kept r18 (ho1 _ (cs_ne t18 t0 (by decide)))
  have r19 := zs_pt.kept r19 (ho1 _ (cs_ne t19 t0 (by decide)))
  have r20 := zs_pt.kept r20 (ho1 _ (cs_ne t20 t0 (by decide)))
  have hp1 : zs_pt D x (.inr (7, [.int (nI (sc 0)), .int (nI (sc 1)), .int (nI 0), .int (nI (sc 3)), .int (nI (sc 4)), .ref (ad 5), .ref (ad 6), .ref (ad 7), .ref (ad 8), .ref (ad 9), .ref (ad 10), .ref (ad 11), .ref (ad 12), .ref (ad 13), .ref (ad 14), .ref (ad 15), .ref (ad 16), .ref (ad 17), .ref (ad 18), .ref (ad 19), .ref (ad 20)])) H1 := hp1
  have hO2 : md_O D E κ x ad (va_up sc 2 0) ar H1 := ⟨t0, hp1, t5, t6, t7, t8, t9, t10, t11, t12, t13, t14, t15, t16, t17, t18, t19, t20, r5, r6, r7, r8, r9, r10, r11, r12, r13, r14, r15, r16, r17, r18, r19, r20⟩
  refine zs_aload_n hE 1 dX7_wipe_10 rfl rfl ?_
  refine zs_iload_n hE 0 dX7_wipe_11 rfl rfl ?_
  refine zs_callV (av := [.int (nI ((sp_ty S).length))]) (st := []) hE (m_X7_tells D E B l κ x ad (va_up sc 2 0) ar (nI ((sp_ty S).length))) sV_X7_93 hp1 rfl rfl (hO2) ⟨by decide, by decide⟩ ⟨by decide, by decide⟩ (fun q w9 => Or.inl w9) (Nat.le_of_ble_eq_true rfl) dX7_wipe_12 (fun v2 H2 hv2 hz2 hk2 => ?_)
  obtain ⟨rfl, cz, cO⟩ := hv2
  refine zs_widen (k' := 0) (n' := 0) (by decide) (by decide) ?_
  exact zs_iret hE hr (mq_mk (S' := s_wipe S) (k := 0) (rfl) (by omega) (fun _ => rfl) cO (mi_4 (mi_wipe hM))) (by decide) (by decide) dX7_wipe_15

set_option maxHeartbeats 4000000 in
set_option maxRecDepth 100000 in
theorem m_X7_note (D : va_G) (E : Nat → ClassId) (B : Nat) (l : Launch) (κ : Nat → Nat) (x : Nat) (ad sc : Nat → Nat) (ar : Nat → Nat → Int32) (S : sp_S) (y : Int32) (hM : mi_ S sc ar) (hw : sp_wf S) : zs_Ct D E B l yX7_note cX7_note 2 (some .int) ({ frames := 1, cells := 0, slots := 0, locals := 22 } : Room) [.ref x, .int y] (fun H => md_O D E κ x ad sc ar H) (md_F κ) (mq_ D E κ x ad (o_note S y)) := by
  refine zs_ct (by decide) (Nat.le_of_ble_eq_true rfl) (fun p e s m below meth c hE hr hin hp => ?_)
  refine zs_lo (lo' := [(0, .ref x), (1, .int y)]) rfl ?_
  have hO := hp
  obtain ⟨t0, hx, t5, t6, t7, t8, t9, t10, t11, t12, t13, t14, t15, t16, t17, t18, t19, t20, r5, r6, r7, r8, r9, r10, r11, r12, r13, r14, r15, r16, r17, r18, r19, r20⟩ := id hO
  obtain ⟨wN, wP, wV, wA, wH, wZ, wF⟩ := id hw
  obtain ⟨n6, n40, n12, n8, n99⟩ := id wN
  obtain ⟨⟨mp0, mP⟩, ⟨mv0, mV⟩, ⟨mt0, mT⟩, mH, ⟨mz0, mZ⟩, mE⟩ := id hM
  refine zs_iload_n hE 1 dX7_note_0 rfl rfl ?_
  refine zs_iconst (v := (nI 0)) hE dX7_note_1 (by decide) ?_
  refine zs_bipush (v := (nI 99)) hE dX7_note_2 (by decide) ?_
  refine zs_callSR (av := [.int y, .int (nI 0), .int (nI 99)]) (st := []) hE (m_X7_in D E B l y (nI 0) (nI 99)) rfl rfl sS_X7_77 (trivial) ⟨by decide, by decide⟩ ⟨by decide, by decide⟩ (Nat.le_of_ble_eq_true rfl) dX7_note_4 ?_
  refine zs_top (v' := .int (zs_b (sp_i y 100 ≠ none))) (by rw [← zs_bc (in_i (y := y) (n := 100) (by decide))]; rfl) ?_
  have h2k := True.intro
  refine zs_if_neB (tgt := 16) hE dX7_note_7 (by decide) (fun h1 => ?_) (fun h1 => ?_)
  · obtain ⟨t, et⟩ : ∃ e, sp_i y 100 = some e := by cases z9 : sp_i y 100 with | none => exact absurd z9 h1 | some j => exact ⟨j, rfl⟩
    obtain ⟨tl, rfl⟩ := sp_i_lt et
    refine zs_aload_n hE 0 dX7_note_16 rfl rfl ?_
    refine zs_get hE fl_X7_16 hx rfl dX7_note_17 ?_
    refine zs_top (v' := .int (nI ((sp_ty S).length))) (by rw [mt0]) ?_
    refine zs_bipush (v := (nI 8)) hE dX7_note_20 (by decide) ?_
    refine zs_icmp_neN (tgt := 31) hE (by omega) (by decide) dX7_note_22 (by decide) (fun h2n => ?_) (fun h2n => ?_)
    · have h2 : (sp_ty S).length < 8 := by omega
      refine zs_aload_n hE 0 dX7_note_31 rfl rfl ?_
      refine zs_get hE fl_X7_52 hx rfl dX7_note_32 ?_
      refine zs_aload_n hE 0 dX7_note_35 rfl rfl ?_
      refine zs_get hE fl_X7_16 hx rfl dX7_note_36 ?_
      refine zs_top (v' := .int (nI ((sp_ty S).length))) (by rw [mt0]) ?_
      refine zs_iload_n hE 1 dX7_note_39 rfl rfl ?_
      refine zs_iast hE r13 (Or.inl (show 500 ≤ κ (ad 13) by omega)) (by omega) (by decide) dX7_note_40 (fun H1 hp1 hz1 ho1 => ?_)
      have hx := zs_pt.kept hx (ho1 _ (cs_ne t0 t13 (by decide)))
      have r5 := zs_pt.kept r5 (ho1 _ (cs_ne t5 t13 (by decide)))
      have r6 := zs_pt.kept r6 (ho1 _ (cs_ne t6 t13 (by decide)))
      have r7 := zs_pt.kept r7 (ho1 _ (cs_ne t7 t13 (by decide)))
      have r8 := zs_pt.kept r8 (ho1 _ (cs_ne t8 t13 (by decide)))
      have r9 := zs_pt.kept r9 (ho1 _ (cs_ne t9 t13 (by decide)))
      have r10 := zs_pt.kept r10 (ho1 _ (cs_ne t10 t13 (by decide)))
      have r11 := zs_pt.kept r11 (ho1 _ (cs_ne t11 t13 (by decide)))
      have r12 := zs_pt.kept r12 (ho1 _ (cs_ne t12 t13 (by decide)))
      have r14 := zs_pt.kept r14 (ho1 _ (cs_ne t14 t13 (by decide)))
      have r15 := zs_pt.kept r15 (ho1 _ (cs_ne t15 t13 (by decide)))
      have r16 := zs_pt.kept r16 (ho1 _ (cs_ne t16 t13 (by decide)))
      have r17 := zs_pt.kept r17 (ho1 _ (cs_ne t17 t13 (by decide)))
      have r18 := zs_pt.kept r18 (ho1 _ (cs_ne t18 t13 (by decide)))
      have r19 := zs_pt.kept r19 (ho1 _ (cs_ne t19 t13 (by decide)))
      have r20 := zs_pt.kept r20 (ho1 _ (cs_ne t20 t13 (by decide)))
      refine zs_aload_n hE 0 dX7_note_41 rfl rfl ?_
      refine zs_dup hE dX7_note_42 rfl ?_
      refine zs_get hE fl_X7_16 hx rfl dX7_note_43 ?_
      refine zs_iconst (v := (nI 1)) hE dX7_note_46 (by decide) ?_
      refine zs_iaddN hE dX7_note_47 ?_
      refine zs_top (v' := .int (nI ((sp_ty S).length + 1))) (by rw [mt0]) ?_
      refine zs_put (v := .int (nI ((sp_ty S).length + 1))) hE fl_X7_16 hx (Or.inl (show 500 ≤ κ x by omega)) (rfl) (rfl) (Nat.le_of_ble_eq_true rfl) dX7_note_48 (fun H2 hp2 hz2 ho2 => ?_)
      have r5 := zs_pt.kept r5 (ho2 _ (cs_ne t5 t0 (by decide)))
      have r6 := zs_pt.kept r6 (ho2 _ (cs_ne t6 t0 (by decide)))
      have r7 := zs_pt.kept r7 (ho2 _ (cs_ne t7 t0 (by decide)))
      have r8 := zs_pt.kept r8 (ho2 _ (cs_ne t8 t0 (by decide)))
      have r9 := zs_pt.kept r9 (ho2 _ (cs_ne t9 t0 (by decide)))
      have r10 := zs_pt.kept r10 (ho2 _ (cs_ne t10 t0 (by decide)))
      have r11 := zs_pt.kept r11 (ho2 _ (cs_ne t11 t0 (by decide)))
      have r12 := zs_pt.kept r12 (ho2 _ (cs_ne t12 t0 (by decide)))
      have hp1 := zs_pt.kept hp1 (ho2 _ (cs_ne t13 t0 (by decide)))
      have r14 := zs_pt.kept r14 (ho2 _ (cs_ne t14 t0 (by decide)))
      have r15 := zs_pt.kept r15 (ho2 _ (cs_ne t15 t0 (by decide)))
      have r16 := zs_pt.kept r16 (ho2 _ (cs_ne t16 t0 (by decide)))
      have r17 := zs_pt.kept r17 (ho2 _ (cs_ne t17 t0 (by decide)))
      have r18 := zs_pt.kept r18 (ho2 _ (cs_ne t18 t0 (by decide)))
      have r19 := zs_pt.kept r19 (ho2 _ (cs_ne t19 t0 (by decide)))
      have r20 := zs_pt.kept r20 (ho2 _ (cs_ne t20 t0 (by decide)))
      have hp2 : zs_pt D x (.inr (7, [.int (nI (sc 0)), .int (nI (sc 1)), .int (nI ((sp_ty S).length + 1)), .int (nI (sc 3)), .int (nI (sc 4)), .ref (ad 5), .ref (ad 6), .ref (ad 7), .ref (ad 8), .ref (ad 9), .ref (ad 10), .ref (ad 11), .ref (ad 12), .ref (ad 13), .ref (ad 14), .ref (ad 15), .ref (ad 16), .ref (ad 17), .ref (ad 18), .ref (ad 19), .ref (ad 20)])) H2 := hp2
      have hO2 : md_O D E κ x ad (va_up sc 2 ((sp_ty S).length + 1)) (va_up ar 13 (va_up (ar 13) (sp_ty S).length (nI t))) H2 := ⟨t0, hp2, t5, t6, t7, t8, t9, t10, t11, t12, t13, t14, t15, t16, t17, t18, t19, t20, r5, r6, r7, r8, r9, r10, r11, r12, hp1, r14, r15, r16, r17, r18, r19, r20⟩
      refine zs_aload_n hE 0 dX7_note_51 rfl rfl ?_
      refine zs_aload_n hE 0 dX7_note_52 rfl rfl ?_
      refine zs_get hE fl_X7_16 hp2 rfl dX7_note_53 ?_
      refine zs_callV (av := [.int (nI ((sp_ty S).length + 1))]) (st := []) hE (m_X7_tells D E B l κ x ad (va_up sc 2 ((sp_ty S).length + 1)) (va_up ar 13 (va_up (ar 13) (sp_ty S).length (nI t))) (nI ((sp_ty S).length + 1))) sV_X7_93 hp2 rfl rfl (hO2) ⟨by decide, by decide⟩ ⟨by decide, by decide⟩ (fun q w9 => Or.inl w9) (Nat.le_of_ble_eq_true rfl) dX7_note_56 (fun v3 H3 hv3 hz3 hk3 => ?_)
      obtain ⟨rfl, cz, cO⟩ := hv3
      refine zs_widen (k' := 0) (n' := 0) (by decide) (by decide) ?_
      exact zs_iret hE hr (mq_mk (S' := s_note S t) (k := 0) (by rw [o_note, et]; simp only []; rw [pI_f (by omega)]) (by omega) (fun _ => rfl) cO (mi_4 (mi_note hM (fun j hj => va_up_ne _ _ (by omega)) (va_up_self _ _ _)))) (by decide) (by decide) dX7_note_59
    · refine zs_aload_n hE 0 dX7_note_25 rfl rfl ?_
      refine zs_iconst (v := (nI 2)) hE dX7_note_26 (by decide) ?_
      refine zs_callV (av := [.int (nI 2)]) (st := []) hE (m_X7_fails D E B l κ x ad sc ar 2) sV_X7_81 hx rfl rfl (hO) ⟨by decide, by decide⟩ ⟨by decide, by decide⟩ (fun q w9 => Or.inl w9) (Nat.le_of_ble_eq_true rfl) dX7_note_27 (fun v4 H4 hv4 hz4 hk4 => ?_)
      obtain ⟨rfl, cz, cO⟩ := hv4
      refine zs_widen (k' := 0) (n' := 0) (by decide) (by decide) ?_
      exact zs_iret hE hr (mq_mk (S' := S) (v := .null) (k := 2) (by rw [o_note, et]; simp only []; rw [pI_t (by omega)]; rfl) cz (fun w9 => by cases w9) cO (mi_4 hM)) (by decide) (by decide) dX7_note_30
  · refine zs_aload_n hE 0 dX7_note_10 rfl rfl ?_
    refine zs_iconst (v := (nI 1)) hE dX7_note_11 (by decide) ?_
    refine zs_callV (av := [.int (nI 1)]) (st := []) hE (m_X7_fails D E B l κ x ad sc ar 1) sV_X7_81 hx rfl rfl (hO) ⟨by decide, by decide⟩ ⟨by decide, by decide⟩ (fun q w9 => Or.inl w9) (Nat.le_of_ble_eq_true rfl) dX7_note_12 (fun v5 H5 hv5 hz5 hk5 => ?_)
    obtain ⟨rfl, cz, cO⟩ := hv5
    refine zs_widen (k' := 0) (n' := 0) (by decide) (by decide) ?_
    exact zs_iret hE hr (mq_mk (S' := S) (v := .null) (k := 1) (by rw [o_note, Classical.not_not.mp h1]; rfl) cz (fun w9 => by cases w9) cO (mi_4 hM)) (by decide) (by decide) dX7_note_15

